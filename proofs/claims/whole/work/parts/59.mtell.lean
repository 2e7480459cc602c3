/-! ===== the model: told, wins, years ===== -/
theorem wrM_le {a : Nat} (ha : a ≤ 6) : wrM a ≤ 0 ↔ a = 0 := by
  have key : ∀ a, a < 7 → (wrM a ≤ 0 ↔ a = 0) := by decide +kernel
  exact key a (by omega)
theorem wrM_n {a : Nat} (h : a ≠ 0) : wrM a = nI a := by unfold wrM; rw [if_neg h]
theorem wrM_0 : wrM 0 = - nI 6 := rfl
theorem sub_neg {a b : Nat} (ha : a < 100000) (hb : b < 100000) : (nI a - nI b < 0) ↔ a < b := by
  rw [Int32.lt_iff_toInt_lt, Int32.toInt_sub, nI_toInt (by omega), nI_toInt (by omega), Int.bmod_eq_of_le (by omega) (by omega)]
  show (a : Int) - b < 0 ↔ a < b
  omega
theorem or0 (a : Int32) : a ||| nI 0 = a := by rw [nI_0]; exact Int32.or_zero
section MP
variable {ro : rQ} {d : Nat} {R : rR} {c c' c0 c1 c2 : Nat → rE} {n m v si sg k t : Nat} {w fo w' : Nat → Nat} {st pd b : Nat → Int32} {im : Nat → Option TS} {x y z : Int32}
theorem tol_nI {a : Nat} (hm : m ≤ 6) (hn : 1 ≤ n ∧ n ≤ 6) (ha : 5 ≤ a ∧ a < 1000) : tolA (n, m, v, w, fo, si, st) sg (nI a) = if 11 ≤ a ∧ a ≤ 10 + m then nI (w (a - 10)) else if 20 ≤ a ∧ a ≤ 19 + n then nI (fo (a - 20)) else - nI 2 := by
  have hne : ∀ j, j ≤ 4 → ¬ nI a = nI j := fun j hj e => by have := (sI_eq (by omega) (by omega)).mp e; omega
  unfold tolA
  rw [if_neg (hne 0 (by decide)), if_neg (hne 1 (by decide)), if_neg (hne 2 (by decide)), if_neg (hne 3 (by decide)), if_neg (hne 4 (by decide))]
  simp only [inR_iff (show a < 100000 by omega) (show 11 < 100000 by decide) (show 10 + m < 100000 by omega), inR_iff (show a < 100000 by omega) (show 20 < 100000 by decide) (show 19 + n < 100000 by omega), nI_c (show a < 100000 by omega)]
theorem ml_told (hV : VS (n, m, v, w, fo, si, st)) (hM : MS c (n, m, v, w, fo, si, st) sg pd im) (hk : R (some (.int (tolA (n, m, v, w, fo, si, st) sg x))) (tab c)) : rM ro (d + 3) 165 0 0 [.ref 53, .int x] (tab c) R := by
  obtain ⟨⟨⟨fr, ru, lu, h53⟩, h54, h55, h56, h57⟩, hsc, him⟩ := id hM
  have hn := hV.1
  have hm := hV.2.1
  rw [en_X10_told]
  simp only [s_X10_told_0, s_X10_told_1, s_X10_told_3, s_X10_told_5, s_X10_told_8, s_X10_told_11, s_X10_told_12, s_X10_told_13, s_X10_told_15, s_X10_told_16, s_X10_told_19, s_X10_told_22, s_X10_told_23, s_X10_told_26, s_X10_told_27, s_X10_told_29, s_X10_told_30, s_X10_told_31, s_X10_told_34, s_X10_told_36, s_X10_told_37, s_X10_told_38, s_X10_told_40, s_X10_told_42, s_X10_told_45, s_X10_told_48, s_X10_told_49, s_X10_told_50, s_X10_told_52, s_X10_told_53, s_X10_told_56, s_X10_told_59, s_X10_told_60, s_X10_told_63, s_X10_told_64, s_X10_told_66, s_X10_told_67, s_X10_told_68, s_X10_told_71, s_X10_told_73, s_X10_told_74, s_X10_told_104, s_X10_told_105, s_X10_told_108, s_X10_told_109, s_X10_told_110, s_X10_told_113, s_X10_told_114, s_X10_told_115, s_X10_told_118, s_X10_told_119, s_X10_told_120, s_X10_told_123, s_X10_told_124, s_X10_told_125, s_X10_told_126, s_X10_told_129, s_X10_told_130, s_X10_told_133, s_X10_told_136, s_X10_told_138]
  refine sp_in2 ?_
  simp only [Option.toList_some, Option.toList_none, List.cons_append, List.nil_append, Option.toList, s_X10_told_0, s_X10_told_1, s_X10_told_3, s_X10_told_5, s_X10_told_8, s_X10_told_11, s_X10_told_12, s_X10_told_13, s_X10_told_15, s_X10_told_16, s_X10_told_19, s_X10_told_22, s_X10_told_23, s_X10_told_26, s_X10_told_27, s_X10_told_29, s_X10_told_30, s_X10_told_31, s_X10_told_34, s_X10_told_36, s_X10_told_37, s_X10_told_38, s_X10_told_40, s_X10_told_42, s_X10_told_45, s_X10_told_48, s_X10_told_49, s_X10_told_50, s_X10_told_52, s_X10_told_53, s_X10_told_56, s_X10_told_59, s_X10_told_60, s_X10_told_63, s_X10_told_64, s_X10_told_66, s_X10_told_67, s_X10_told_68, s_X10_told_71, s_X10_told_73, s_X10_told_74, s_X10_told_104, s_X10_told_105, s_X10_told_108, s_X10_told_109, s_X10_told_110, s_X10_told_113, s_X10_told_114, s_X10_told_115, s_X10_told_118, s_X10_told_119, s_X10_told_120, s_X10_told_123, s_X10_told_124, s_X10_told_125, s_X10_told_126, s_X10_told_129, s_X10_told_130, s_X10_told_133, s_X10_told_136, s_X10_told_138, b2_0, vm_o h53]
  refine ⟨fun hx => sp_in2 ?_, fun hx => ?_⟩
  · simp only [Option.toList_some, Option.toList_none, List.cons_append, List.nil_append, Option.toList, s_X10_told_0, s_X10_told_1, s_X10_told_3, s_X10_told_5, s_X10_told_8, s_X10_told_11, s_X10_told_12, s_X10_told_13, s_X10_told_15, s_X10_told_16, s_X10_told_19, s_X10_told_22, s_X10_told_23, s_X10_told_26, s_X10_told_27, s_X10_told_29, s_X10_told_30, s_X10_told_31, s_X10_told_34, s_X10_told_36, s_X10_told_37, s_X10_told_38, s_X10_told_40, s_X10_told_42, s_X10_told_45, s_X10_told_48, s_X10_told_49, s_X10_told_50, s_X10_told_52, s_X10_told_53, s_X10_told_56, s_X10_told_59, s_X10_told_60, s_X10_told_63, s_X10_told_64, s_X10_told_66, s_X10_told_67, s_X10_told_68, s_X10_told_71, s_X10_told_73, s_X10_told_74, s_X10_told_104, s_X10_told_105, s_X10_told_108, s_X10_told_109, s_X10_told_110, s_X10_told_113, s_X10_told_114, s_X10_told_115, s_X10_told_118, s_X10_told_119, s_X10_told_120, s_X10_told_123, s_X10_told_124, s_X10_told_125, s_X10_told_126, s_X10_told_129, s_X10_told_130, s_X10_told_133, s_X10_told_136, s_X10_told_138, b2_0, vm_o h53]
    refine ⟨fun hy => ?_, fun hy => ?_⟩
    · rw [s_X10_told_75]
      by_cases hz : inR 0 3 x
      · obtain ⟨a, ha1, ha2, rfl⟩ := inR_nI hz (by decide) (by decide)
        rcases (show a = 0 ∨ a = 1 ∨ a = 2 ∨ a = 3 by omega) with rfl | rfl | rfl | rfl
        · rw [show rsw 124 0 3 [104, 109, 114, 119] (nI 0) = 104 by decide]
          simp only [s_X10_told_0, s_X10_told_1, s_X10_told_3, s_X10_told_5, s_X10_told_8, s_X10_told_11, s_X10_told_12, s_X10_told_13, s_X10_told_15, s_X10_told_16, s_X10_told_19, s_X10_told_22, s_X10_told_23, s_X10_told_26, s_X10_told_27, s_X10_told_29, s_X10_told_30, s_X10_told_31, s_X10_told_34, s_X10_told_36, s_X10_told_37, s_X10_told_38, s_X10_told_40, s_X10_told_42, s_X10_told_45, s_X10_told_48, s_X10_told_49, s_X10_told_50, s_X10_told_52, s_X10_told_53, s_X10_told_56, s_X10_told_59, s_X10_told_60, s_X10_told_63, s_X10_told_64, s_X10_told_66, s_X10_told_67, s_X10_told_68, s_X10_told_71, s_X10_told_73, s_X10_told_74, s_X10_told_104, s_X10_told_105, s_X10_told_108, s_X10_told_109, s_X10_told_110, s_X10_told_113, s_X10_told_114, s_X10_told_115, s_X10_told_118, s_X10_told_119, s_X10_told_120, s_X10_told_123, s_X10_told_124, s_X10_told_125, s_X10_told_126, s_X10_told_129, s_X10_told_130, s_X10_told_133, s_X10_told_136, s_X10_told_138, gm7 h53]
          exact hk
        · rw [show rsw 124 0 3 [104, 109, 114, 119] (nI 1) = 109 by decide]
          simp only [s_X10_told_0, s_X10_told_1, s_X10_told_3, s_X10_told_5, s_X10_told_8, s_X10_told_11, s_X10_told_12, s_X10_told_13, s_X10_told_15, s_X10_told_16, s_X10_told_19, s_X10_told_22, s_X10_told_23, s_X10_told_26, s_X10_told_27, s_X10_told_29, s_X10_told_30, s_X10_told_31, s_X10_told_34, s_X10_told_36, s_X10_told_37, s_X10_told_38, s_X10_told_40, s_X10_told_42, s_X10_told_45, s_X10_told_48, s_X10_told_49, s_X10_told_50, s_X10_told_52, s_X10_told_53, s_X10_told_56, s_X10_told_59, s_X10_told_60, s_X10_told_63, s_X10_told_64, s_X10_told_66, s_X10_told_67, s_X10_told_68, s_X10_told_71, s_X10_told_73, s_X10_told_74, s_X10_told_104, s_X10_told_105, s_X10_told_108, s_X10_told_109, s_X10_told_110, s_X10_told_113, s_X10_told_114, s_X10_told_115, s_X10_told_118, s_X10_told_119, s_X10_told_120, s_X10_told_123, s_X10_told_124, s_X10_told_125, s_X10_told_126, s_X10_told_129, s_X10_told_130, s_X10_told_133, s_X10_told_136, s_X10_told_138, gm0 h53]
          exact hk
        · rw [show rsw 124 0 3 [104, 109, 114, 119] (nI 2) = 114 by decide]
          simp only [s_X10_told_0, s_X10_told_1, s_X10_told_3, s_X10_told_5, s_X10_told_8, s_X10_told_11, s_X10_told_12, s_X10_told_13, s_X10_told_15, s_X10_told_16, s_X10_told_19, s_X10_told_22, s_X10_told_23, s_X10_told_26, s_X10_told_27, s_X10_told_29, s_X10_told_30, s_X10_told_31, s_X10_told_34, s_X10_told_36, s_X10_told_37, s_X10_told_38, s_X10_told_40, s_X10_told_42, s_X10_told_45, s_X10_told_48, s_X10_told_49, s_X10_told_50, s_X10_told_52, s_X10_told_53, s_X10_told_56, s_X10_told_59, s_X10_told_60, s_X10_told_63, s_X10_told_64, s_X10_told_66, s_X10_told_67, s_X10_told_68, s_X10_told_71, s_X10_told_73, s_X10_told_74, s_X10_told_104, s_X10_told_105, s_X10_told_108, s_X10_told_109, s_X10_told_110, s_X10_told_113, s_X10_told_114, s_X10_told_115, s_X10_told_118, s_X10_told_119, s_X10_told_120, s_X10_told_123, s_X10_told_124, s_X10_told_125, s_X10_told_126, s_X10_told_129, s_X10_told_130, s_X10_told_133, s_X10_told_136, s_X10_told_138, gm1 h53]
          exact hk
        · rw [show rsw 124 0 3 [104, 109, 114, 119] (nI 3) = 119 by decide]
          simp only [s_X10_told_0, s_X10_told_1, s_X10_told_3, s_X10_told_5, s_X10_told_8, s_X10_told_11, s_X10_told_12, s_X10_told_13, s_X10_told_15, s_X10_told_16, s_X10_told_19, s_X10_told_22, s_X10_told_23, s_X10_told_26, s_X10_told_27, s_X10_told_29, s_X10_told_30, s_X10_told_31, s_X10_told_34, s_X10_told_36, s_X10_told_37, s_X10_told_38, s_X10_told_40, s_X10_told_42, s_X10_told_45, s_X10_told_48, s_X10_told_49, s_X10_told_50, s_X10_told_52, s_X10_told_53, s_X10_told_56, s_X10_told_59, s_X10_told_60, s_X10_told_63, s_X10_told_64, s_X10_told_66, s_X10_told_67, s_X10_told_68, s_X10_told_71, s_X10_told_73, s_X10_told_74, s_X10_told_104, s_X10_told_105, s_X10_told_108, s_X10_told_109, s_X10_told_110, s_X10_told_113, s_X10_told_114, s_X10_told_115, s_X10_told_118, s_X10_told_119, s_X10_told_120, s_X10_told_123, s_X10_told_124, s_X10_told_125, s_X10_told_126, s_X10_told_129, s_X10_told_130, s_X10_told_133, s_X10_told_136, s_X10_told_138, gm2 h53]
          exact hk
      · have hsw : rsw 124 0 3 [104, 109, 114, 119] x = 124 := by
          unfold rsw
          rw [if_pos]
          rcases not_inR hz with q | q
          · rw [Int32.lt_iff_toInt_lt, nI_toInt (by decide)] at q; exact Or.inl q
          · rw [Int32.lt_iff_toInt_lt, nI_toInt (by decide)] at q; exact Or.inr q
        have hne : ∀ a, a ≤ 3 → ¬ x = nI a := fun a ha e => hz (by rw [e]; exact inR_of (by omega) ha (by decide))
        rw [tolA, if_neg (hne 0 (by decide)), if_neg (hne 1 (by decide)), if_neg (hne 2 (by decide)), if_neg (hne 3 (by decide))] at hk
        rw [hsw]
        simp only [s_X10_told_0, s_X10_told_1, s_X10_told_3, s_X10_told_5, s_X10_told_8, s_X10_told_11, s_X10_told_12, s_X10_told_13, s_X10_told_15, s_X10_told_16, s_X10_told_19, s_X10_told_22, s_X10_told_23, s_X10_told_26, s_X10_told_27, s_X10_told_29, s_X10_told_30, s_X10_told_31, s_X10_told_34, s_X10_told_36, s_X10_told_37, s_X10_told_38, s_X10_told_40, s_X10_told_42, s_X10_told_45, s_X10_told_48, s_X10_told_49, s_X10_told_50, s_X10_told_52, s_X10_told_53, s_X10_told_56, s_X10_told_59, s_X10_told_60, s_X10_told_63, s_X10_told_64, s_X10_told_66, s_X10_told_67, s_X10_told_68, s_X10_told_71, s_X10_told_73, s_X10_told_74, s_X10_told_104, s_X10_told_105, s_X10_told_108, s_X10_told_109, s_X10_told_110, s_X10_told_113, s_X10_told_114, s_X10_told_115, s_X10_told_118, s_X10_told_119, s_X10_told_120, s_X10_told_123, s_X10_told_124, s_X10_told_125, s_X10_told_126, s_X10_told_129, s_X10_told_130, s_X10_told_133, s_X10_told_136, s_X10_told_138, gm5 h53]
        refine ⟨fun h4 => ?_, fun h4 => ?_⟩
        · rw [if_pos h4] at hk; exact hk
        · rw [if_neg h4, if_neg, if_neg] at hk
          · exact hk
          · exact fun q => hy ⟨q.1, Int32.le_trans q.2 ((sI_le (by show 19 + n < 100000; omega) (by decide)).mpr (by show 19 + n ≤ 25; omega))⟩
          · exact fun q => hx ⟨q.1, Int32.le_trans q.2 ((sI_le (by show 10 + m < 100000; omega) (by decide)).mpr (by show 10 + m ≤ 16; omega))⟩
    · have hy := Decidable.not_not.mp hy
      obtain ⟨a, ha1, ha2, rfl⟩ := inR_nI hy (by decide) (by decide)
      rw [tol_nI hm.2 (by omega) (by omega), if_neg (by omega)] at hk
      simp only [sI_sub (show 20 ≤ a by omega)]
      refine sp_isMan2 h53 (by omega) ?_
      simp only [Option.toList_some, Option.toList_none, List.cons_append, List.nil_append, Option.toList, s_X10_told_0, s_X10_told_1, s_X10_told_3, s_X10_told_5, s_X10_told_8, s_X10_told_11, s_X10_told_12, s_X10_told_13, s_X10_told_15, s_X10_told_16, s_X10_told_19, s_X10_told_22, s_X10_told_23, s_X10_told_26, s_X10_told_27, s_X10_told_29, s_X10_told_30, s_X10_told_31, s_X10_told_34, s_X10_told_36, s_X10_told_37, s_X10_told_38, s_X10_told_40, s_X10_told_42, s_X10_told_45, s_X10_told_48, s_X10_told_49, s_X10_told_50, s_X10_told_52, s_X10_told_53, s_X10_told_56, s_X10_told_59, s_X10_told_60, s_X10_told_63, s_X10_told_64, s_X10_told_66, s_X10_told_67, s_X10_told_68, s_X10_told_71, s_X10_told_73, s_X10_told_74, s_X10_told_104, s_X10_told_105, s_X10_told_108, s_X10_told_109, s_X10_told_110, s_X10_told_113, s_X10_told_114, s_X10_told_115, s_X10_told_118, s_X10_told_119, s_X10_told_120, s_X10_told_123, s_X10_told_124, s_X10_told_125, s_X10_told_126, s_X10_told_129, s_X10_told_130, s_X10_told_133, s_X10_told_136, s_X10_told_138, b2_0, gm4 h53, inR_iff (show a - 20 < 100000 by omega) (show 0 < 100000 by decide) (show n - 1 < 100000 by omega), sI_sub (show 20 ≤ a by omega)]
      refine ⟨fun hq => ?_, fun hq => ?_⟩
      · rw [if_neg (by omega)] at hk; exact hk
      · rw [if_pos (by omega)] at hk
        simp only [ai_i h55 (show 55 < 70 by decide) (show a - 20 < 6 by omega) (by decide)]
        exact hk
  · have hx := Decidable.not_not.mp hx
    obtain ⟨a, ha1, ha2, rfl⟩ := inR_nI hx (by decide) (by decide)
    rw [tol_nI hm.2 (by omega) (by omega)] at hk
    simp only [sI_sub (show 10 ≤ a by omega)]
    refine sp_isNum2 h53 ?_
    simp only [Option.toList_some, Option.toList_none, List.cons_append, List.nil_append, Option.toList, s_X10_told_0, s_X10_told_1, s_X10_told_3, s_X10_told_5, s_X10_told_8, s_X10_told_11, s_X10_told_12, s_X10_told_13, s_X10_told_15, s_X10_told_16, s_X10_told_19, s_X10_told_22, s_X10_told_23, s_X10_told_26, s_X10_told_27, s_X10_told_29, s_X10_told_30, s_X10_told_31, s_X10_told_34, s_X10_told_36, s_X10_told_37, s_X10_told_38, s_X10_told_40, s_X10_told_42, s_X10_told_45, s_X10_told_48, s_X10_told_49, s_X10_told_50, s_X10_told_52, s_X10_told_53, s_X10_told_56, s_X10_told_59, s_X10_told_60, s_X10_told_63, s_X10_told_64, s_X10_told_66, s_X10_told_67, s_X10_told_68, s_X10_told_71, s_X10_told_73, s_X10_told_74, s_X10_told_104, s_X10_told_105, s_X10_told_108, s_X10_told_109, s_X10_told_110, s_X10_told_113, s_X10_told_114, s_X10_told_115, s_X10_told_118, s_X10_told_119, s_X10_told_120, s_X10_told_123, s_X10_told_124, s_X10_told_125, s_X10_told_126, s_X10_told_129, s_X10_told_130, s_X10_told_133, s_X10_told_136, s_X10_told_138, b2_0, gm3 h53, inR_iff (show a - 10 < 100000 by omega) (show 1 < 100000 by decide) (show m < 100000 by omega), sI_sub (show 10 ≤ a by omega)]
    refine ⟨fun hq => ?_, fun hq => ?_⟩
    · rw [if_neg (by omega), if_neg (by omega)] at hk; exact hk
    · rw [if_pos (by omega)] at hk
      simp only [ai_i h54 (show 54 < 70 by decide) (show a - 10 < 7 by omega) (by decide)]
      exact hk
theorem ml_wins (hV : VS (n, m, v, w, fo, si, st)) (hs : sg ≤ 48) (hM : MS c (n, m, v, w, fo, si, st) sg pd im) (hk : ∀ c', frm MM c c' → MS c' (n, m, v, w, fo, si, st) sg pd im → R (some (.int (winA (n, m, v, w, fo, si, st) sg pd x))) (tab c')) : rM ro (d + 4) 112 0 0 [.ref 53, .int x] (tab c) R := by
  obtain ⟨⟨⟨fr, ru, lu, h53⟩, h54, h55, h56, h57⟩, hsc, him⟩ := id hM
  have hn := hV.1
  have hm := hV.2.1
  rw [en_X10_wins]
  simp only [s_X10_wins_0, s_X10_wins_1, s_X10_wins_2, s_X10_wins_3, s_X10_wins_6, s_X10_wins_9, s_X10_wins_11, s_X10_wins_12, s_X10_wins_13, s_X10_wins_16, s_X10_wins_19, s_X10_wins_21, s_X10_wins_22, s_X10_wins_23, s_X10_wins_26, s_X10_wins_27, s_X10_wins_29, s_X10_wins_30, s_X10_wins_33, s_X10_wins_36, s_X10_wins_37, s_X10_wins_40, s_X10_wins_41, s_X10_wins_42, s_X10_wins_44, s_X10_wins_47, s_X10_wins_49, s_X10_wins_50, s_X10_wins_51, s_X10_wins_54, s_X10_wins_55, s_X10_wins_58, s_X10_wins_59, s_X10_wins_60, s_X10_wins_62, s_X10_wins_63, s_X10_wins_64, s_X10_wins_65, s_X10_wins_66, s_X10_wins_67, s_X10_wins_68, s_X10_wins_71, s_X10_wins_74, s_X10_wins_75, s_X10_wins_76, s_X10_wins_79, s_X10_wins_82, s_X10_wins_83, s_X10_wins_84, s_X10_wins_85, s_X10_wins_86, s_X10_wins_90, s_X10_wins_91, s_X10_wins_94, s_X10_wins_97, s_X10_wins_98, s_X10_wins_99, s_X10_wins_102, s_X10_wins_103, s_X10_wins_106, s_X10_wins_108, s_X10_wins_109, s_X10_wins_111, s_X10_wins_112, s_X10_wins_113, s_X10_wins_116, s_X10_wins_117, s_X10_wins_119, s_X10_wins_120, s_X10_wins_123, s_X10_wins_124, s_X10_wins_125, s_X10_wins_126, s_X10_wins_129, s_X10_wins_132, s_X10_wins_133, s_X10_wins_136, s_X10_wins_137, s_X10_wins_140, s_X10_wins_141, s_X10_wins_144, s_X10_wins_145]
  refine sp_in2 ?_
  simp only [Option.toList_some, Option.toList_none, List.cons_append, List.nil_append, Option.toList, s_X10_wins_0, s_X10_wins_1, s_X10_wins_2, s_X10_wins_3, s_X10_wins_6, s_X10_wins_9, s_X10_wins_11, s_X10_wins_12, s_X10_wins_13, s_X10_wins_16, s_X10_wins_19, s_X10_wins_21, s_X10_wins_22, s_X10_wins_23, s_X10_wins_26, s_X10_wins_27, s_X10_wins_29, s_X10_wins_30, s_X10_wins_33, s_X10_wins_36, s_X10_wins_37, s_X10_wins_40, s_X10_wins_41, s_X10_wins_42, s_X10_wins_44, s_X10_wins_47, s_X10_wins_49, s_X10_wins_50, s_X10_wins_51, s_X10_wins_54, s_X10_wins_55, s_X10_wins_58, s_X10_wins_59, s_X10_wins_60, s_X10_wins_62, s_X10_wins_63, s_X10_wins_64, s_X10_wins_65, s_X10_wins_66, s_X10_wins_67, s_X10_wins_68, s_X10_wins_71, s_X10_wins_74, s_X10_wins_75, s_X10_wins_76, s_X10_wins_79, s_X10_wins_82, s_X10_wins_83, s_X10_wins_84, s_X10_wins_85, s_X10_wins_86, s_X10_wins_90, s_X10_wins_91, s_X10_wins_94, s_X10_wins_97, s_X10_wins_98, s_X10_wins_99, s_X10_wins_102, s_X10_wins_103, s_X10_wins_106, s_X10_wins_108, s_X10_wins_109, s_X10_wins_111, s_X10_wins_112, s_X10_wins_113, s_X10_wins_116, s_X10_wins_117, s_X10_wins_119, s_X10_wins_120, s_X10_wins_123, s_X10_wins_124, s_X10_wins_125, s_X10_wins_126, s_X10_wins_129, s_X10_wins_132, s_X10_wins_133, s_X10_wins_136, s_X10_wins_137, s_X10_wins_140, s_X10_wins_141, s_X10_wins_144, s_X10_wins_145, b2_0, vm_o h53]
  refine ⟨fun hx => ?_, fun hx => ml_faultOf hV hs hM ?_⟩
  · have := hk c frm.rf hM
    rw [winA, if_neg hx] at this
    exact this
  have hx := Decidable.not_not.mp hx
  simp only [Option.toList_some, Option.toList_none, List.cons_append, List.nil_append, Option.toList, s_X10_wins_0, s_X10_wins_1, s_X10_wins_2, s_X10_wins_3, s_X10_wins_6, s_X10_wins_9, s_X10_wins_11, s_X10_wins_12, s_X10_wins_13, s_X10_wins_16, s_X10_wins_19, s_X10_wins_21, s_X10_wins_22, s_X10_wins_23, s_X10_wins_26, s_X10_wins_27, s_X10_wins_29, s_X10_wins_30, s_X10_wins_33, s_X10_wins_36, s_X10_wins_37, s_X10_wins_40, s_X10_wins_41, s_X10_wins_42, s_X10_wins_44, s_X10_wins_47, s_X10_wins_49, s_X10_wins_50, s_X10_wins_51, s_X10_wins_54, s_X10_wins_55, s_X10_wins_58, s_X10_wins_59, s_X10_wins_60, s_X10_wins_62, s_X10_wins_63, s_X10_wins_64, s_X10_wins_65, s_X10_wins_66, s_X10_wins_67, s_X10_wins_68, s_X10_wins_71, s_X10_wins_74, s_X10_wins_75, s_X10_wins_76, s_X10_wins_79, s_X10_wins_82, s_X10_wins_83, s_X10_wins_84, s_X10_wins_85, s_X10_wins_86, s_X10_wins_90, s_X10_wins_91, s_X10_wins_94, s_X10_wins_97, s_X10_wins_98, s_X10_wins_99, s_X10_wins_102, s_X10_wins_103, s_X10_wins_106, s_X10_wins_108, s_X10_wins_109, s_X10_wins_111, s_X10_wins_112, s_X10_wins_113, s_X10_wins_116, s_X10_wins_117, s_X10_wins_119, s_X10_wins_120, s_X10_wins_123, s_X10_wins_124, s_X10_wins_125, s_X10_wins_126, s_X10_wins_129, s_X10_wins_132, s_X10_wins_133, s_X10_wins_136, s_X10_wins_137, s_X10_wins_140, s_X10_wins_141, s_X10_wins_144, s_X10_wins_145, vm_o h53, flt_ge hs]
  refine ⟨fun hf => sp_X10_nobodyWrote h53 hsc.1 fun c1 f1 hi1 => ?_, fun hf => ?_⟩
  case refine_2 =>
    have := hk c frm.rf hM
    rw [winA, if_pos hx, if_neg hf] at this
    exact this
  obtain ⟨hsg, hsl⟩ := flt_no hn.1 hs hf
  have hsg : sg = n := hsg
  subst hsg
  have hsl : ∀ j, j < sg → slp m (pd j) := hsl
  have hms : ∀ c1, frm [58] c c1 → tyI c1 58 7 → MS c1 (sg, m, v, w, fo, si, st) sg pd im := fun c1 f1 t1 => hM.sc (f1.mono rfl) ⟨_, _, _, (f1 53 rfl).trans h53⟩ ⟨t1, hsc.2.1.fr f1 rfl, hsc.2.2.1.fr f1 rfl, hsc.2.2.2.1.fr f1 rfl, hsc.2.2.2.2.1.fr f1 rfl, hsc.2.2.2.2.2.1.fr f1 rfl, hsc.2.2.2.2.2.2.1.fr f1 rfl, hsc.2.2.2.2.2.2.2.1.fr f1 rfl, hsc.2.2.2.2.2.2.2.2.1.fr f1 rfl, hsc.2.2.2.2.2.2.2.2.2.fr f1 rfl⟩
  have hw0 : ∀ c1, frm [58] c c1 → tyI c1 58 7 → R (some (.int (if untB pd sg 0 = true then - nI 3 else if wnQ (sg, m, v, w, fo, si, st) pd = 0 then - nI 6 else if x = 0 then nI (wnQ (sg, m, v, w, fo, si, st) pd) else orS (fun i => pdS pd i == wnQ (sg, m, v, w, fo, si, st) pd) sg 0 (nI 0)))) (tab c1) := fun c1 f1 t1 => by
    have := hk c1 (f1.mono rfl) (hms c1 f1 t1)
    rw [winA, if_pos hx, if_pos hf] at this
    exact this
  have hpv : ∀ j, j < sg → ¬ pd j = nI 63 → pdS pd j ≤ m ∧ pd j - nI 48 = nI (pdS pd j) := fun j hj hne => by
    obtain ⟨a, ha1, ha2⟩ := (slp_cs hm.2 (hsl j hj)).resolve_left hne
    have h48 := pd48 (show a ≤ 6 by omega)
    unfold pdS
    rw [ha2, h48.2.2.2]
    exact ⟨ha1, h48.2.2.1⟩
  simp only [Option.toList_some, Option.toList_none, List.cons_append, List.nil_append, Option.toList, s_X10_wins_0, s_X10_wins_1, s_X10_wins_2, s_X10_wins_3, s_X10_wins_6, s_X10_wins_9, s_X10_wins_11, s_X10_wins_12, s_X10_wins_13, s_X10_wins_16, s_X10_wins_19, s_X10_wins_21, s_X10_wins_22, s_X10_wins_23, s_X10_wins_26, s_X10_wins_27, s_X10_wins_29, s_X10_wins_30, s_X10_wins_33, s_X10_wins_36, s_X10_wins_37, s_X10_wins_40, s_X10_wins_41, s_X10_wins_42, s_X10_wins_44, s_X10_wins_47, s_X10_wins_49, s_X10_wins_50, s_X10_wins_51, s_X10_wins_54, s_X10_wins_55, s_X10_wins_58, s_X10_wins_59, s_X10_wins_60, s_X10_wins_62, s_X10_wins_63, s_X10_wins_64, s_X10_wins_65, s_X10_wins_66, s_X10_wins_67, s_X10_wins_68, s_X10_wins_71, s_X10_wins_74, s_X10_wins_75, s_X10_wins_76, s_X10_wins_79, s_X10_wins_82, s_X10_wins_83, s_X10_wins_84, s_X10_wins_85, s_X10_wins_86, s_X10_wins_90, s_X10_wins_91, s_X10_wins_94, s_X10_wins_97, s_X10_wins_98, s_X10_wins_99, s_X10_wins_102, s_X10_wins_103, s_X10_wins_106, s_X10_wins_108, s_X10_wins_109, s_X10_wins_111, s_X10_wins_112, s_X10_wins_113, s_X10_wins_116, s_X10_wins_117, s_X10_wins_119, s_X10_wins_120, s_X10_wins_123, s_X10_wins_124, s_X10_wins_125, s_X10_wins_126, s_X10_wins_129, s_X10_wins_132, s_X10_wins_133, s_X10_wins_136, s_X10_wins_137, s_X10_wins_140, s_X10_wins_141, s_X10_wins_144, s_X10_wins_145]
  refine ⟨rfl, ?_⟩
  have lp : ∀ rem i c2 b, i + rem = sg → frm [58] c c2 → isI c2 58 7 b → slB (pdS pd) rem i b = slB (pdS pd) sg 0 zrB → untB pd rem i = untB pd sg 0 → (untB pd sg 0 = false → ∀ j, j < sg → ¬ pd j = nI 63) → rU ro (d + 3) tb_X10_wins R 28 [.ref 53, .int x, .int (nI i), .null, .null] [] (tab c2) := by
    intro rem
    induction rem with
    | zero =>
      intro i c2 b hi f2 hi2 hb hu hno
      have : i = sg := by omega
      subst this
      rw [slB] at hb
      subst hb
      rw [untB] at hu
      have hall := hno hu.symm
      have hw2 := hw0 c2 f2 hi2.ty
      rw [← hu, if_neg (by decide)] at hw2
      have e53 := (f2 53 rfl).trans h53
      have h572 := h57.fr f2 rfl
      rw [s_X10_wins_28]
      simp only [s_X10_wins_0, s_X10_wins_1, s_X10_wins_2, s_X10_wins_3, s_X10_wins_6, s_X10_wins_9, s_X10_wins_11, s_X10_wins_12, s_X10_wins_13, s_X10_wins_16, s_X10_wins_19, s_X10_wins_21, s_X10_wins_22, s_X10_wins_23, s_X10_wins_26, s_X10_wins_27, s_X10_wins_29, s_X10_wins_30, s_X10_wins_33, s_X10_wins_36, s_X10_wins_37, s_X10_wins_40, s_X10_wins_41, s_X10_wins_42, s_X10_wins_44, s_X10_wins_47, s_X10_wins_49, s_X10_wins_50, s_X10_wins_51, s_X10_wins_54, s_X10_wins_55, s_X10_wins_58, s_X10_wins_59, s_X10_wins_60, s_X10_wins_62, s_X10_wins_63, s_X10_wins_64, s_X10_wins_65, s_X10_wins_66, s_X10_wins_67, s_X10_wins_68, s_X10_wins_71, s_X10_wins_74, s_X10_wins_75, s_X10_wins_76, s_X10_wins_79, s_X10_wins_82, s_X10_wins_83, s_X10_wins_84, s_X10_wins_85, s_X10_wins_86, s_X10_wins_90, s_X10_wins_91, s_X10_wins_94, s_X10_wins_97, s_X10_wins_98, s_X10_wins_99, s_X10_wins_102, s_X10_wins_103, s_X10_wins_106, s_X10_wins_108, s_X10_wins_109, s_X10_wins_111, s_X10_wins_112, s_X10_wins_113, s_X10_wins_116, s_X10_wins_117, s_X10_wins_119, s_X10_wins_120, s_X10_wins_123, s_X10_wins_124, s_X10_wins_125, s_X10_wins_126, s_X10_wins_129, s_X10_wins_132, s_X10_wins_133, s_X10_wins_136, s_X10_wins_137, s_X10_wins_140, s_X10_wins_141, s_X10_wins_144, s_X10_wins_145, gm0 e53, gm9 e53, vm_o e53]
      refine ⟨fun _ => sp_X10_winner' e53 hi2 (by decide) hm.2 hV.2.2.1 ?_, fun hc => absurd ((sI_le (by omega) (by omega)).mpr (Nat.le_refl _)) hc⟩
      have hwq : winF v m (slB (pdS pd) i 0 zrB) = wnQ (i, m, v, w, fo, si, st) pd := rfl
      have hwl : wnQ (i, m, v, w, fo, si, st) pd ≤ 6 := by rw [← hwq]; exact Nat.le_trans winF_le hm.2
      rw [hwq]
      simp only [Option.toList_some, Option.toList_none, List.cons_append, List.nil_append, Option.toList, s_X10_wins_0, s_X10_wins_1, s_X10_wins_2, s_X10_wins_3, s_X10_wins_6, s_X10_wins_9, s_X10_wins_11, s_X10_wins_12, s_X10_wins_13, s_X10_wins_16, s_X10_wins_19, s_X10_wins_21, s_X10_wins_22, s_X10_wins_23, s_X10_wins_26, s_X10_wins_27, s_X10_wins_29, s_X10_wins_30, s_X10_wins_33, s_X10_wins_36, s_X10_wins_37, s_X10_wins_40, s_X10_wins_41, s_X10_wins_42, s_X10_wins_44, s_X10_wins_47, s_X10_wins_49, s_X10_wins_50, s_X10_wins_51, s_X10_wins_54, s_X10_wins_55, s_X10_wins_58, s_X10_wins_59, s_X10_wins_60, s_X10_wins_62, s_X10_wins_63, s_X10_wins_64, s_X10_wins_65, s_X10_wins_66, s_X10_wins_67, s_X10_wins_68, s_X10_wins_71, s_X10_wins_74, s_X10_wins_75, s_X10_wins_76, s_X10_wins_79, s_X10_wins_82, s_X10_wins_83, s_X10_wins_84, s_X10_wins_85, s_X10_wins_86, s_X10_wins_90, s_X10_wins_91, s_X10_wins_94, s_X10_wins_97, s_X10_wins_98, s_X10_wins_99, s_X10_wins_102, s_X10_wins_103, s_X10_wins_106, s_X10_wins_108, s_X10_wins_109, s_X10_wins_111, s_X10_wins_112, s_X10_wins_113, s_X10_wins_116, s_X10_wins_117, s_X10_wins_119, s_X10_wins_120, s_X10_wins_123, s_X10_wins_124, s_X10_wins_125, s_X10_wins_126, s_X10_wins_129, s_X10_wins_132, s_X10_wins_133, s_X10_wins_136, s_X10_wins_137, s_X10_wins_140, s_X10_wins_141, s_X10_wins_144, s_X10_wins_145]
      refine ⟨rfl, rfl, rfl, ?_⟩
      have lp2 : ∀ rem j (a : Int32), j + rem = i → orS (fun i_1 => decide (wnQ (i, m, v, w, fo, si, st) pd ≠ 0) && (pdS pd i_1 == wnQ (i, m, v, w, fo, si, st) pd)) rem j a = orS (fun i_1 => decide (wnQ (i, m, v, w, fo, si, st) pd ≠ 0) && (pdS pd i_1 == wnQ (i, m, v, w, fo, si, st) pd)) i 0 (nI 0) → rU ro (d + 3) tb_X10_wins R 88 [.ref 53, .int x, .int (wrM (wnQ (i, m, v, w, fo, si, st) pd)), .int a, .int (nI j)] [] (tab c2) := by
        intro rem2
        induction rem2 with
        | zero =>
          intro j a hj ha
          have : j = i := by omega
          subst this
          rw [orS] at ha
          rw [s_X10_wins_88]
          simp only [s_X10_wins_0, s_X10_wins_1, s_X10_wins_2, s_X10_wins_3, s_X10_wins_6, s_X10_wins_9, s_X10_wins_11, s_X10_wins_12, s_X10_wins_13, s_X10_wins_16, s_X10_wins_19, s_X10_wins_21, s_X10_wins_22, s_X10_wins_23, s_X10_wins_26, s_X10_wins_27, s_X10_wins_29, s_X10_wins_30, s_X10_wins_33, s_X10_wins_36, s_X10_wins_37, s_X10_wins_40, s_X10_wins_41, s_X10_wins_42, s_X10_wins_44, s_X10_wins_47, s_X10_wins_49, s_X10_wins_50, s_X10_wins_51, s_X10_wins_54, s_X10_wins_55, s_X10_wins_58, s_X10_wins_59, s_X10_wins_60, s_X10_wins_62, s_X10_wins_63, s_X10_wins_64, s_X10_wins_65, s_X10_wins_66, s_X10_wins_67, s_X10_wins_68, s_X10_wins_71, s_X10_wins_74, s_X10_wins_75, s_X10_wins_76, s_X10_wins_79, s_X10_wins_82, s_X10_wins_83, s_X10_wins_84, s_X10_wins_85, s_X10_wins_86, s_X10_wins_90, s_X10_wins_91, s_X10_wins_94, s_X10_wins_97, s_X10_wins_98, s_X10_wins_99, s_X10_wins_102, s_X10_wins_103, s_X10_wins_106, s_X10_wins_108, s_X10_wins_109, s_X10_wins_111, s_X10_wins_112, s_X10_wins_113, s_X10_wins_116, s_X10_wins_117, s_X10_wins_119, s_X10_wins_120, s_X10_wins_123, s_X10_wins_124, s_X10_wins_125, s_X10_wins_126, s_X10_wins_129, s_X10_wins_132, s_X10_wins_133, s_X10_wins_136, s_X10_wins_137, s_X10_wins_140, s_X10_wins_141, s_X10_wins_144, s_X10_wins_145, gm0 e53, wrM_neg hwl]
          refine ⟨fun _ => ⟨fun h0 => ?_, fun h0 => ⟨fun hx0 => ?_, fun hx0 => ?_⟩⟩, fun hc => absurd ((sI_le (by omega) (by omega)).mpr (Nat.le_refl _)) hc⟩
          · rw [if_pos h0] at hw2
            rw [h0, wrM_0]; exact hw2
          · rw [if_neg h0, if_pos hx0] at hw2
            rw [wrM_n h0]; exact hw2
          · rw [if_neg h0, if_neg hx0] at hw2
            rw [ha]
            refine Eq.mp (congrArg (fun a => R (some (.int a)) (tab c2)) (orS_cg j 0 (nI 0) fun y _ _ => ?_)) hw2
            rw [decide_eq_true h0, Bool.true_and]
        | succ rem2 ih2 =>
          intro j a hj ha
          rw [orS] at ha
          have hp := hpv j (by omega) (hall j (by omega))
          rw [s_X10_wins_88]
          simp only [s_X10_wins_0, s_X10_wins_1, s_X10_wins_2, s_X10_wins_3, s_X10_wins_6, s_X10_wins_9, s_X10_wins_11, s_X10_wins_12, s_X10_wins_13, s_X10_wins_16, s_X10_wins_19, s_X10_wins_21, s_X10_wins_22, s_X10_wins_23, s_X10_wins_26, s_X10_wins_27, s_X10_wins_29, s_X10_wins_30, s_X10_wins_33, s_X10_wins_36, s_X10_wins_37, s_X10_wins_40, s_X10_wins_41, s_X10_wins_42, s_X10_wins_44, s_X10_wins_47, s_X10_wins_49, s_X10_wins_50, s_X10_wins_51, s_X10_wins_54, s_X10_wins_55, s_X10_wins_58, s_X10_wins_59, s_X10_wins_60, s_X10_wins_62, s_X10_wins_63, s_X10_wins_64, s_X10_wins_65, s_X10_wins_66, s_X10_wins_67, s_X10_wins_68, s_X10_wins_71, s_X10_wins_74, s_X10_wins_75, s_X10_wins_76, s_X10_wins_79, s_X10_wins_82, s_X10_wins_83, s_X10_wins_84, s_X10_wins_85, s_X10_wins_86, s_X10_wins_90, s_X10_wins_91, s_X10_wins_94, s_X10_wins_97, s_X10_wins_98, s_X10_wins_99, s_X10_wins_102, s_X10_wins_103, s_X10_wins_106, s_X10_wins_108, s_X10_wins_109, s_X10_wins_111, s_X10_wins_112, s_X10_wins_113, s_X10_wins_116, s_X10_wins_117, s_X10_wins_119, s_X10_wins_120, s_X10_wins_123, s_X10_wins_124, s_X10_wins_125, s_X10_wins_126, s_X10_wins_129, s_X10_wins_132, s_X10_wins_133, s_X10_wins_136, s_X10_wins_137, s_X10_wins_140, s_X10_wins_141, s_X10_wins_144, s_X10_wins_145, gm0 e53, gm8 e53, wrM_le hwl, sI_le (show i < 100000 by omega) (show j < 100000 by omega), ai_i h572 (show 57 < 70 by decide) (show j < 48 by omega) (by decide), hp.2, nI_add, or0]
          refine ⟨fun hc => absurd hc (by omega), fun _ => ⟨fun h0 => ⟨rfl, rfl, ih2 (j + 1) _ (by omega) ?_⟩, fun h0 => ⟨fun he => ⟨rfl, rfl, ih2 (j + 1) _ (by omega) ?_⟩, fun he => ⟨rfl, rfl, ih2 (j + 1) _ (by omega) ?_⟩⟩⟩⟩
          · rw [show (decide (wnQ (i, m, v, w, fo, si, st) pd ≠ 0) && (pdS pd j == wnQ (i, m, v, w, fo, si, st) pd)) = false by rw [decide_eq_false (fun q => q h0)]; rfl, if_neg (by decide)] at ha
            exact ha
          · rw [wrM_n h0] at he
            have he := (sI_eq (by omega) (by omega)).mp he
            rw [show (decide (wnQ (i, m, v, w, fo, si, st) pd ≠ 0) && (pdS pd j == wnQ (i, m, v, w, fo, si, st) pd)) = true by rw [decide_eq_true h0, he]; simp, if_pos rfl] at ha
            exact ha
          · rw [wrM_n h0] at he
            have he : ¬ pdS pd j = wnQ (i, m, v, w, fo, si, st) pd := fun e => he (by rw [e])
            rw [show (decide (wnQ (i, m, v, w, fo, si, st) pd ≠ 0) && (pdS pd j == wnQ (i, m, v, w, fo, si, st) pd)) = false by rw [decide_eq_true h0]; simp [he], if_neg (by decide)] at ha
            exact ha
      exact lp2 i 0 _ (by omega) rfl
    | succ rem ih =>
      intro i c2 b hi f2 hi2 hb hu hno
      rw [slB] at hb
      rw [untB] at hu
      have e53 := (f2 53 rfl).trans h53
      have h572 := h57.fr f2 rfl
      rw [s_X10_wins_28]
      simp only [s_X10_wins_0, s_X10_wins_1, s_X10_wins_2, s_X10_wins_3, s_X10_wins_6, s_X10_wins_9, s_X10_wins_11, s_X10_wins_12, s_X10_wins_13, s_X10_wins_16, s_X10_wins_19, s_X10_wins_21, s_X10_wins_22, s_X10_wins_23, s_X10_wins_26, s_X10_wins_27, s_X10_wins_29, s_X10_wins_30, s_X10_wins_33, s_X10_wins_36, s_X10_wins_37, s_X10_wins_40, s_X10_wins_41, s_X10_wins_42, s_X10_wins_44, s_X10_wins_47, s_X10_wins_49, s_X10_wins_50, s_X10_wins_51, s_X10_wins_54, s_X10_wins_55, s_X10_wins_58, s_X10_wins_59, s_X10_wins_60, s_X10_wins_62, s_X10_wins_63, s_X10_wins_64, s_X10_wins_65, s_X10_wins_66, s_X10_wins_67, s_X10_wins_68, s_X10_wins_71, s_X10_wins_74, s_X10_wins_75, s_X10_wins_76, s_X10_wins_79, s_X10_wins_82, s_X10_wins_83, s_X10_wins_84, s_X10_wins_85, s_X10_wins_86, s_X10_wins_90, s_X10_wins_91, s_X10_wins_94, s_X10_wins_97, s_X10_wins_98, s_X10_wins_99, s_X10_wins_102, s_X10_wins_103, s_X10_wins_106, s_X10_wins_108, s_X10_wins_109, s_X10_wins_111, s_X10_wins_112, s_X10_wins_113, s_X10_wins_116, s_X10_wins_117, s_X10_wins_119, s_X10_wins_120, s_X10_wins_123, s_X10_wins_124, s_X10_wins_125, s_X10_wins_126, s_X10_wins_129, s_X10_wins_132, s_X10_wins_133, s_X10_wins_136, s_X10_wins_137, s_X10_wins_140, s_X10_wins_141, s_X10_wins_144, s_X10_wins_145, gm0 e53, gm8 e53, gm9 e53, sI_le (show sg < 100000 by omega) (show i < 100000 by omega), ai_i h572 (show 57 < 70 by decide) (show i < 48 by omega) (by decide), nI_add]
      refine ⟨fun hc => absurd hc (by omega), fun _ => ⟨fun h63 => ?_, fun h63 => ?_⟩⟩
      · rw [if_pos h63] at hu
        have := hw0 c2 f2 hi2.ty
        rw [if_pos hu.symm] at this
        exact this
      · rw [if_neg h63] at hu
        have hp := hpv i (by omega) h63
        rw [hp.2]
        simp only [ai_i hi2 (show 58 < 70 by decide) (show pdS pd i < 7 by omega) (by decide)]
        refine si_i hi2 (by decide) (by omega) (by decide) fun c3 f3 hi3 => ?_
        exact ⟨rfl, ih (i + 1) c3 _ (by omega) (f2.trans f3) hi3 hb hu hno⟩
  exact lp sg 0 c1 zrB (by omega) f1 hi1 rfl rfl (fun hu j hj => untB_no sg 0 hu j (by omega) (by omega))
theorem ml_year (hV : VS (n, m, v, w, fo, si, st)) (hM : MS c (n, m, v, w, fo, si, st) sg pd im) (hk : ∀ c', frm MM c c' → MS c' (n, m, v, w, fo, si, st) sg pd im → R (some (.int (yeaA (n, m, v, w, fo, si, st) x y z))) (tab c')) : rM ro (d + 4) 162 0 0 [.ref 53, .int x, .int y, .int z] (tab c) R := by
  obtain ⟨⟨⟨fr, ru, lu, h53⟩, h54, h55, h56, h57⟩, hsc, him⟩ := id hM
  have hn := hV.1
  have hm := hV.2.1
  have hW := hV.2.2.2.2.2.2.1
  have hm1 : ∀ j, j ≤ 6 → ¬ nI j = - nI 1 := fun j hj e => by
    have := nI_toInt (n := j) (by omega)
    rw [e] at this
    have h2 : (- nI 1 : Int32).toInt = -1 := by decide
    omega
  have yes : (z = - nI 1 ∨ inR 0 (n - 1) z) → rU ro (d + 3) tb_X10_year R 15 [.ref 53, .int x, .int y, .int z, .null, .null, .null, .null, .null, .null] [] (tab c) := by
    intro hz
    have hw := fun c1 hf1 hC1 => hk c1 hf1 hC1
    rw [yeaA, if_pos hz] at hw
    have no : ¬ (inR 0 9999 x ∧ inR 1 99 y) → R (some (.int (- nI 2))) (tab c) := fun q => by
      have := hw c frm.rf hM
      rw [if_neg q] at this
      exact this
    simp only [s_X10_year_0, s_X10_year_1, s_X10_year_2, s_X10_year_5, s_X10_year_6, s_X10_year_7, s_X10_year_10, s_X10_year_13, s_X10_year_14, s_X10_year_15, s_X10_year_16, s_X10_year_17, s_X10_year_20, s_X10_year_23, s_X10_year_26, s_X10_year_27, s_X10_year_28, s_X10_year_30, s_X10_year_33, s_X10_year_36, s_X10_year_38, s_X10_year_39, s_X10_year_40, s_X10_year_42, s_X10_year_43, s_X10_year_45, s_X10_year_46, s_X10_year_50, s_X10_year_51, s_X10_year_54, s_X10_year_55, s_X10_year_58, s_X10_year_59, s_X10_year_63, s_X10_year_64, s_X10_year_67, s_X10_year_70, s_X10_year_72, s_X10_year_74, s_X10_year_75, s_X10_year_77, s_X10_year_78, s_X10_year_80, s_X10_year_81, s_X10_year_83, s_X10_year_85, s_X10_year_86, s_X10_year_89, s_X10_year_90, s_X10_year_92, s_X10_year_93, s_X10_year_97, s_X10_year_100, s_X10_year_103, s_X10_year_105, s_X10_year_106, s_X10_year_109, s_X10_year_111, s_X10_year_112, s_X10_year_113, s_X10_year_115, s_X10_year_119, s_X10_year_122, s_X10_year_124, s_X10_year_125, s_X10_year_128, s_X10_year_130, s_X10_year_131, s_X10_year_134, s_X10_year_135, s_X10_year_138, s_X10_year_140, s_X10_year_141, s_X10_year_144, s_X10_year_146, s_X10_year_147, s_X10_year_148, s_X10_year_151, s_X10_year_152, s_X10_year_155, s_X10_year_157, s_X10_year_158, s_X10_year_159, s_X10_year_160, s_X10_year_161, s_X10_year_162, s_X10_year_163, s_X10_year_166, s_X10_year_169, s_X10_year_170, s_X10_year_171, s_X10_year_174, s_X10_year_177, s_X10_year_179, s_X10_year_181, s_X10_year_182, s_X10_year_185, s_X10_year_187, s_X10_year_190, s_X10_year_191, s_X10_year_194, s_X10_year_195, s_X10_year_198, s_X10_year_200, s_X10_year_203, s_X10_year_204, s_X10_year_207, s_X10_year_208, s_X10_year_209, s_X10_year_211, s_X10_year_214, s_X10_year_215, s_X10_year_218, s_X10_year_219, s_X10_year_220, s_X10_year_222, s_X10_year_225, s_X10_year_228, s_X10_year_230]
    refine sp_in2 ?_
    simp only [Option.toList_some, Option.toList_none, List.cons_append, List.nil_append, Option.toList, s_X10_year_0, s_X10_year_1, s_X10_year_2, s_X10_year_5, s_X10_year_6, s_X10_year_7, s_X10_year_10, s_X10_year_13, s_X10_year_14, s_X10_year_15, s_X10_year_16, s_X10_year_17, s_X10_year_20, s_X10_year_23, s_X10_year_26, s_X10_year_27, s_X10_year_28, s_X10_year_30, s_X10_year_33, s_X10_year_36, s_X10_year_38, s_X10_year_39, s_X10_year_40, s_X10_year_42, s_X10_year_43, s_X10_year_45, s_X10_year_46, s_X10_year_50, s_X10_year_51, s_X10_year_54, s_X10_year_55, s_X10_year_58, s_X10_year_59, s_X10_year_63, s_X10_year_64, s_X10_year_67, s_X10_year_70, s_X10_year_72, s_X10_year_74, s_X10_year_75, s_X10_year_77, s_X10_year_78, s_X10_year_80, s_X10_year_81, s_X10_year_83, s_X10_year_85, s_X10_year_86, s_X10_year_89, s_X10_year_90, s_X10_year_92, s_X10_year_93, s_X10_year_97, s_X10_year_100, s_X10_year_103, s_X10_year_105, s_X10_year_106, s_X10_year_109, s_X10_year_111, s_X10_year_112, s_X10_year_113, s_X10_year_115, s_X10_year_119, s_X10_year_122, s_X10_year_124, s_X10_year_125, s_X10_year_128, s_X10_year_130, s_X10_year_131, s_X10_year_134, s_X10_year_135, s_X10_year_138, s_X10_year_140, s_X10_year_141, s_X10_year_144, s_X10_year_146, s_X10_year_147, s_X10_year_148, s_X10_year_151, s_X10_year_152, s_X10_year_155, s_X10_year_157, s_X10_year_158, s_X10_year_159, s_X10_year_160, s_X10_year_161, s_X10_year_162, s_X10_year_163, s_X10_year_166, s_X10_year_169, s_X10_year_170, s_X10_year_171, s_X10_year_174, s_X10_year_177, s_X10_year_179, s_X10_year_181, s_X10_year_182, s_X10_year_185, s_X10_year_187, s_X10_year_190, s_X10_year_191, s_X10_year_194, s_X10_year_195, s_X10_year_198, s_X10_year_200, s_X10_year_203, s_X10_year_204, s_X10_year_207, s_X10_year_208, s_X10_year_209, s_X10_year_211, s_X10_year_214, s_X10_year_215, s_X10_year_218, s_X10_year_219, s_X10_year_220, s_X10_year_222, s_X10_year_225, s_X10_year_228, s_X10_year_230, b2_0]
    refine ⟨fun hx => no (fun q => hx q.1), fun hx => sp_in2 ?_⟩
    simp only [Option.toList_some, Option.toList_none, List.cons_append, List.nil_append, Option.toList, s_X10_year_0, s_X10_year_1, s_X10_year_2, s_X10_year_5, s_X10_year_6, s_X10_year_7, s_X10_year_10, s_X10_year_13, s_X10_year_14, s_X10_year_15, s_X10_year_16, s_X10_year_17, s_X10_year_20, s_X10_year_23, s_X10_year_26, s_X10_year_27, s_X10_year_28, s_X10_year_30, s_X10_year_33, s_X10_year_36, s_X10_year_38, s_X10_year_39, s_X10_year_40, s_X10_year_42, s_X10_year_43, s_X10_year_45, s_X10_year_46, s_X10_year_50, s_X10_year_51, s_X10_year_54, s_X10_year_55, s_X10_year_58, s_X10_year_59, s_X10_year_63, s_X10_year_64, s_X10_year_67, s_X10_year_70, s_X10_year_72, s_X10_year_74, s_X10_year_75, s_X10_year_77, s_X10_year_78, s_X10_year_80, s_X10_year_81, s_X10_year_83, s_X10_year_85, s_X10_year_86, s_X10_year_89, s_X10_year_90, s_X10_year_92, s_X10_year_93, s_X10_year_97, s_X10_year_100, s_X10_year_103, s_X10_year_105, s_X10_year_106, s_X10_year_109, s_X10_year_111, s_X10_year_112, s_X10_year_113, s_X10_year_115, s_X10_year_119, s_X10_year_122, s_X10_year_124, s_X10_year_125, s_X10_year_128, s_X10_year_130, s_X10_year_131, s_X10_year_134, s_X10_year_135, s_X10_year_138, s_X10_year_140, s_X10_year_141, s_X10_year_144, s_X10_year_146, s_X10_year_147, s_X10_year_148, s_X10_year_151, s_X10_year_152, s_X10_year_155, s_X10_year_157, s_X10_year_158, s_X10_year_159, s_X10_year_160, s_X10_year_161, s_X10_year_162, s_X10_year_163, s_X10_year_166, s_X10_year_169, s_X10_year_170, s_X10_year_171, s_X10_year_174, s_X10_year_177, s_X10_year_179, s_X10_year_181, s_X10_year_182, s_X10_year_185, s_X10_year_187, s_X10_year_190, s_X10_year_191, s_X10_year_194, s_X10_year_195, s_X10_year_198, s_X10_year_200, s_X10_year_203, s_X10_year_204, s_X10_year_207, s_X10_year_208, s_X10_year_209, s_X10_year_211, s_X10_year_214, s_X10_year_215, s_X10_year_218, s_X10_year_219, s_X10_year_220, s_X10_year_222, s_X10_year_225, s_X10_year_228, s_X10_year_230, b2_0]
    refine ⟨fun hy => no (fun q => hy q.2), fun hy => ?_⟩
    have hx := Decidable.not_not.mp hx
    have hy := Decidable.not_not.mp hy
    obtain ⟨a, ha1, ha2, rfl⟩ := inR_nI hx (by decide) (by decide)
    obtain ⟨b, hb1, hb2, rfl⟩ := inR_nI hy (by decide) (by decide)
    rw [if_pos ⟨hx, hy⟩, nI_c (show a < 100000 by omega), nI_c (show b < 100000 by omega)] at hw
    refine ⟨rfl, rfl, rfl, ?_⟩
    have hms : ∀ c1, frm [58, 65] c c1 → tyI c1 58 7 → tyI c1 65 6 → MS c1 (n, m, v, w, fo, si, st) sg pd im := fun c1 f1 t1 t2 => hM.sc (f1.mono rfl) ⟨_, _, _, (f1 53 rfl).trans h53⟩ ⟨t1, hsc.2.1.fr f1 rfl, hsc.2.2.1.fr f1 rfl, hsc.2.2.2.1.fr f1 rfl, hsc.2.2.2.2.1.fr f1 rfl, hsc.2.2.2.2.2.1.fr f1 rfl, hsc.2.2.2.2.2.2.1.fr f1 rfl, t2, hsc.2.2.2.2.2.2.2.2.1.fr f1 rfl, hsc.2.2.2.2.2.2.2.2.2.fr f1 rfl⟩
    have lp : ∀ rem i xx acc c1 (l7 l8 l9 : Value), i + rem = b → xx < 65537 → acc ≤ i → frm [58, 65] c c1 → tyI c1 58 7 → tyI c1 65 6 → yrF (n, m, v, w, fo, si, st) z rem xx acc = yrF (n, m, v, w, fo, si, st) z b a 0 → rU ro (d + 3) tb_X10_year R 48 [.ref 53, .int (nI a), .int (nI b), .int z, .int (nI xx), .int (nI acc), .int (nI i), l7, l8, l9] [] (tab c1) := by
      intro rem
      induction rem with
      | zero =>
        intro i xx acc c1 l7 l8 l9 hi hxx hac f1 t58 t65 hq
        have : i = b := by omega
        subst this
        rw [yrF] at hq
        have := hw c1 (f1.mono rfl) (hms c1 f1 t58 t65)
        rw [s_X10_year_48]
        simp only [s_X10_year_0, s_X10_year_1, s_X10_year_2, s_X10_year_5, s_X10_year_6, s_X10_year_7, s_X10_year_10, s_X10_year_13, s_X10_year_14, s_X10_year_15, s_X10_year_16, s_X10_year_17, s_X10_year_20, s_X10_year_23, s_X10_year_26, s_X10_year_27, s_X10_year_28, s_X10_year_30, s_X10_year_33, s_X10_year_36, s_X10_year_38, s_X10_year_39, s_X10_year_40, s_X10_year_42, s_X10_year_43, s_X10_year_45, s_X10_year_46, s_X10_year_50, s_X10_year_51, s_X10_year_54, s_X10_year_55, s_X10_year_58, s_X10_year_59, s_X10_year_63, s_X10_year_64, s_X10_year_67, s_X10_year_70, s_X10_year_72, s_X10_year_74, s_X10_year_75, s_X10_year_77, s_X10_year_78, s_X10_year_80, s_X10_year_81, s_X10_year_83, s_X10_year_85, s_X10_year_86, s_X10_year_89, s_X10_year_90, s_X10_year_92, s_X10_year_93, s_X10_year_97, s_X10_year_100, s_X10_year_103, s_X10_year_105, s_X10_year_106, s_X10_year_109, s_X10_year_111, s_X10_year_112, s_X10_year_113, s_X10_year_115, s_X10_year_119, s_X10_year_122, s_X10_year_124, s_X10_year_125, s_X10_year_128, s_X10_year_130, s_X10_year_131, s_X10_year_134, s_X10_year_135, s_X10_year_138, s_X10_year_140, s_X10_year_141, s_X10_year_144, s_X10_year_146, s_X10_year_147, s_X10_year_148, s_X10_year_151, s_X10_year_152, s_X10_year_155, s_X10_year_157, s_X10_year_158, s_X10_year_159, s_X10_year_160, s_X10_year_161, s_X10_year_162, s_X10_year_163, s_X10_year_166, s_X10_year_169, s_X10_year_170, s_X10_year_171, s_X10_year_174, s_X10_year_177, s_X10_year_179, s_X10_year_181, s_X10_year_182, s_X10_year_185, s_X10_year_187, s_X10_year_190, s_X10_year_191, s_X10_year_194, s_X10_year_195, s_X10_year_198, s_X10_year_200, s_X10_year_203, s_X10_year_204, s_X10_year_207, s_X10_year_208, s_X10_year_209, s_X10_year_211, s_X10_year_214, s_X10_year_215, s_X10_year_218, s_X10_year_219, s_X10_year_220, s_X10_year_222, s_X10_year_225, s_X10_year_228, s_X10_year_230]
        refine ⟨fun _ => ?_, fun hc => absurd ((sI_le (by omega) (by omega)).mpr (Nat.le_refl _)) hc⟩
        rw [hq]
        exact this
      | succ rem ih =>
        intro i xx acc c1 l7 l8 l9 hi hxx hac f1 t58 t65 hq
        rw [yrF] at hq
        have e53 := (f1 53 rfl).trans h53
        rw [s_X10_year_48]
        simp only [s_X10_year_0, s_X10_year_1, s_X10_year_2, s_X10_year_5, s_X10_year_6, s_X10_year_7, s_X10_year_10, s_X10_year_13, s_X10_year_14, s_X10_year_15, s_X10_year_16, s_X10_year_17, s_X10_year_20, s_X10_year_23, s_X10_year_26, s_X10_year_27, s_X10_year_28, s_X10_year_30, s_X10_year_33, s_X10_year_36, s_X10_year_38, s_X10_year_39, s_X10_year_40, s_X10_year_42, s_X10_year_43, s_X10_year_45, s_X10_year_46, s_X10_year_50, s_X10_year_51, s_X10_year_54, s_X10_year_55, s_X10_year_58, s_X10_year_59, s_X10_year_63, s_X10_year_64, s_X10_year_67, s_X10_year_70, s_X10_year_72, s_X10_year_74, s_X10_year_75, s_X10_year_77, s_X10_year_78, s_X10_year_80, s_X10_year_81, s_X10_year_83, s_X10_year_85, s_X10_year_86, s_X10_year_89, s_X10_year_90, s_X10_year_92, s_X10_year_93, s_X10_year_97, s_X10_year_100, s_X10_year_103, s_X10_year_105, s_X10_year_106, s_X10_year_109, s_X10_year_111, s_X10_year_112, s_X10_year_113, s_X10_year_115, s_X10_year_119, s_X10_year_122, s_X10_year_124, s_X10_year_125, s_X10_year_128, s_X10_year_130, s_X10_year_131, s_X10_year_134, s_X10_year_135, s_X10_year_138, s_X10_year_140, s_X10_year_141, s_X10_year_144, s_X10_year_146, s_X10_year_147, s_X10_year_148, s_X10_year_151, s_X10_year_152, s_X10_year_155, s_X10_year_157, s_X10_year_158, s_X10_year_159, s_X10_year_160, s_X10_year_161, s_X10_year_162, s_X10_year_163, s_X10_year_166, s_X10_year_169, s_X10_year_170, s_X10_year_171, s_X10_year_174, s_X10_year_177, s_X10_year_179, s_X10_year_181, s_X10_year_182, s_X10_year_185, s_X10_year_187, s_X10_year_190, s_X10_year_191, s_X10_year_194, s_X10_year_195, s_X10_year_198, s_X10_year_200, s_X10_year_203, s_X10_year_204, s_X10_year_207, s_X10_year_208, s_X10_year_209, s_X10_year_211, s_X10_year_214, s_X10_year_215, s_X10_year_218, s_X10_year_219, s_X10_year_220, s_X10_year_222, s_X10_year_225, s_X10_year_228, s_X10_year_230, vm_o e53, sI_le (show b < 100000 by omega) (show i < 100000 by omega)]
        refine ⟨fun hc => absurd hc (by omega), fun _ => sp_X10_nobodyWrote e53 t58 fun c2 f2 hi2 => ?_⟩
        simp only [Option.toList_some, Option.toList_none, List.cons_append, List.nil_append, Option.toList, s_X10_year_0, s_X10_year_1, s_X10_year_2, s_X10_year_5, s_X10_year_6, s_X10_year_7, s_X10_year_10, s_X10_year_13, s_X10_year_14, s_X10_year_15, s_X10_year_16, s_X10_year_17, s_X10_year_20, s_X10_year_23, s_X10_year_26, s_X10_year_27, s_X10_year_28, s_X10_year_30, s_X10_year_33, s_X10_year_36, s_X10_year_38, s_X10_year_39, s_X10_year_40, s_X10_year_42, s_X10_year_43, s_X10_year_45, s_X10_year_46, s_X10_year_50, s_X10_year_51, s_X10_year_54, s_X10_year_55, s_X10_year_58, s_X10_year_59, s_X10_year_63, s_X10_year_64, s_X10_year_67, s_X10_year_70, s_X10_year_72, s_X10_year_74, s_X10_year_75, s_X10_year_77, s_X10_year_78, s_X10_year_80, s_X10_year_81, s_X10_year_83, s_X10_year_85, s_X10_year_86, s_X10_year_89, s_X10_year_90, s_X10_year_92, s_X10_year_93, s_X10_year_97, s_X10_year_100, s_X10_year_103, s_X10_year_105, s_X10_year_106, s_X10_year_109, s_X10_year_111, s_X10_year_112, s_X10_year_113, s_X10_year_115, s_X10_year_119, s_X10_year_122, s_X10_year_124, s_X10_year_125, s_X10_year_128, s_X10_year_130, s_X10_year_131, s_X10_year_134, s_X10_year_135, s_X10_year_138, s_X10_year_140, s_X10_year_141, s_X10_year_144, s_X10_year_146, s_X10_year_147, s_X10_year_148, s_X10_year_151, s_X10_year_152, s_X10_year_155, s_X10_year_157, s_X10_year_158, s_X10_year_159, s_X10_year_160, s_X10_year_161, s_X10_year_162, s_X10_year_163, s_X10_year_166, s_X10_year_169, s_X10_year_170, s_X10_year_171, s_X10_year_174, s_X10_year_177, s_X10_year_179, s_X10_year_181, s_X10_year_182, s_X10_year_185, s_X10_year_187, s_X10_year_190, s_X10_year_191, s_X10_year_194, s_X10_year_195, s_X10_year_198, s_X10_year_200, s_X10_year_203, s_X10_year_204, s_X10_year_207, s_X10_year_208, s_X10_year_209, s_X10_year_211, s_X10_year_214, s_X10_year_215, s_X10_year_218, s_X10_year_219, s_X10_year_220, s_X10_year_222, s_X10_year_225, s_X10_year_228, s_X10_year_230]
        refine ⟨rfl, ?_⟩
        have lp2 : ∀ rem o c2 bb val (l8 l9 : Value), o + rem = n → frm [58, 65] c c2 → isI c2 58 7 bb → isI c2 65 6 val → (∀ j, j < o → val j = nI (slY (n, m, v, w, fo, si, st) xx j)) → slB (slY (n, m, v, w, fo, si, st) xx) rem o bb = slB (slY (n, m, v, w, fo, si, st) xx) n 0 zrB → rU ro (d + 3) tb_X10_year R 61 [.ref 53, .int (nI a), .int (nI b), .int z, .int (nI (drN xx o)), .int (nI acc), .int (nI i), .int (nI o), l8, l9] [] (tab c2) := by
          intro rem2
          induction rem2 with
          | zero =>
            intro o c2 bb val l8 l9 ho f2 hi2 h65 hval hb
            have : o = n := by omega
            subst this
            rw [slB] at hb
            subst hb
            have k53 := (f2 53 rfl).trans h53
            rw [s_X10_year_61]
            simp only [s_X10_year_0, s_X10_year_1, s_X10_year_2, s_X10_year_5, s_X10_year_6, s_X10_year_7, s_X10_year_10, s_X10_year_13, s_X10_year_14, s_X10_year_15, s_X10_year_16, s_X10_year_17, s_X10_year_20, s_X10_year_23, s_X10_year_26, s_X10_year_27, s_X10_year_28, s_X10_year_30, s_X10_year_33, s_X10_year_36, s_X10_year_38, s_X10_year_39, s_X10_year_40, s_X10_year_42, s_X10_year_43, s_X10_year_45, s_X10_year_46, s_X10_year_50, s_X10_year_51, s_X10_year_54, s_X10_year_55, s_X10_year_58, s_X10_year_59, s_X10_year_63, s_X10_year_64, s_X10_year_67, s_X10_year_70, s_X10_year_72, s_X10_year_74, s_X10_year_75, s_X10_year_77, s_X10_year_78, s_X10_year_80, s_X10_year_81, s_X10_year_83, s_X10_year_85, s_X10_year_86, s_X10_year_89, s_X10_year_90, s_X10_year_92, s_X10_year_93, s_X10_year_97, s_X10_year_100, s_X10_year_103, s_X10_year_105, s_X10_year_106, s_X10_year_109, s_X10_year_111, s_X10_year_112, s_X10_year_113, s_X10_year_115, s_X10_year_119, s_X10_year_122, s_X10_year_124, s_X10_year_125, s_X10_year_128, s_X10_year_130, s_X10_year_131, s_X10_year_134, s_X10_year_135, s_X10_year_138, s_X10_year_140, s_X10_year_141, s_X10_year_144, s_X10_year_146, s_X10_year_147, s_X10_year_148, s_X10_year_151, s_X10_year_152, s_X10_year_155, s_X10_year_157, s_X10_year_158, s_X10_year_159, s_X10_year_160, s_X10_year_161, s_X10_year_162, s_X10_year_163, s_X10_year_166, s_X10_year_169, s_X10_year_170, s_X10_year_171, s_X10_year_174, s_X10_year_177, s_X10_year_179, s_X10_year_181, s_X10_year_182, s_X10_year_185, s_X10_year_187, s_X10_year_190, s_X10_year_191, s_X10_year_194, s_X10_year_195, s_X10_year_198, s_X10_year_200, s_X10_year_203, s_X10_year_204, s_X10_year_207, s_X10_year_208, s_X10_year_209, s_X10_year_211, s_X10_year_214, s_X10_year_215, s_X10_year_218, s_X10_year_219, s_X10_year_220, s_X10_year_222, s_X10_year_225, s_X10_year_228, s_X10_year_230, gm0 k53, gm9 k53, vm_o k53]
            refine ⟨fun _ => sp_X10_winner' k53 hi2 (by decide) hm.2 hV.2.2.1 ?_, fun hc => absurd ((sI_le (by omega) (by omega)).mpr (Nat.le_refl _)) hc⟩
            have hwl := winF_le (v := v) (m := m) (f := slB (slY (o, m, v, w, fo, si, st) xx) o 0 zrB)
            have hyq : winF v m (slB (slY (o, m, v, w, fo, si, st) xx) o 0 zrB) = yqF (o, m, v, w, fo, si, st) xx := rfl
            rw [hyq] at hwl ⊢
            have hwl6 : yqF (o, m, v, w, fo, si, st) xx ≤ 6 := by omega
            have go : ∀ (e : Nat) (l7 l8 l9 : Value), e = (if yhF (o, m, v, w, fo, si, st) z xx then 1 else 0) → rU ro (d + 3) tb_X10_year R 219 [.ref 53, .int (nI a), .int (nI b), .int z, .int (nI (drN xx o)), .int (nI acc), .int (nI i), l7, l8, l9] [.int (nI e), .int (nI acc)] (tab c2) := by
              intro e l7 l8 l9 hee
              have he1 : e ≤ 1 := by rw [hee]; split <;> omega
              rw [← hee] at hq
              simp only [s_X10_year_0, s_X10_year_1, s_X10_year_2, s_X10_year_5, s_X10_year_6, s_X10_year_7, s_X10_year_10, s_X10_year_13, s_X10_year_14, s_X10_year_15, s_X10_year_16, s_X10_year_17, s_X10_year_20, s_X10_year_23, s_X10_year_26, s_X10_year_27, s_X10_year_28, s_X10_year_30, s_X10_year_33, s_X10_year_36, s_X10_year_38, s_X10_year_39, s_X10_year_40, s_X10_year_42, s_X10_year_43, s_X10_year_45, s_X10_year_46, s_X10_year_50, s_X10_year_51, s_X10_year_54, s_X10_year_55, s_X10_year_58, s_X10_year_59, s_X10_year_63, s_X10_year_64, s_X10_year_67, s_X10_year_70, s_X10_year_72, s_X10_year_74, s_X10_year_75, s_X10_year_77, s_X10_year_78, s_X10_year_80, s_X10_year_81, s_X10_year_83, s_X10_year_85, s_X10_year_86, s_X10_year_89, s_X10_year_90, s_X10_year_92, s_X10_year_93, s_X10_year_97, s_X10_year_100, s_X10_year_103, s_X10_year_105, s_X10_year_106, s_X10_year_109, s_X10_year_111, s_X10_year_112, s_X10_year_113, s_X10_year_115, s_X10_year_119, s_X10_year_122, s_X10_year_124, s_X10_year_125, s_X10_year_128, s_X10_year_130, s_X10_year_131, s_X10_year_134, s_X10_year_135, s_X10_year_138, s_X10_year_140, s_X10_year_141, s_X10_year_144, s_X10_year_146, s_X10_year_147, s_X10_year_148, s_X10_year_151, s_X10_year_152, s_X10_year_155, s_X10_year_157, s_X10_year_158, s_X10_year_159, s_X10_year_160, s_X10_year_161, s_X10_year_162, s_X10_year_163, s_X10_year_166, s_X10_year_169, s_X10_year_170, s_X10_year_171, s_X10_year_174, s_X10_year_177, s_X10_year_179, s_X10_year_181, s_X10_year_182, s_X10_year_185, s_X10_year_187, s_X10_year_190, s_X10_year_191, s_X10_year_194, s_X10_year_195, s_X10_year_198, s_X10_year_200, s_X10_year_203, s_X10_year_204, s_X10_year_207, s_X10_year_208, s_X10_year_209, s_X10_year_211, s_X10_year_214, s_X10_year_215, s_X10_year_218, s_X10_year_219, s_X10_year_220, s_X10_year_222, s_X10_year_225, s_X10_year_228, s_X10_year_230, nI_add]
              exact ⟨rfl, rfl, ih (i + 1) _ _ c2 _ _ _ (by omega) (drN_lt hxx o) (by omega) f2 hi2.ty h65.ty hq⟩
            have hge : (0 ≤ wrM (yqF (o, m, v, w, fo, si, st) xx)) ↔ ¬ yqF (o, m, v, w, fo, si, st) xx = 0 := by
              rw [← wrM_neg hwl6, Int32.not_lt]
            simp only [Option.toList_some, Option.toList_none, List.cons_append, List.nil_append, Option.toList, s_X10_year_0, s_X10_year_1, s_X10_year_2, s_X10_year_5, s_X10_year_6, s_X10_year_7, s_X10_year_10, s_X10_year_13, s_X10_year_14, s_X10_year_15, s_X10_year_16, s_X10_year_17, s_X10_year_20, s_X10_year_23, s_X10_year_26, s_X10_year_27, s_X10_year_28, s_X10_year_30, s_X10_year_33, s_X10_year_36, s_X10_year_38, s_X10_year_39, s_X10_year_40, s_X10_year_42, s_X10_year_43, s_X10_year_45, s_X10_year_46, s_X10_year_50, s_X10_year_51, s_X10_year_54, s_X10_year_55, s_X10_year_58, s_X10_year_59, s_X10_year_63, s_X10_year_64, s_X10_year_67, s_X10_year_70, s_X10_year_72, s_X10_year_74, s_X10_year_75, s_X10_year_77, s_X10_year_78, s_X10_year_80, s_X10_year_81, s_X10_year_83, s_X10_year_85, s_X10_year_86, s_X10_year_89, s_X10_year_90, s_X10_year_92, s_X10_year_93, s_X10_year_97, s_X10_year_100, s_X10_year_103, s_X10_year_105, s_X10_year_106, s_X10_year_109, s_X10_year_111, s_X10_year_112, s_X10_year_113, s_X10_year_115, s_X10_year_119, s_X10_year_122, s_X10_year_124, s_X10_year_125, s_X10_year_128, s_X10_year_130, s_X10_year_131, s_X10_year_134, s_X10_year_135, s_X10_year_138, s_X10_year_140, s_X10_year_141, s_X10_year_144, s_X10_year_146, s_X10_year_147, s_X10_year_148, s_X10_year_151, s_X10_year_152, s_X10_year_155, s_X10_year_157, s_X10_year_158, s_X10_year_159, s_X10_year_160, s_X10_year_161, s_X10_year_162, s_X10_year_163, s_X10_year_166, s_X10_year_169, s_X10_year_170, s_X10_year_171, s_X10_year_174, s_X10_year_177, s_X10_year_179, s_X10_year_181, s_X10_year_182, s_X10_year_185, s_X10_year_187, s_X10_year_190, s_X10_year_191, s_X10_year_194, s_X10_year_195, s_X10_year_198, s_X10_year_200, s_X10_year_203, s_X10_year_204, s_X10_year_207, s_X10_year_208, s_X10_year_209, s_X10_year_211, s_X10_year_214, s_X10_year_215, s_X10_year_218, s_X10_year_220, s_X10_year_222, s_X10_year_225, s_X10_year_228, s_X10_year_230, gm19 k53, hge, wrM_le hwl6]
            refine ⟨rfl, fun hz0 => ?_, fun hz0 => ⟨fun hq1 => ?_, fun hq1 => ?_⟩⟩
            · have hzr : inR 0 (o - 1) z := hz.resolve_left (fun e => by rw [e] at hz0; exact absurd hz0 (by decide))
              obtain ⟨zz, hz1, hz2, rfl⟩ := inR_nI hzr (by decide) (by omega)
              have hnz : ¬ nI zz = - nI 1 := hm1 zz (by omega)
              refine ⟨fun hq1 => go 0 _ _ _ ?_, fun hq1 => ?_⟩
              · rw [if_neg (fun q => q.elim (fun r => hnz r.1) (fun r => r.2.1 hq1))]
              · simp only [ai_i h65 (show 65 < 70 by decide) (show zz < 6 by omega) (by decide), hval zz (by omega)]
                have hsl := (slY_le hV (x := xx) (i := zz)).2
                rw [wrM_n hq1, sI_eq (by omega) (by omega)]
                refine ⟨fun he => go 1 _ _ _ ?_, fun he => go 0 _ _ _ ?_⟩
                · rw [if_pos (Or.inr ⟨hnz, hq1, by rw [nI_c (by omega)]; exact he⟩)]
                · rw [if_neg (fun q => q.elim (fun r => hnz r.1) (fun r => he (by have := r.2.2; rw [nI_c (by omega)] at this; exact this)))]
            · have hze : z = - nI 1 := hz.resolve_right (fun h => by
                have := h.1
                rw [nI_0] at this
                exact hz0 this)
              exact go 0 _ _ _ (by rw [if_neg (fun q => q.elim (fun r => hq1 r.2) (fun r => r.1 hze))])
            · have hze : z = - nI 1 := hz.resolve_right (fun h => by
                have := h.1
                rw [nI_0] at this
                exact hz0 this)
              exact go 1 _ _ _ (by rw [if_pos (Or.inl ⟨hze, Decidable.not_not.mp hq1⟩)])
          | succ rem2 ih2 =>
            intro o c2 bb val l8 l9 ho f2 hi2 h65 hval hb
            rw [slB] at hb
            have k53 := (f2 53 rfl).trans h53
            have h542 := h54.fr f2 rfl
            have h552 := h55.fr f2 rfl
            have hd := drN_lt hxx o
            have hd2 := drN_lt hxx (o + 1)
            have hlot := Nat.mod_lt (drN xx (o + 1)) (show 0 < smF w m 1 by omega)
            have hsl := slY_le hV (x := xx) (i := o)
            have hfi := hV.2.2.2.2.2.2.2.1 o
            have hdr : nI (75 * drN xx o + 74) - nI (75 * drN xx o + 74) / nI 65537 * nI 65537 = nI (drN xx (o + 1)) := nI_rem (by omega) (by decide)
            have hlt : nI (drN xx (o + 1)) - nI (drN xx (o + 1)) / nI (smF w m 1) * nI (smF w m 1) = nI (drN xx (o + 1) % smF w m 1) := nI_rem (by omega) (by omega)
            have wr : ∀ (l8 l9 : Value), rSi (tab c2) 65 (nI o) (nI (slY (n, m, v, w, fo, si, st) xx o)) (fun h => rU ro (d + 3) tb_X10_year R 147 [.ref 53, .int (nI a), .int (nI b), .int z, .int (nI (drN xx (o + 1))), .int (nI acc), .int (nI i), .int (nI o), l8, l9] [] h) := by
              intro l8 l9
              refine si_i h65 (by decide) (by omega) (by decide) fun c3 f3 h653 => ?_
              have k53 := (f3 53 rfl).trans k53
              simp only [s_X10_year_0, s_X10_year_1, s_X10_year_2, s_X10_year_5, s_X10_year_6, s_X10_year_7, s_X10_year_10, s_X10_year_13, s_X10_year_14, s_X10_year_15, s_X10_year_16, s_X10_year_17, s_X10_year_20, s_X10_year_23, s_X10_year_26, s_X10_year_27, s_X10_year_28, s_X10_year_30, s_X10_year_33, s_X10_year_36, s_X10_year_38, s_X10_year_39, s_X10_year_40, s_X10_year_42, s_X10_year_43, s_X10_year_45, s_X10_year_46, s_X10_year_50, s_X10_year_51, s_X10_year_54, s_X10_year_55, s_X10_year_58, s_X10_year_59, s_X10_year_63, s_X10_year_64, s_X10_year_67, s_X10_year_70, s_X10_year_72, s_X10_year_74, s_X10_year_75, s_X10_year_77, s_X10_year_78, s_X10_year_80, s_X10_year_81, s_X10_year_83, s_X10_year_85, s_X10_year_86, s_X10_year_89, s_X10_year_90, s_X10_year_92, s_X10_year_93, s_X10_year_97, s_X10_year_100, s_X10_year_103, s_X10_year_105, s_X10_year_106, s_X10_year_109, s_X10_year_111, s_X10_year_112, s_X10_year_113, s_X10_year_115, s_X10_year_119, s_X10_year_122, s_X10_year_124, s_X10_year_125, s_X10_year_128, s_X10_year_130, s_X10_year_131, s_X10_year_134, s_X10_year_135, s_X10_year_138, s_X10_year_140, s_X10_year_141, s_X10_year_144, s_X10_year_146, s_X10_year_147, s_X10_year_148, s_X10_year_151, s_X10_year_152, s_X10_year_155, s_X10_year_157, s_X10_year_158, s_X10_year_159, s_X10_year_160, s_X10_year_161, s_X10_year_162, s_X10_year_163, s_X10_year_166, s_X10_year_169, s_X10_year_170, s_X10_year_171, s_X10_year_174, s_X10_year_177, s_X10_year_179, s_X10_year_181, s_X10_year_182, s_X10_year_185, s_X10_year_187, s_X10_year_190, s_X10_year_191, s_X10_year_194, s_X10_year_195, s_X10_year_198, s_X10_year_200, s_X10_year_203, s_X10_year_204, s_X10_year_207, s_X10_year_208, s_X10_year_209, s_X10_year_211, s_X10_year_214, s_X10_year_215, s_X10_year_218, s_X10_year_219, s_X10_year_220, s_X10_year_222, s_X10_year_225, s_X10_year_228, s_X10_year_230, gm9 k53, gm19 k53, ai_i h653 (show 65 < 70 by decide) (show o < 6 by omega) (by decide), upd_self, ai_i (hi2.fr f3 rfl) (show 58 < 70 by decide) (show slY (n, m, v, w, fo, si, st) xx o < 7 by omega) (by decide), nI_add]
              refine si_i (hi2.fr f3 rfl) (by decide) (by omega) (by decide) fun c4 f4 hi4 => ?_
              exact ⟨rfl, ih2 (o + 1) c4 _ _ _ _ (by omega) (f2.trans ((f3.mono rfl).trans (f4.mono rfl))) hi4 (h653.fr f4 rfl) (fillI hval rfl) hb⟩
            have aft : ∀ (l8 : Int32), rU ro (d + 3) tb_X10_year R 118 [.ref 53, .int (nI a), .int (nI b), .int z, .int (nI (drN xx (o + 1))), .int (nI acc), .int (nI i), .int (nI o), .int l8, .int (nI (ltF w (m - 1) 1 (drN xx (o + 1) % smF w m 1)))] [] (tab c2) := by
              intro l8
              have e0 : (nI (fo o) ≤ 0) ↔ fo o = 0 := sI_le0 (by omega)
              simp only [s_X10_year_0, s_X10_year_1, s_X10_year_2, s_X10_year_5, s_X10_year_6, s_X10_year_7, s_X10_year_10, s_X10_year_13, s_X10_year_14, s_X10_year_15, s_X10_year_16, s_X10_year_17, s_X10_year_20, s_X10_year_23, s_X10_year_26, s_X10_year_27, s_X10_year_28, s_X10_year_30, s_X10_year_33, s_X10_year_36, s_X10_year_38, s_X10_year_39, s_X10_year_40, s_X10_year_42, s_X10_year_43, s_X10_year_45, s_X10_year_46, s_X10_year_50, s_X10_year_51, s_X10_year_54, s_X10_year_55, s_X10_year_58, s_X10_year_59, s_X10_year_63, s_X10_year_64, s_X10_year_67, s_X10_year_70, s_X10_year_72, s_X10_year_74, s_X10_year_75, s_X10_year_77, s_X10_year_78, s_X10_year_80, s_X10_year_81, s_X10_year_83, s_X10_year_85, s_X10_year_86, s_X10_year_89, s_X10_year_90, s_X10_year_92, s_X10_year_93, s_X10_year_97, s_X10_year_100, s_X10_year_103, s_X10_year_105, s_X10_year_106, s_X10_year_109, s_X10_year_111, s_X10_year_112, s_X10_year_113, s_X10_year_115, s_X10_year_118, s_X10_year_119, s_X10_year_122, s_X10_year_124, s_X10_year_125, s_X10_year_128, s_X10_year_130, s_X10_year_131, s_X10_year_134, s_X10_year_135, s_X10_year_138, s_X10_year_140, s_X10_year_141, s_X10_year_144, s_X10_year_146, s_X10_year_148, s_X10_year_151, s_X10_year_152, s_X10_year_155, s_X10_year_157, s_X10_year_158, s_X10_year_159, s_X10_year_160, s_X10_year_161, s_X10_year_162, s_X10_year_163, s_X10_year_166, s_X10_year_169, s_X10_year_170, s_X10_year_171, s_X10_year_174, s_X10_year_177, s_X10_year_179, s_X10_year_181, s_X10_year_182, s_X10_year_185, s_X10_year_187, s_X10_year_190, s_X10_year_191, s_X10_year_194, s_X10_year_195, s_X10_year_198, s_X10_year_200, s_X10_year_203, s_X10_year_204, s_X10_year_207, s_X10_year_208, s_X10_year_209, s_X10_year_211, s_X10_year_214, s_X10_year_215, s_X10_year_218, s_X10_year_219, s_X10_year_220, s_X10_year_222, s_X10_year_225, s_X10_year_228, s_X10_year_230, gm4 k53, gm19 k53, ai_i h552 (show 55 < 70 by decide) (show o < 6 by omega) (by decide), e0]
              have hY : slY (n, m, v, w, fo, si, st) xx o = if fo o = 0 then ltF w (m - 1) 1 (drN xx (o + 1) % smF w m 1) else fo o := rfl
              refine ⟨fun h0 => ?_, fun h0 => ?_⟩
              · rw [if_pos h0] at hY
                rw [← hY]
                exact wr _ _
              · rw [if_neg h0] at hY
                rw [← hY]
                exact wr _ _
            have lp3 : ∀ r yy l, yy + 1 + r = m → l < smF w (r + 1) (yy + 1) → ltF w r (yy + 1) l = ltF w (m - 1) 1 (drN xx (o + 1) % smF w m 1) → rU ro (d + 3) tb_X10_year R 95 [.ref 53, .int (nI a), .int (nI b), .int z, .int (nI (drN xx (o + 1))), .int (nI acc), .int (nI i), .int (nI o), .int (nI l), .int (nI yy)] [] (tab c2) := by
              intro r
              induction r with
              | zero =>
                intro yy l hy hl hq
                rw [smF, smF, Nat.add_zero] at hl
                rw [ltF] at hq
                have hw9 := hV.2.2.2.2.2.1 (yy + 1)
                rw [s_X10_year_95]
                simp only [s_X10_year_0, s_X10_year_1, s_X10_year_2, s_X10_year_5, s_X10_year_6, s_X10_year_7, s_X10_year_10, s_X10_year_13, s_X10_year_14, s_X10_year_15, s_X10_year_16, s_X10_year_17, s_X10_year_20, s_X10_year_23, s_X10_year_26, s_X10_year_27, s_X10_year_28, s_X10_year_30, s_X10_year_33, s_X10_year_36, s_X10_year_38, s_X10_year_39, s_X10_year_40, s_X10_year_42, s_X10_year_43, s_X10_year_45, s_X10_year_46, s_X10_year_50, s_X10_year_51, s_X10_year_54, s_X10_year_55, s_X10_year_58, s_X10_year_59, s_X10_year_63, s_X10_year_64, s_X10_year_67, s_X10_year_70, s_X10_year_72, s_X10_year_74, s_X10_year_75, s_X10_year_77, s_X10_year_78, s_X10_year_80, s_X10_year_81, s_X10_year_83, s_X10_year_85, s_X10_year_86, s_X10_year_89, s_X10_year_90, s_X10_year_92, s_X10_year_93, s_X10_year_97, s_X10_year_100, s_X10_year_103, s_X10_year_105, s_X10_year_106, s_X10_year_109, s_X10_year_111, s_X10_year_112, s_X10_year_113, s_X10_year_115, s_X10_year_119, s_X10_year_122, s_X10_year_124, s_X10_year_125, s_X10_year_128, s_X10_year_130, s_X10_year_131, s_X10_year_134, s_X10_year_135, s_X10_year_138, s_X10_year_140, s_X10_year_141, s_X10_year_144, s_X10_year_146, s_X10_year_147, s_X10_year_148, s_X10_year_151, s_X10_year_152, s_X10_year_155, s_X10_year_157, s_X10_year_158, s_X10_year_159, s_X10_year_160, s_X10_year_161, s_X10_year_162, s_X10_year_163, s_X10_year_166, s_X10_year_169, s_X10_year_170, s_X10_year_171, s_X10_year_174, s_X10_year_177, s_X10_year_179, s_X10_year_181, s_X10_year_182, s_X10_year_185, s_X10_year_187, s_X10_year_190, s_X10_year_191, s_X10_year_194, s_X10_year_195, s_X10_year_198, s_X10_year_200, s_X10_year_203, s_X10_year_204, s_X10_year_207, s_X10_year_208, s_X10_year_209, s_X10_year_211, s_X10_year_214, s_X10_year_215, s_X10_year_218, s_X10_year_219, s_X10_year_220, s_X10_year_222, s_X10_year_225, s_X10_year_228, s_X10_year_230, gm3 k53, nI_add, sI_lt0 (show l < 100000 by omega), ai_i h542 (show 54 < 70 by decide) (show yy + 1 < 7 by omega) (by decide)]
                refine ⟨False.elim, fun _ => ⟨rfl, rfl, ?_⟩⟩
                rw [s_X10_year_95]
                rw [s_X10_year_97, sub_neg (show l < 100000 by omega) (show w (yy + 1) < 100000 by omega)]
                refine ⟨fun _ => ?_, fun q => absurd hl q⟩
                rw [hq]
                exact aft _
              | succ r ih3 =>
                intro yy l hy hl hq
                rw [smF] at hl
                rw [ltF] at hq
                have hw9 := hV.2.2.2.2.2.1 (yy + 1)
                have hl2 : l < 100000 := by
                  have h9 := smF_split w (yy + 1) (r + 1) 1
                  rw [show yy + 1 + (r + 1) = m by omega, show 1 + (yy + 1) = yy + 1 + 1 by omega] at h9
                  omega
                rw [s_X10_year_95]
                simp only [s_X10_year_0, s_X10_year_1, s_X10_year_2, s_X10_year_5, s_X10_year_6, s_X10_year_7, s_X10_year_10, s_X10_year_13, s_X10_year_14, s_X10_year_15, s_X10_year_16, s_X10_year_17, s_X10_year_20, s_X10_year_23, s_X10_year_26, s_X10_year_27, s_X10_year_28, s_X10_year_30, s_X10_year_33, s_X10_year_36, s_X10_year_38, s_X10_year_39, s_X10_year_40, s_X10_year_42, s_X10_year_43, s_X10_year_45, s_X10_year_46, s_X10_year_50, s_X10_year_51, s_X10_year_54, s_X10_year_55, s_X10_year_58, s_X10_year_59, s_X10_year_63, s_X10_year_64, s_X10_year_67, s_X10_year_70, s_X10_year_72, s_X10_year_74, s_X10_year_75, s_X10_year_77, s_X10_year_78, s_X10_year_80, s_X10_year_81, s_X10_year_83, s_X10_year_85, s_X10_year_86, s_X10_year_89, s_X10_year_90, s_X10_year_92, s_X10_year_93, s_X10_year_97, s_X10_year_100, s_X10_year_103, s_X10_year_105, s_X10_year_106, s_X10_year_109, s_X10_year_111, s_X10_year_112, s_X10_year_113, s_X10_year_115, s_X10_year_119, s_X10_year_122, s_X10_year_124, s_X10_year_125, s_X10_year_128, s_X10_year_130, s_X10_year_131, s_X10_year_134, s_X10_year_135, s_X10_year_138, s_X10_year_140, s_X10_year_141, s_X10_year_144, s_X10_year_146, s_X10_year_147, s_X10_year_148, s_X10_year_151, s_X10_year_152, s_X10_year_155, s_X10_year_157, s_X10_year_158, s_X10_year_159, s_X10_year_160, s_X10_year_161, s_X10_year_162, s_X10_year_163, s_X10_year_166, s_X10_year_169, s_X10_year_170, s_X10_year_171, s_X10_year_174, s_X10_year_177, s_X10_year_179, s_X10_year_181, s_X10_year_182, s_X10_year_185, s_X10_year_187, s_X10_year_190, s_X10_year_191, s_X10_year_194, s_X10_year_195, s_X10_year_198, s_X10_year_200, s_X10_year_203, s_X10_year_204, s_X10_year_207, s_X10_year_208, s_X10_year_209, s_X10_year_211, s_X10_year_214, s_X10_year_215, s_X10_year_218, s_X10_year_219, s_X10_year_220, s_X10_year_222, s_X10_year_225, s_X10_year_228, s_X10_year_230, gm3 k53, nI_add, sI_lt0 hl2, ai_i h542 (show 54 < 70 by decide) (show yy + 1 < 7 by omega) (by decide)]
                refine ⟨False.elim, fun _ => ⟨rfl, rfl, ?_⟩⟩
                by_cases hlw : l < w (yy + 1)
                · rw [if_pos hlw] at hq
                  rw [s_X10_year_95]
                  rw [s_X10_year_97, sub_neg hl2 (show w (yy + 1) < 100000 by omega)]
                  refine ⟨fun _ => ?_, fun q => absurd hlw q⟩
                  rw [hq]
                  exact aft _
                · rw [if_neg hlw] at hq
                  rw [sI_sub (by omega)]
                  exact ih3 (yy + 1) (l - w (yy + 1)) (by omega) (by omega) hq
            rw [s_X10_year_61]
            simp only [s_X10_year_0, s_X10_year_1, s_X10_year_2, s_X10_year_5, s_X10_year_6, s_X10_year_7, s_X10_year_10, s_X10_year_13, s_X10_year_14, s_X10_year_15, s_X10_year_16, s_X10_year_17, s_X10_year_20, s_X10_year_23, s_X10_year_26, s_X10_year_27, s_X10_year_28, s_X10_year_30, s_X10_year_33, s_X10_year_36, s_X10_year_38, s_X10_year_39, s_X10_year_40, s_X10_year_42, s_X10_year_43, s_X10_year_45, s_X10_year_46, s_X10_year_50, s_X10_year_51, s_X10_year_54, s_X10_year_55, s_X10_year_58, s_X10_year_59, s_X10_year_63, s_X10_year_64, s_X10_year_67, s_X10_year_70, s_X10_year_72, s_X10_year_74, s_X10_year_75, s_X10_year_77, s_X10_year_78, s_X10_year_80, s_X10_year_81, s_X10_year_83, s_X10_year_85, s_X10_year_86, s_X10_year_89, s_X10_year_90, s_X10_year_92, s_X10_year_93, s_X10_year_97, s_X10_year_100, s_X10_year_103, s_X10_year_105, s_X10_year_106, s_X10_year_109, s_X10_year_111, s_X10_year_112, s_X10_year_113, s_X10_year_115, s_X10_year_119, s_X10_year_122, s_X10_year_124, s_X10_year_125, s_X10_year_128, s_X10_year_130, s_X10_year_131, s_X10_year_134, s_X10_year_135, s_X10_year_138, s_X10_year_140, s_X10_year_141, s_X10_year_144, s_X10_year_146, s_X10_year_147, s_X10_year_148, s_X10_year_151, s_X10_year_152, s_X10_year_155, s_X10_year_157, s_X10_year_158, s_X10_year_159, s_X10_year_160, s_X10_year_161, s_X10_year_162, s_X10_year_163, s_X10_year_166, s_X10_year_169, s_X10_year_170, s_X10_year_171, s_X10_year_174, s_X10_year_177, s_X10_year_179, s_X10_year_181, s_X10_year_182, s_X10_year_185, s_X10_year_187, s_X10_year_190, s_X10_year_191, s_X10_year_194, s_X10_year_195, s_X10_year_198, s_X10_year_200, s_X10_year_203, s_X10_year_204, s_X10_year_207, s_X10_year_208, s_X10_year_209, s_X10_year_211, s_X10_year_214, s_X10_year_215, s_X10_year_218, s_X10_year_219, s_X10_year_220, s_X10_year_222, s_X10_year_225, s_X10_year_228, s_X10_year_230, gm0 k53, vm_o k53, sI_le (show n < 100000 by omega) (show o < 100000 by omega), nI_mul, nI_add, hdr]
            refine ⟨fun hc => absurd hc (by omega), fun _ => ⟨by decide, rfl, sp_X10_allWeights k53 h542 ?_⟩⟩
            rw [sm6 hm.2 hV.2.2.2.2.1]
            simp only [Option.toList_some, Option.toList_none, List.cons_append, List.nil_append, Option.toList, s_X10_year_0, s_X10_year_1, s_X10_year_2, s_X10_year_5, s_X10_year_6, s_X10_year_7, s_X10_year_10, s_X10_year_13, s_X10_year_14, s_X10_year_15, s_X10_year_16, s_X10_year_17, s_X10_year_20, s_X10_year_23, s_X10_year_26, s_X10_year_27, s_X10_year_28, s_X10_year_30, s_X10_year_33, s_X10_year_36, s_X10_year_38, s_X10_year_39, s_X10_year_40, s_X10_year_42, s_X10_year_43, s_X10_year_45, s_X10_year_46, s_X10_year_50, s_X10_year_51, s_X10_year_54, s_X10_year_55, s_X10_year_58, s_X10_year_59, s_X10_year_63, s_X10_year_64, s_X10_year_67, s_X10_year_70, s_X10_year_72, s_X10_year_74, s_X10_year_75, s_X10_year_77, s_X10_year_78, s_X10_year_80, s_X10_year_81, s_X10_year_83, s_X10_year_85, s_X10_year_86, s_X10_year_89, s_X10_year_90, s_X10_year_92, s_X10_year_93, s_X10_year_97, s_X10_year_100, s_X10_year_103, s_X10_year_105, s_X10_year_106, s_X10_year_109, s_X10_year_111, s_X10_year_112, s_X10_year_113, s_X10_year_115, s_X10_year_119, s_X10_year_122, s_X10_year_124, s_X10_year_125, s_X10_year_128, s_X10_year_130, s_X10_year_131, s_X10_year_134, s_X10_year_135, s_X10_year_138, s_X10_year_140, s_X10_year_141, s_X10_year_144, s_X10_year_146, s_X10_year_147, s_X10_year_148, s_X10_year_151, s_X10_year_152, s_X10_year_155, s_X10_year_157, s_X10_year_158, s_X10_year_159, s_X10_year_160, s_X10_year_161, s_X10_year_162, s_X10_year_163, s_X10_year_166, s_X10_year_169, s_X10_year_170, s_X10_year_171, s_X10_year_174, s_X10_year_177, s_X10_year_179, s_X10_year_181, s_X10_year_182, s_X10_year_185, s_X10_year_187, s_X10_year_190, s_X10_year_191, s_X10_year_194, s_X10_year_195, s_X10_year_198, s_X10_year_200, s_X10_year_203, s_X10_year_204, s_X10_year_207, s_X10_year_208, s_X10_year_209, s_X10_year_211, s_X10_year_214, s_X10_year_215, s_X10_year_218, s_X10_year_219, s_X10_year_220, s_X10_year_222, s_X10_year_225, s_X10_year_228, s_X10_year_230, hlt]
            refine ⟨fun q => ?_, rfl, rfl, ?_⟩
            · have := (sI_eq (a := smF w m 1) (b := 0) (by omega) (by decide)).mp (q.trans nI_0.symm)
              omega
            · exact lp3 (m - 1) 0 _ (by omega) (by rw [show m - 1 + 1 = m by omega]; exact hlot) rfl
        obtain ⟨g, hg⟩ := t65
        exact lp2 n 0 c2 zrB g _ _ (by omega) (f1.trans (f2.mono rfl)) hi2 ⟨g, (f2 65 rfl).trans hg, fun _ _ => rfl⟩ (fun j hj => absurd hj (by omega)) rfl
    exact lp b 0 a 0 c _ _ _ (by omega) (by omega) (Nat.le_refl _) frm.rf hsc.1 hsc.2.2.2.2.2.2.2.1 rfl
  have no : ¬ (z = - nI 1 ∨ inR 0 (n - 1) z) → R (some (.int (- nI 1))) (tab c) := fun q => by
    have := hk c frm.rf hM
    rw [yeaA, if_neg q] at this
    exact this
  rw [en_X10_year]
  simp only [s_X10_year_0, s_X10_year_1, s_X10_year_2, s_X10_year_5, s_X10_year_6, s_X10_year_7, s_X10_year_10, s_X10_year_13, s_X10_year_14, s_X10_year_16, s_X10_year_17, s_X10_year_20, s_X10_year_23, s_X10_year_26, s_X10_year_27, s_X10_year_28, s_X10_year_30, s_X10_year_33, s_X10_year_36, s_X10_year_38, s_X10_year_39, s_X10_year_40, s_X10_year_42, s_X10_year_43, s_X10_year_45, s_X10_year_46, s_X10_year_50, s_X10_year_51, s_X10_year_54, s_X10_year_55, s_X10_year_58, s_X10_year_59, s_X10_year_63, s_X10_year_64, s_X10_year_67, s_X10_year_70, s_X10_year_72, s_X10_year_74, s_X10_year_75, s_X10_year_77, s_X10_year_78, s_X10_year_80, s_X10_year_81, s_X10_year_83, s_X10_year_85, s_X10_year_86, s_X10_year_89, s_X10_year_90, s_X10_year_92, s_X10_year_93, s_X10_year_97, s_X10_year_100, s_X10_year_103, s_X10_year_105, s_X10_year_106, s_X10_year_109, s_X10_year_111, s_X10_year_112, s_X10_year_113, s_X10_year_115, s_X10_year_118, s_X10_year_119, s_X10_year_122, s_X10_year_124, s_X10_year_125, s_X10_year_128, s_X10_year_130, s_X10_year_131, s_X10_year_134, s_X10_year_135, s_X10_year_138, s_X10_year_140, s_X10_year_141, s_X10_year_144, s_X10_year_146, s_X10_year_147, s_X10_year_148, s_X10_year_151, s_X10_year_152, s_X10_year_155, s_X10_year_157, s_X10_year_158, s_X10_year_159, s_X10_year_160, s_X10_year_161, s_X10_year_162, s_X10_year_163, s_X10_year_166, s_X10_year_169, s_X10_year_170, s_X10_year_171, s_X10_year_174, s_X10_year_177, s_X10_year_179, s_X10_year_181, s_X10_year_182, s_X10_year_185, s_X10_year_187, s_X10_year_190, s_X10_year_191, s_X10_year_194, s_X10_year_195, s_X10_year_198, s_X10_year_200, s_X10_year_203, s_X10_year_204, s_X10_year_207, s_X10_year_208, s_X10_year_209, s_X10_year_211, s_X10_year_214, s_X10_year_215, s_X10_year_218, s_X10_year_219, s_X10_year_220, s_X10_year_222, s_X10_year_225, s_X10_year_228, s_X10_year_230, vm_o h53]
  refine ⟨fun hz => yes (Or.inl hz), fun hz => sp_isMan2 h53 (by omega) ?_⟩
  simp only [Option.toList_some, Option.toList_none, List.cons_append, List.nil_append, Option.toList, s_X10_year_0, s_X10_year_1, s_X10_year_2, s_X10_year_5, s_X10_year_6, s_X10_year_7, s_X10_year_10, s_X10_year_13, s_X10_year_14, s_X10_year_16, s_X10_year_17, s_X10_year_20, s_X10_year_23, s_X10_year_26, s_X10_year_27, s_X10_year_28, s_X10_year_30, s_X10_year_33, s_X10_year_36, s_X10_year_38, s_X10_year_39, s_X10_year_40, s_X10_year_42, s_X10_year_43, s_X10_year_45, s_X10_year_46, s_X10_year_50, s_X10_year_51, s_X10_year_54, s_X10_year_55, s_X10_year_58, s_X10_year_59, s_X10_year_63, s_X10_year_64, s_X10_year_67, s_X10_year_70, s_X10_year_72, s_X10_year_74, s_X10_year_75, s_X10_year_77, s_X10_year_78, s_X10_year_80, s_X10_year_81, s_X10_year_83, s_X10_year_85, s_X10_year_86, s_X10_year_89, s_X10_year_90, s_X10_year_92, s_X10_year_93, s_X10_year_97, s_X10_year_100, s_X10_year_103, s_X10_year_105, s_X10_year_106, s_X10_year_109, s_X10_year_111, s_X10_year_112, s_X10_year_113, s_X10_year_115, s_X10_year_118, s_X10_year_119, s_X10_year_122, s_X10_year_124, s_X10_year_125, s_X10_year_128, s_X10_year_130, s_X10_year_131, s_X10_year_134, s_X10_year_135, s_X10_year_138, s_X10_year_140, s_X10_year_141, s_X10_year_144, s_X10_year_146, s_X10_year_147, s_X10_year_148, s_X10_year_151, s_X10_year_152, s_X10_year_155, s_X10_year_157, s_X10_year_158, s_X10_year_159, s_X10_year_160, s_X10_year_161, s_X10_year_162, s_X10_year_163, s_X10_year_166, s_X10_year_169, s_X10_year_170, s_X10_year_171, s_X10_year_174, s_X10_year_177, s_X10_year_179, s_X10_year_181, s_X10_year_182, s_X10_year_185, s_X10_year_187, s_X10_year_190, s_X10_year_191, s_X10_year_194, s_X10_year_195, s_X10_year_198, s_X10_year_200, s_X10_year_203, s_X10_year_204, s_X10_year_207, s_X10_year_208, s_X10_year_209, s_X10_year_211, s_X10_year_214, s_X10_year_215, s_X10_year_218, s_X10_year_219, s_X10_year_220, s_X10_year_222, s_X10_year_225, s_X10_year_228, s_X10_year_230, b2_0]
  exact ⟨fun hq => no (fun q => q.elim hz hq), fun hq => yes (Or.inr (Decidable.not_not.mp hq))⟩
end MP
