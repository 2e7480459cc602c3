/-! ===== the model: calls that set and tell ===== -/
section MX
variable {ro : rQ} {LL : Nat} {xs : Nat → Int32} {d : Nat} {R : rR} {c : Nat → rE} {h : rH} {n m v si sg k t : Nat} {w fo : Nat → Nat} {st pd : Nat → Int32} {im : Nat → Option TS} {x y z fr men num law sgg sii : Int32} {ru lu : Int64}
theorem sp_isMan2 (h53 : c 53 = mobj (nI n) num law sii sgg fr ru lu) (hn : 1 ≤ n) (hk : R (some (.int (b2 (inR 0 (n - 1) x)))) (tab c)) : rM ro (d + 2) 102 0 0 [.ref 53, .int x] (tab c) R := sp_X10_isMan h53 hn hk
theorem sp_isNum2 (h53 : c 53 = mobj men (nI m) law sii sgg fr ru lu) (hk : R (some (.int (b2 (inR 1 m x)))) (tab c)) : rM ro (d + 2) 103 0 0 [.ref 53, .int x] (tab c) R := sp_X10_isNumber h53 hk
theorem sp_X10_plain (h53 : c 53 = mobj (nI n) (nI m) law sii sgg fr ru lu) (hm : m ≤ 6) (h54 : tyI c 54 7) (h55 : tyI c 55 6) (hk : ∀ c', frm [53, 54, 55] c c' → c' 53 = mobj (nI n) (nI m) law (nI 0) sgg fr ru lu → isI c' 54 7 (fun j => nI (if 1 ≤ j ∧ j ≤ m then 1 else 0)) → isI c' 55 6 (fun _ => nI 0) → R none (tab c')) : rM ro (d + 2) 99 0 0 [.ref 53] (tab c) R := by
  rw [en_X10_plain]
  simp only [s_X10_plain_0, s_X10_plain_1, s_X10_plain_3, s_X10_plain_5, s_X10_plain_8, s_X10_plain_9, s_X10_plain_12, s_X10_plain_13, s_X10_plain_14, s_X10_plain_15, s_X10_plain_16, s_X10_plain_19, s_X10_plain_22, s_X10_plain_25, s_X10_plain_26, s_X10_plain_29, s_X10_plain_30, s_X10_plain_31, s_X10_plain_34, s_X10_plain_37, s_X10_plain_38, s_X10_plain_40, s_X10_plain_42, s_X10_plain_45, s_X10_plain_46, s_X10_plain_49, s_X10_plain_50, s_X10_plain_51, s_X10_plain_52, s_X10_plain_55, s_X10_plain_58, s_X10_plain_59, s_X10_plain_60, s_X10_plain_63]
  refine ⟨rfl, ?_⟩
  have lp2 : ∀ rem j c1 val, j + rem = 6 → frm [54, 55] c c1 → isI c1 54 7 (fun j => nI (if 1 ≤ j ∧ j ≤ m then 1 else 0)) → isI c1 55 6 val → (∀ i, i < j → val i = nI 0) → rU ro (d + 1) tb_X10_plain R 39 [.ref 53, .int (nI j)] [] (tab c1) := by
    intro rem
    induction rem with
    | zero =>
      intro j c1 val hj hf h1 h2 hv
      have : j = 6 := by omega
      subst this
      have e53 := (hf 53 rfl).trans h53
      rw [s_X10_plain_39]
      simp only [s_X10_plain_0, s_X10_plain_1, s_X10_plain_3, s_X10_plain_5, s_X10_plain_8, s_X10_plain_9, s_X10_plain_12, s_X10_plain_13, s_X10_plain_14, s_X10_plain_15, s_X10_plain_16, s_X10_plain_19, s_X10_plain_22, s_X10_plain_25, s_X10_plain_26, s_X10_plain_29, s_X10_plain_30, s_X10_plain_31, s_X10_plain_34, s_X10_plain_37, s_X10_plain_38, s_X10_plain_40, s_X10_plain_42, s_X10_plain_45, s_X10_plain_46, s_X10_plain_49, s_X10_plain_50, s_X10_plain_51, s_X10_plain_52, s_X10_plain_55, s_X10_plain_58, s_X10_plain_59, s_X10_plain_60, s_X10_plain_63, pm5 e53]
      have hf2 : frm [53] c1 (fup c1 53 (mobj (nI n) (nI m) law (nI 0) sgg fr ru lu)) := frm.rf.fup rfl
      exact ⟨fun _ => hk _ ((hf.mono rfl).trans (hf2.mono rfl)) fup_self (h1.fr hf2 rfl) ((h2.fr hf2 rfl).cg hv), fun hc => absurd ((sI_le (by decide) (by decide)).mpr (Nat.le_refl _)) hc⟩
    | succ rem ih =>
      intro j c1 val hj hf h1 h2 hv
      have e53 := (hf 53 rfl).trans h53
      rw [s_X10_plain_39]
      simp only [s_X10_plain_0, s_X10_plain_1, s_X10_plain_3, s_X10_plain_5, s_X10_plain_8, s_X10_plain_9, s_X10_plain_12, s_X10_plain_13, s_X10_plain_14, s_X10_plain_15, s_X10_plain_16, s_X10_plain_19, s_X10_plain_22, s_X10_plain_25, s_X10_plain_26, s_X10_plain_29, s_X10_plain_30, s_X10_plain_31, s_X10_plain_34, s_X10_plain_37, s_X10_plain_38, s_X10_plain_40, s_X10_plain_42, s_X10_plain_45, s_X10_plain_46, s_X10_plain_49, s_X10_plain_50, s_X10_plain_51, s_X10_plain_52, s_X10_plain_55, s_X10_plain_58, s_X10_plain_59, s_X10_plain_60, s_X10_plain_63, gm4 e53, nI_add, sI_le (show 6 < 100000 by decide) (show j < 100000 by omega)]
      refine ⟨fun hc => absurd hc (by omega), fun _ => si_i h2 (by decide) (by omega) (by decide) fun c2 hf2 hi2 => ?_⟩
      exact ⟨rfl, ih (j + 1) c2 _ (by omega) (hf.trans (hf2.mono rfl)) (h1.fr hf2 rfl) hi2 (fillI hv rfl)⟩
  have lp1 : ∀ rem j c1 val, j + rem = 7 → frm [54, 55] c c1 → isI c1 54 7 val → tyI c1 55 6 → (∀ i, i < j → val i = nI (if 1 ≤ i ∧ i ≤ m then 1 else 0)) → rU ro (d + 1) tb_X10_plain R 2 [.ref 53, .int (nI j)] [] (tab c1) := by
    intro rem
    induction rem with
    | zero =>
      intro j c1 val hj hf h1 h2 hv
      have : j = 7 := by omega
      subst this
      rw [s_X10_plain_2]
      simp only [s_X10_plain_0, s_X10_plain_1, s_X10_plain_3, s_X10_plain_5, s_X10_plain_8, s_X10_plain_9, s_X10_plain_12, s_X10_plain_13, s_X10_plain_14, s_X10_plain_15, s_X10_plain_16, s_X10_plain_19, s_X10_plain_22, s_X10_plain_25, s_X10_plain_26, s_X10_plain_29, s_X10_plain_30, s_X10_plain_31, s_X10_plain_34, s_X10_plain_37, s_X10_plain_38, s_X10_plain_40, s_X10_plain_42, s_X10_plain_45, s_X10_plain_46, s_X10_plain_49, s_X10_plain_50, s_X10_plain_51, s_X10_plain_52, s_X10_plain_55, s_X10_plain_58, s_X10_plain_59, s_X10_plain_60, s_X10_plain_63]
      obtain ⟨f2, hf2⟩ := h2
      exact ⟨fun _ => ⟨rfl, lp2 6 0 c1 f2 (by omega) hf (h1.cg hv) ⟨f2, hf2, fun _ _ => rfl⟩ (fun i hi => absurd hi (by omega))⟩, fun hc => absurd ((sI_le (by decide) (by decide)).mpr (Nat.le_refl _)) hc⟩
    | succ rem ih =>
      intro j c1 val hj hf h1 h2 hv
      have e53 := (hf 53 rfl).trans h53
      rw [s_X10_plain_2]
      simp only [s_X10_plain_0, s_X10_plain_1, s_X10_plain_3, s_X10_plain_5, s_X10_plain_8, s_X10_plain_9, s_X10_plain_12, s_X10_plain_13, s_X10_plain_14, s_X10_plain_15, s_X10_plain_16, s_X10_plain_19, s_X10_plain_22, s_X10_plain_25, s_X10_plain_26, s_X10_plain_29, s_X10_plain_30, s_X10_plain_31, s_X10_plain_34, s_X10_plain_37, s_X10_plain_38, s_X10_plain_40, s_X10_plain_42, s_X10_plain_45, s_X10_plain_46, s_X10_plain_49, s_X10_plain_50, s_X10_plain_51, s_X10_plain_52, s_X10_plain_55, s_X10_plain_58, s_X10_plain_59, s_X10_plain_60, s_X10_plain_63, gm3 e53, gm1 e53, nI_add, sI_le (show 7 < 100000 by decide) (show j < 100000 by omega)]
      refine ⟨fun hc => absurd hc (by omega), fun _ => sp_in2 ?_⟩
      simp only [Option.toList_some, Option.toList_none, List.cons_append, List.nil_append, Option.toList, s_X10_plain_0, s_X10_plain_1, s_X10_plain_3, s_X10_plain_5, s_X10_plain_8, s_X10_plain_9, s_X10_plain_12, s_X10_plain_13, s_X10_plain_14, s_X10_plain_15, s_X10_plain_16, s_X10_plain_19, s_X10_plain_22, s_X10_plain_25, s_X10_plain_26, s_X10_plain_29, s_X10_plain_30, s_X10_plain_31, s_X10_plain_34, s_X10_plain_37, s_X10_plain_38, s_X10_plain_40, s_X10_plain_42, s_X10_plain_45, s_X10_plain_46, s_X10_plain_49, s_X10_plain_50, s_X10_plain_51, s_X10_plain_52, s_X10_plain_55, s_X10_plain_58, s_X10_plain_59, s_X10_plain_60, s_X10_plain_63, b2_0, inR_iff (show j < 100000 by omega) (show 1 < 100000 by decide) (show m < 100000 by omega), nI_add]
      refine ⟨fun hq => si_i h1 (by decide) (by omega) (by decide) fun c2 hf2 hi2 => ?_, fun hq => si_i h1 (by decide) (by omega) (by decide) fun c2 hf2 hi2 => ?_⟩
      · exact ⟨rfl, ih (j + 1) c2 _ (by omega) (hf.trans (hf2.mono rfl)) hi2 (h2.fr hf2 rfl) (fillI hv (by rw [if_neg hq]))⟩
      · exact ⟨rfl, ih (j + 1) c2 _ (by omega) (hf.trans (hf2.mono rfl)) hi2 (h2.fr hf2 rfl) (fillI hv (by rw [if_pos (Decidable.not_not.mp hq)]))⟩
  obtain ⟨f1, hf1⟩ := h54
  exact lp1 7 0 c f1 (by omega) frm.rf ⟨f1, hf1, fun _ _ => rfl⟩ h55 (fun i hi => absurd hi (by omega))
theorem ml_inn (hV : VS (n, m, v, w, fo, si, st)) (hM : MS c (n, m, v, w, fo, si, st) sg pd im) (hk : ∀ c', frm MM c c' → MS c' (innT (n, m, v, w, fo, si, st) x y) sg pd im → R (some (.int (innA (n, m, v, w, fo, si, st) x y))) (tab c')) : rM ro (d + 3) 104 0 0 [.ref 53, .int x, .int y] (tab c) R := by
  obtain ⟨⟨⟨fr, ru, lu, h53⟩, h54, h55, h56, h57⟩, hsc, him⟩ := id hM
  rw [en_X10_inn]
  simp only [s_X10_inn_0, s_X10_inn_1, s_X10_inn_2, s_X10_inn_4, s_X10_inn_7, s_X10_inn_10, s_X10_inn_11, s_X10_inn_12, s_X10_inn_14, s_X10_inn_17, s_X10_inn_20, s_X10_inn_22, s_X10_inn_23, s_X10_inn_25, s_X10_inn_26, s_X10_inn_29, s_X10_inn_30, s_X10_inn_31, s_X10_inn_34, s_X10_inn_35, s_X10_inn_36, s_X10_inn_37, s_X10_inn_38, s_X10_inn_41, s_X10_inn_42, s_X10_inn_43, s_X10_inn_46, s_X10_inn_47, s_X10_inn_50, s_X10_inn_51]
  refine sp_in2 ?_
  simp only [Option.toList_some, Option.toList_none, List.cons_append, List.nil_append, Option.toList, s_X10_inn_0, s_X10_inn_1, s_X10_inn_2, s_X10_inn_4, s_X10_inn_7, s_X10_inn_10, s_X10_inn_11, s_X10_inn_12, s_X10_inn_14, s_X10_inn_17, s_X10_inn_20, s_X10_inn_22, s_X10_inn_23, s_X10_inn_25, s_X10_inn_26, s_X10_inn_29, s_X10_inn_30, s_X10_inn_31, s_X10_inn_34, s_X10_inn_35, s_X10_inn_36, s_X10_inn_37, s_X10_inn_38, s_X10_inn_41, s_X10_inn_42, s_X10_inn_43, s_X10_inn_46, s_X10_inn_47, s_X10_inn_50, s_X10_inn_51, b2_0]
  refine ⟨fun hx => ?_, fun hx => sp_in2 ?_⟩
  · have := hk c frm.rf (by rw [innT, if_neg (fun q => hx q.1)]; exact hM)
    rw [innA, if_neg (fun q => hx q.1)] at this
    exact this
  · have hx := Decidable.not_not.mp hx
    simp only [Option.toList_some, Option.toList_none, List.cons_append, List.nil_append, Option.toList, s_X10_inn_0, s_X10_inn_1, s_X10_inn_2, s_X10_inn_4, s_X10_inn_7, s_X10_inn_10, s_X10_inn_11, s_X10_inn_12, s_X10_inn_14, s_X10_inn_17, s_X10_inn_20, s_X10_inn_22, s_X10_inn_23, s_X10_inn_25, s_X10_inn_26, s_X10_inn_29, s_X10_inn_30, s_X10_inn_31, s_X10_inn_34, s_X10_inn_35, s_X10_inn_36, s_X10_inn_37, s_X10_inn_38, s_X10_inn_41, s_X10_inn_42, s_X10_inn_43, s_X10_inn_46, s_X10_inn_47, s_X10_inn_50, s_X10_inn_51, b2_0]
    refine ⟨fun hy => ?_, fun hy => ?_⟩
    · have := hk c frm.rf (by rw [innT, if_neg (fun q => hy q.2)]; exact hM)
      rw [innA, if_neg (fun q => hy q.2)] at this
      exact this
    · have hy := Decidable.not_not.mp hy
      have hxy := And.intro hx hy
      obtain ⟨a, ha1, ha2, rfl⟩ := inR_nI hx (by decide) (by decide)
      obtain ⟨b, hb1, hb2, rfl⟩ := inR_nI hy (by decide) (by decide)
      simp only [gm0 h53, gm1 h53, s_X10_inn_0, s_X10_inn_1, s_X10_inn_2, s_X10_inn_4, s_X10_inn_7, s_X10_inn_10, s_X10_inn_11, s_X10_inn_12, s_X10_inn_14, s_X10_inn_17, s_X10_inn_20, s_X10_inn_22, s_X10_inn_23, s_X10_inn_25, s_X10_inn_26, s_X10_inn_29, s_X10_inn_30, s_X10_inn_31, s_X10_inn_34, s_X10_inn_35, s_X10_inn_36, s_X10_inn_37, s_X10_inn_38, s_X10_inn_41, s_X10_inn_42, s_X10_inn_43, s_X10_inn_46, s_X10_inn_47, s_X10_inn_50, s_X10_inn_51, pm0 h53, nI_mul, nI_add]
      refine ⟨rfl, ?_⟩
      rw [pm1 fup_self]
      rw [vm_o (c := fup (fup c 53 _) 53 _) fup_self]
      have hf0 : frm [53] c (fup (fup c 53 (mobj (nI a) (nI m) (nI v) (nI si) (nI sg) fr ru lu)) 53 (mobj (nI a) (nI b) (nI v) (nI si) (nI sg) fr ru lu)) := (frm.rf.fup rfl).fup rfl
      refine sp_X10_plain fup_self hb2 (h54.ty.fr hf0 rfl) (h55.ty.fr hf0 rfl) fun c1 hf1 e53 e54 e55 => ?_
      simp only [Option.toList_some, Option.toList_none, List.cons_append, List.nil_append, Option.toList, s_X10_inn_0, s_X10_inn_1, s_X10_inn_2, s_X10_inn_4, s_X10_inn_7, s_X10_inn_10, s_X10_inn_11, s_X10_inn_12, s_X10_inn_14, s_X10_inn_17, s_X10_inn_20, s_X10_inn_22, s_X10_inn_23, s_X10_inn_25, s_X10_inn_26, s_X10_inn_29, s_X10_inn_30, s_X10_inn_31, s_X10_inn_34, s_X10_inn_35, s_X10_inn_36, s_X10_inn_37, s_X10_inn_38, s_X10_inn_41, s_X10_inn_42, s_X10_inn_43, s_X10_inn_46, s_X10_inn_47, s_X10_inn_50, s_X10_inn_51]
      have hf : frm [53, 54, 55] c c1 := (hf0.mono rfl).trans hf1
      have e1 : innT (n, m, v, w, fo, si, st) (nI a) (nI b) = (a, b, v, (fun j => if 1 ≤ j ∧ j ≤ b then 1 else 0), (fun _ => 0), 0, st) := by
        unfold innT
        rw [if_pos hxy, nI_c (by omega), nI_c (by omega)]
      have := hk c1 (hf.mono rfl) (by rw [e1]; exact ⟨⟨⟨fr, ru, lu, e53⟩, e54, e55, h56.fr hf rfl, h57.fr hf rfl⟩, hsc.fr hf rfl, him.fr hf rfl⟩)
      rw [innA, if_pos hxy, Nat.mul_comm] at this
      exact this
theorem ml_rule (hM : MS c (n, m, v, w, fo, si, st) sg pd im) (hk : ∀ c', frm MM c c' → MS c' (rulT (n, m, v, w, fo, si, st) x) sg pd im → R (some (.int (rulA (n, m, v, w, fo, si, st) x))) (tab c')) : rM ro (d + 2) 105 0 0 [.ref 53, .int x] (tab c) R := by
  obtain ⟨⟨⟨fr, ru, lu, h53⟩, h54, h55, h56, h57⟩, hsc, him⟩ := id hM
  rw [en_X10_rule]
  simp only [s_X10_rule_0, s_X10_rule_1, s_X10_rule_2, s_X10_rule_3, s_X10_rule_6, s_X10_rule_9, s_X10_rule_11, s_X10_rule_12, s_X10_rule_13, s_X10_rule_16, s_X10_rule_17, s_X10_rule_18, s_X10_rule_19, s_X10_rule_22, s_X10_rule_23]
  refine sp_in2 ?_
  simp only [Option.toList_some, Option.toList_none, List.cons_append, List.nil_append, Option.toList, s_X10_rule_0, s_X10_rule_1, s_X10_rule_2, s_X10_rule_3, s_X10_rule_6, s_X10_rule_9, s_X10_rule_11, s_X10_rule_12, s_X10_rule_13, s_X10_rule_16, s_X10_rule_17, s_X10_rule_18, s_X10_rule_19, s_X10_rule_22, s_X10_rule_23, b2_0, gm2 h53, pm2 h53]
  refine ⟨fun hx => ?_, fun hx => ⟨rfl, ?_⟩⟩
  · have := hk c frm.rf (by rw [rulT, if_neg hx]; exact hM)
    rw [rulA, if_neg hx] at this
    exact this
  · have hx := Decidable.not_not.mp hx
    obtain ⟨a, ha1, ha2, rfl⟩ := inR_nI hx (by decide) (by decide)
    have hf : frm [53] c (fup c 53 (mobj (nI n) (nI m) (nI a) (nI si) (nI sg) fr ru lu)) := frm.rf.fup rfl
    have := hk _ (hf.mono rfl) (by
      rw [rulT, if_pos hx, nI_c (by omega)]
      exact ⟨⟨⟨fr, ru, lu, fup_self⟩, h54.fr hf rfl, h55.fr hf rfl, h56.fr hf rfl, h57.fr hf rfl⟩, hsc.fr hf rfl, him.fr hf rfl⟩)
    rw [rulA, if_pos hx] at this
    exact this
theorem ml_say (hs : sg ≤ 48) (hM : MS c (n, m, v, w, fo, si, st) sg pd im) (hk : ∀ c', frm MM c c' → MS c' (n, m, v, w, fo, si, st) (sayS sg x) (sayP sg pd x) im → R (some (.int (sayA sg x))) (tab c')) : rM ro (d + 2) 106 0 0 [.ref 53, .int x] (tab c) R := by
  obtain ⟨⟨⟨fr, ru, lu, h53⟩, h54, h55, h56, h57⟩, hsc, him⟩ := id hM
  rw [en_X10_say]
  simp only [s_X10_say_0, s_X10_say_1, s_X10_say_3, s_X10_say_5, s_X10_say_8, s_X10_say_11, s_X10_say_13, s_X10_say_14, s_X10_say_15, s_X10_say_18, s_X10_say_20, s_X10_say_23, s_X10_say_25, s_X10_say_26, s_X10_say_27, s_X10_say_30, s_X10_say_31, s_X10_say_34, s_X10_say_35, s_X10_say_36, s_X10_say_37, s_X10_say_38, s_X10_say_41, s_X10_say_42, s_X10_say_43, s_X10_say_46, s_X10_say_47, s_X10_say_50]
  refine sp_in2 ?_
  simp only [Option.toList_some, Option.toList_none, List.cons_append, List.nil_append, Option.toList, s_X10_say_0, s_X10_say_1, s_X10_say_3, s_X10_say_5, s_X10_say_8, s_X10_say_11, s_X10_say_13, s_X10_say_14, s_X10_say_15, s_X10_say_18, s_X10_say_20, s_X10_say_23, s_X10_say_25, s_X10_say_26, s_X10_say_27, s_X10_say_30, s_X10_say_31, s_X10_say_34, s_X10_say_35, s_X10_say_36, s_X10_say_37, s_X10_say_38, s_X10_say_41, s_X10_say_42, s_X10_say_43, s_X10_say_46, s_X10_say_47, s_X10_say_50, b2_0, gm7 h53, gm8 h53, sI_eq (show sg < 100000 by omega) (show 48 < 100000 by decide)]
  refine ⟨fun hx => ?_, fun hx => ⟨fun h48 => ?_, fun h48 => si_i h57 (by decide) (by omega) (by decide) fun c1 hf1 hi1 => ?_⟩⟩
  · have := hk c frm.rf (by unfold sayS sayP; rw [if_neg hx, if_neg hx]; exact hM)
    rw [sayA, if_neg hx] at this
    exact this
  · have hx := Decidable.not_not.mp hx
    have := hk c frm.rf (by unfold sayS sayP; rw [if_pos hx, if_pos hx, if_pos h48, if_pos h48]; exact hM)
    rw [sayA, if_pos hx, if_pos h48] at this
    exact this
  · have hx := Decidable.not_not.mp hx
    have e53 := (hf1 53 rfl).trans h53
    simp only [s_X10_say_0, s_X10_say_1, s_X10_say_3, s_X10_say_5, s_X10_say_8, s_X10_say_11, s_X10_say_13, s_X10_say_14, s_X10_say_15, s_X10_say_18, s_X10_say_20, s_X10_say_23, s_X10_say_25, s_X10_say_26, s_X10_say_27, s_X10_say_30, s_X10_say_31, s_X10_say_34, s_X10_say_35, s_X10_say_36, s_X10_say_37, s_X10_say_38, s_X10_say_41, s_X10_say_42, s_X10_say_43, s_X10_say_46, s_X10_say_47, s_X10_say_50, gm7 e53, pm7 e53, nI_add]
    rw [gm7 fup_self, s_X10_say_50]
    have hf2 : frm [53] c1 (fup c1 53 (mobj (nI n) (nI m) (nI v) (nI si) (nI (sg + 1)) fr ru lu)) := frm.rf.fup rfl
    have hf : frm [53, 57] c (fup c1 53 (mobj (nI n) (nI m) (nI v) (nI si) (nI (sg + 1)) fr ru lu)) := (hf1.mono rfl).trans (hf2.mono rfl)
    have := hk _ (hf.mono rfl) (by
      unfold sayS sayP
      rw [if_pos hx, if_pos hx, if_neg h48, if_neg h48]
      exact ⟨⟨⟨fr, ru, lu, fup_self⟩, h54.fr hf rfl, h55.fr hf rfl, h56.fr hf rfl, hi1.fr hf2 rfl⟩, hsc.fr hf rfl, him.fr hf rfl⟩)
    rw [sayA, if_pos hx, if_neg h48] at this
    exact this
theorem ml_wipe (hM : MS c (n, m, v, w, fo, si, st) sg pd im) (hk : ∀ c', frm MM c c' → MS c' (n, m, v, w, fo, si, st) 0 pd im → R (some (.int (nI sg))) (tab c')) : rM ro (d + 1) 107 0 0 [.ref 53] (tab c) R := by
  obtain ⟨⟨⟨fr, ru, lu, h53⟩, h54, h55, h56, h57⟩, hsc, him⟩ := id hM
  rw [en_X10_wipe]
  simp only [s_X10_wipe_0, s_X10_wipe_1, s_X10_wipe_4, s_X10_wipe_5, s_X10_wipe_6, s_X10_wipe_7, s_X10_wipe_10, s_X10_wipe_11, gm7 h53, pm7 h53]
  have hf : frm [53] c (fup c 53 (mobj (nI n) (nI m) (nI v) (nI si) (nI 0) fr ru lu)) := frm.rf.fup rfl
  exact ⟨rfl, hk _ (hf.mono rfl) ⟨⟨⟨fr, ru, lu, fup_self⟩, h54.fr hf rfl, h55.fr hf rfl, h56.fr hf rfl, h57.fr hf rfl⟩, hsc.fr hf rfl, him.fr hf rfl⟩⟩
theorem ml_forget (hM : MS c (n, m, v, w, fo, si, st) sg pd im) (hk : ∀ c', frm MM c c' → MS c' (n, m, v, w, fo, 0, st) sg pd im → R (some (.int (nI si))) (tab c')) : rM ro (d + 1) 157 0 0 [.ref 53] (tab c) R := by
  obtain ⟨⟨⟨fr, ru, lu, h53⟩, h54, h55, h56, h57⟩, hsc, him⟩ := id hM
  rw [en_X10_forget]
  simp only [s_X10_forget_0, s_X10_forget_1, s_X10_forget_4, s_X10_forget_5, s_X10_forget_6, s_X10_forget_7, s_X10_forget_10, s_X10_forget_11, gm5 h53, pm5 h53]
  have hf : frm [53] c (fup c 53 (mobj (nI n) (nI m) (nI v) (nI 0) (nI sg) fr ru lu)) := frm.rf.fup rfl
  exact ⟨rfl, hk _ (hf.mono rfl) ⟨⟨⟨fr, ru, lu, fup_self⟩, h54.fr hf rfl, h55.fr hf rfl, h56.fr hf rfl, h57.fr hf rfl⟩, hsc.fr hf rfl, him.fr hf rfl⟩⟩
theorem ml_fool (hV : VS (n, m, v, w, fo, si, st)) (hM : MS c (n, m, v, w, fo, si, st) sg pd im) (hk : ∀ c', frm MM c c' → MS c' (fooT (n, m, v, w, fo, si, st) x y) sg pd im → R (some (.int (fooA (n, m, v, w, fo, si, st) x y))) (tab c')) : rM ro (d + 3) 115 0 0 [.ref 53, .int x, .int y] (tab c) R := by
  obtain ⟨⟨⟨fr, ru, lu, h53⟩, h54, h55, h56, h57⟩, hsc, him⟩ := id hM
  have hn := hV.1
  have hm := hV.2.1
  rw [en_X10_fool]
  have no : ¬ (inR 0 (n - 1) x ∧ (y = 0 ∨ inR 1 m y)) → R (some (.int (- nI 1))) (tab c) := by
    intro hx
    have := hk c frm.rf (by rw [fooT, if_neg hx]; exact hM)
    rw [fooA, if_neg hx] at this
    exact this
  have yes : inR 0 (n - 1) x → (y = 0 ∨ inR 1 m y) → rU ro (d + 2) tb_X10_fool R 22 [.ref 53, .int x, .int y, .null] [] (tab c) := by
    intro hx hy
    have hxy := And.intro hx hy
    obtain ⟨a, ha1, ha2, rfl⟩ := inR_nI hx (by decide) (by omega)
    obtain ⟨b, rfl, hb⟩ : ∃ b, y = nI b ∧ b < 100000 := by
      rcases hy with rfl | hy
      · exact ⟨0, nI_0.symm, by decide⟩
      · obtain ⟨b, hb1, hb2, rfl⟩ := inR_nI hy (by decide) (by omega)
        exact ⟨b, rfl, by omega⟩
    simp only [s_X10_fool_0, s_X10_fool_1, s_X10_fool_2, s_X10_fool_5, s_X10_fool_8, s_X10_fool_9, s_X10_fool_12, s_X10_fool_13, s_X10_fool_14, s_X10_fool_17, s_X10_fool_20, s_X10_fool_21, s_X10_fool_22, s_X10_fool_23, s_X10_fool_26, s_X10_fool_27, s_X10_fool_28, s_X10_fool_29, s_X10_fool_30, s_X10_fool_33, s_X10_fool_34, s_X10_fool_35, s_X10_fool_36, s_X10_fool_37, gm4 h53, ai_i h55 (show 55 < 70 by decide) (show a < 6 by omega) (by decide)]
    refine ⟨rfl, si_i h55 (by decide) (by omega) (by decide) fun c1 hf1 hi1 => ?_⟩
    have := hk c1 (hf1.mono rfl) (by
      rw [fooT, if_pos hxy, nI_c (by omega), nI_c hb]
      exact ⟨⟨⟨fr, ru, lu, (hf1 53 rfl).trans h53⟩, h54.fr hf1 rfl, hi1.cg (fun j _ => (congrFun updN_nI j).symm), h56.fr hf1 rfl, h57.fr hf1 rfl⟩, hsc.fr hf1 rfl, him.fr hf1 rfl⟩)
    rw [fooA, if_pos hxy, nI_c (by omega)] at this
    exact this
  simp only [s_X10_fool_0, s_X10_fool_1, s_X10_fool_2, s_X10_fool_5, s_X10_fool_8, s_X10_fool_9, s_X10_fool_12, s_X10_fool_13, s_X10_fool_14, s_X10_fool_17, s_X10_fool_20, s_X10_fool_21, s_X10_fool_23, s_X10_fool_26, s_X10_fool_27, s_X10_fool_28, s_X10_fool_29, s_X10_fool_30, s_X10_fool_33, s_X10_fool_34, s_X10_fool_35, s_X10_fool_36, s_X10_fool_37, vm_o h53]
  refine sp_isMan2 h53 (by omega) ?_
  simp only [Option.toList_some, Option.toList_none, List.cons_append, List.nil_append, Option.toList, s_X10_fool_0, s_X10_fool_1, s_X10_fool_2, s_X10_fool_5, s_X10_fool_8, s_X10_fool_9, s_X10_fool_12, s_X10_fool_13, s_X10_fool_14, s_X10_fool_17, s_X10_fool_20, s_X10_fool_21, s_X10_fool_23, s_X10_fool_26, s_X10_fool_27, s_X10_fool_28, s_X10_fool_29, s_X10_fool_30, s_X10_fool_33, s_X10_fool_34, s_X10_fool_35, s_X10_fool_36, s_X10_fool_37, vm_o h53, b2_0]
  refine ⟨fun hx => no (fun q => hx q.1), fun hx => ⟨fun hy => yes (Decidable.not_not.mp hx) (Or.inl hy), fun hy => sp_isNum2 h53 ?_⟩⟩
  simp only [Option.toList_some, Option.toList_none, List.cons_append, List.nil_append, Option.toList, s_X10_fool_0, s_X10_fool_1, s_X10_fool_2, s_X10_fool_5, s_X10_fool_8, s_X10_fool_9, s_X10_fool_12, s_X10_fool_13, s_X10_fool_14, s_X10_fool_17, s_X10_fool_20, s_X10_fool_21, s_X10_fool_23, s_X10_fool_26, s_X10_fool_27, s_X10_fool_28, s_X10_fool_29, s_X10_fool_30, s_X10_fool_33, s_X10_fool_34, s_X10_fool_35, s_X10_fool_36, s_X10_fool_37, b2_0]
  exact ⟨fun hz => no (fun q => q.2.elim hy hz), fun hz => yes (Decidable.not_not.mp hx) (Or.inr (Decidable.not_not.mp hz))⟩
theorem smF_split (f : Nat → Nat) : ∀ a b x, smF f (a + b) x = smF f a x + smF f b (x + a)
  | 0, b, x => by rw [Nat.zero_add, smF, Nat.zero_add, Nat.add_zero]
  | a + 1, b, x => by rw [show a + 1 + b = (a + b) + 1 by omega, smF, smF, smF_split f a b (x + 1), show x + 1 + a = x + (a + 1) by omega, Nat.add_assoc]
theorem smF_0 {f : Nat → Nat} : ∀ r x, (∀ j, x ≤ j → f j = 0) → smF f r x = 0
  | 0, _, _ => rfl
  | r + 1, x, h => by rw [smF, h x (Nat.le_refl _), smF_0 r (x + 1) (fun j hj => h j (by omega))]
theorem sm6 {w : Nat → Nat} {m : Nat} (hm : m ≤ 6) (h0 : ∀ j, m < j → w j = 0) : smF w 6 1 = smF w m 1 := by
  have e := smF_split w m (6 - m) 1
  rw [smF_0 (6 - m) (1 + m) (fun j hj => h0 j (by omega)), Nat.add_zero, show m + (6 - m) = 6 by omega] at e
  exact e
theorem ml_weight (hV : VS (n, m, v, w, fo, si, st)) (hM : MS c (n, m, v, w, fo, si, st) sg pd im) (hk : ∀ c', frm MM c c' → MS c' (weiT (n, m, v, w, fo, si, st) x y) sg pd im → R (some (.int (weiA (n, m, v, w, fo, si, st) x y))) (tab c')) : rM ro (d + 3) 113 0 0 [.ref 53, .int x, .int y] (tab c) R := by
  obtain ⟨⟨⟨fr, ru, lu, h53⟩, h54, h55, h56, h57⟩, hsc, him⟩ := id hM
  have hm := hV.2.1
  have hW := hV.2.2.2.2.2.2.1.2
  rw [en_X10_weight]
  simp only [s_X10_weight_0, s_X10_weight_1, s_X10_weight_2, s_X10_weight_5, s_X10_weight_8, s_X10_weight_9, s_X10_weight_10, s_X10_weight_11, s_X10_weight_12, s_X10_weight_14, s_X10_weight_17, s_X10_weight_20, s_X10_weight_21, s_X10_weight_24, s_X10_weight_25, s_X10_weight_28, s_X10_weight_29, s_X10_weight_30, s_X10_weight_31, s_X10_weight_32, s_X10_weight_33, s_X10_weight_34, s_X10_weight_36, s_X10_weight_39, s_X10_weight_42, s_X10_weight_44, s_X10_weight_45, s_X10_weight_46, s_X10_weight_49, s_X10_weight_50, s_X10_weight_51, s_X10_weight_52, s_X10_weight_53, s_X10_weight_56, s_X10_weight_57, s_X10_weight_58, s_X10_weight_59, s_X10_weight_60, vm_o h53]
  refine sp_isNum2 h53 ?_
  simp only [Option.toList_some, Option.toList_none, List.cons_append, List.nil_append, Option.toList, s_X10_weight_0, s_X10_weight_1, s_X10_weight_2, s_X10_weight_5, s_X10_weight_8, s_X10_weight_9, s_X10_weight_10, s_X10_weight_11, s_X10_weight_12, s_X10_weight_14, s_X10_weight_17, s_X10_weight_20, s_X10_weight_21, s_X10_weight_24, s_X10_weight_25, s_X10_weight_28, s_X10_weight_29, s_X10_weight_30, s_X10_weight_31, s_X10_weight_32, s_X10_weight_33, s_X10_weight_34, s_X10_weight_36, s_X10_weight_39, s_X10_weight_42, s_X10_weight_44, s_X10_weight_45, s_X10_weight_46, s_X10_weight_49, s_X10_weight_50, s_X10_weight_51, s_X10_weight_52, s_X10_weight_53, s_X10_weight_56, s_X10_weight_57, s_X10_weight_58, s_X10_weight_59, s_X10_weight_60, b2_0]
  refine ⟨fun hx => ?_, fun hx => sp_in2 ?_⟩
  · have := hk c frm.rf (by rw [weiT, if_neg (fun q => hx q.1)]; exact hM)
    rw [weiA, if_neg hx] at this
    exact this
  · have hx := Decidable.not_not.mp hx
    have no : ¬ weiOK (n, m, v, w, fo, si, st) x y → R (some (.int (- nI 2))) (tab c) := by
      intro hy
      have := hk c frm.rf (by rw [weiT, if_neg (fun q => hy q.2)]; exact hM)
      rw [weiA, if_pos hx, if_neg hy] at this
      exact this
    simp only [Option.toList_some, Option.toList_none, List.cons_append, List.nil_append, Option.toList, s_X10_weight_0, s_X10_weight_1, s_X10_weight_2, s_X10_weight_5, s_X10_weight_8, s_X10_weight_9, s_X10_weight_10, s_X10_weight_11, s_X10_weight_12, s_X10_weight_14, s_X10_weight_17, s_X10_weight_20, s_X10_weight_21, s_X10_weight_24, s_X10_weight_25, s_X10_weight_28, s_X10_weight_29, s_X10_weight_30, s_X10_weight_31, s_X10_weight_32, s_X10_weight_33, s_X10_weight_34, s_X10_weight_36, s_X10_weight_39, s_X10_weight_42, s_X10_weight_44, s_X10_weight_45, s_X10_weight_46, s_X10_weight_49, s_X10_weight_50, s_X10_weight_51, s_X10_weight_52, s_X10_weight_53, s_X10_weight_56, s_X10_weight_57, s_X10_weight_58, s_X10_weight_59, s_X10_weight_60, b2_0, vm_o h53]
    refine ⟨fun hy => no (fun q => hy q.1), fun hy => sp_X10_allWeights h53 h54 ?_⟩
    have hyy := Decidable.not_not.mp hy
    obtain ⟨a, ha1, ha2, rfl⟩ := inR_nI hx (by decide) (by omega)
    obtain ⟨b, hb1, hb2, rfl⟩ := inR_nI hyy (by decide) (by decide)
    rw [sm6 hm.2 hV.2.2.2.2.1]
    have hq : smF w m 1 - w a + b < 100000 := by omega
    simp only [Option.toList_some, Option.toList_none, List.cons_append, List.nil_append, Option.toList, s_X10_weight_0, s_X10_weight_1, s_X10_weight_2, s_X10_weight_5, s_X10_weight_8, s_X10_weight_9, s_X10_weight_10, s_X10_weight_11, s_X10_weight_12, s_X10_weight_14, s_X10_weight_17, s_X10_weight_20, s_X10_weight_21, s_X10_weight_24, s_X10_weight_25, s_X10_weight_28, s_X10_weight_29, s_X10_weight_30, s_X10_weight_31, s_X10_weight_32, s_X10_weight_33, s_X10_weight_34, s_X10_weight_36, s_X10_weight_39, s_X10_weight_42, s_X10_weight_44, s_X10_weight_45, s_X10_weight_46, s_X10_weight_49, s_X10_weight_50, s_X10_weight_51, s_X10_weight_52, s_X10_weight_53, s_X10_weight_56, s_X10_weight_57, s_X10_weight_58, s_X10_weight_59, s_X10_weight_60, gm3 h53, ai_i h54 (show 54 < 70 by decide) (show a < 7 by omega) (by decide), all_wt ha1 ha2]
    refine sp_in2 ?_
    simp only [Option.toList_some, Option.toList_none, List.cons_append, List.nil_append, Option.toList, s_X10_weight_0, s_X10_weight_1, s_X10_weight_2, s_X10_weight_5, s_X10_weight_8, s_X10_weight_9, s_X10_weight_10, s_X10_weight_11, s_X10_weight_12, s_X10_weight_14, s_X10_weight_17, s_X10_weight_20, s_X10_weight_21, s_X10_weight_24, s_X10_weight_25, s_X10_weight_28, s_X10_weight_29, s_X10_weight_30, s_X10_weight_31, s_X10_weight_32, s_X10_weight_33, s_X10_weight_34, s_X10_weight_36, s_X10_weight_39, s_X10_weight_42, s_X10_weight_44, s_X10_weight_45, s_X10_weight_46, s_X10_weight_49, s_X10_weight_50, s_X10_weight_51, s_X10_weight_52, s_X10_weight_53, s_X10_weight_56, s_X10_weight_57, s_X10_weight_58, s_X10_weight_59, s_X10_weight_60, gm3 h53, ai_i h54 (show 54 < 70 by decide) (show a < 7 by omega) (by decide), b2_0, inR_iff hq (show 1 < 100000 by decide) (show 12 < 100000 by decide)]
    have hok : weiOK (n, m, v, w, fo, si, st) (nI a) (nI b) ↔ (1 ≤ smF w m 1 - w a + b ∧ smF w m 1 - w a + b ≤ 12) := by
      unfold weiOK
      rw [nI_c (show a < 100000 by omega), nI_c (show b < 100000 by omega)]
      exact ⟨fun q => q.2, fun q => ⟨hyy, q⟩⟩
    refine ⟨fun h1 => no (fun q => h1 (hok.mp q)), fun h1 => ⟨rfl, si_i h54 (by decide) (by omega) (by decide) fun c1 hf1 hi1 => ?_⟩⟩
    have hyes := hok.mpr (Decidable.not_not.mp h1)
    have := hk c1 (hf1.mono rfl) (by
      rw [weiT, if_pos ⟨hx, hyes⟩, nI_c (show a < 100000 by omega), nI_c (show b < 100000 by omega)]
      exact ⟨⟨⟨fr, ru, lu, (hf1 53 rfl).trans h53⟩, hi1.cg (fun j _ => (congrFun updN_nI j).symm), h55.fr hf1 rfl, h56.fr hf1 rfl, h57.fr hf1 rfl⟩, hsc.fr hf1 rfl, him.fr hf1 rfl⟩)
    rw [weiA, if_pos hx, if_pos hyes, nI_c (show a < 100000 by omega)] at this
    exact this
theorem ml_seen (hV : VS (n, m, v, w, fo, si, st)) (hM : MS c (n, m, v, w, fo, si, st) sg pd im) (hk : ∀ c', frm MM c c' → MS c' (senT (n, m, v, w, fo, si, st) x y z) sg pd im → R (some (.int (senA (n, m, v, w, fo, si, st) x y z))) (tab c')) : rM ro (d + 3) 156 0 0 [.ref 53, .int x, .int y, .int z] (tab c) R := by
  obtain ⟨⟨⟨fr, ru, lu, h53⟩, h54, h55, h56, h57⟩, hsc, him⟩ := id hM
  have hn := hV.1
  have hsi : si ≤ 6 := hV.2.2.2.2.2.2.2.2.1
  rw [en_X10_seen]
  have no : ¬ senK (n, m, v, w, fo, si, st) x y z → rU ro (d + 2) tb_X10_seen R 26 [.ref 53, .int x, .int y, .int z, .null] [.int (nI 0)] (tab c) := by
    intro hx
    simp only [s_X10_seen_0, s_X10_seen_1, s_X10_seen_2, s_X10_seen_5, s_X10_seen_6, s_X10_seen_7, s_X10_seen_10, s_X10_seen_13, s_X10_seen_14, s_X10_seen_15, s_X10_seen_18, s_X10_seen_21, s_X10_seen_22, s_X10_seen_25, s_X10_seen_26, s_X10_seen_28, s_X10_seen_30, s_X10_seen_33, s_X10_seen_34, s_X10_seen_35, s_X10_seen_36, s_X10_seen_37, s_X10_seen_38, s_X10_seen_41, s_X10_seen_44, s_X10_seen_46, s_X10_seen_47, s_X10_seen_48, s_X10_seen_51, s_X10_seen_53, s_X10_seen_56, s_X10_seen_58, s_X10_seen_59, s_X10_seen_60, s_X10_seen_63, s_X10_seen_64, s_X10_seen_65, s_X10_seen_68, s_X10_seen_69, s_X10_seen_70, s_X10_seen_71, s_X10_seen_72, s_X10_seen_75, s_X10_seen_76, s_X10_seen_77, s_X10_seen_80, s_X10_seen_81, s_X10_seen_82, s_X10_seen_83, s_X10_seen_84, s_X10_seen_85, s_X10_seen_86, s_X10_seen_89, s_X10_seen_90, s_X10_seen_91, s_X10_seen_94, s_X10_seen_95, s_X10_seen_96, s_X10_seen_97, s_X10_seen_98, s_X10_seen_99, s_X10_seen_100, s_X10_seen_101, s_X10_seen_104, s_X10_seen_105, s_X10_seen_106, s_X10_seen_109, s_X10_seen_110, s_X10_seen_113]
    refine ⟨rfl, fun _ => ?_, fun q => absurd nI_0 q⟩
    have := hk c frm.rf (by rw [senT, if_neg (fun q => hx q.1)]; exact hM)
    rw [senA, if_neg hx] at this
    exact this
  have yes : senK (n, m, v, w, fo, si, st) x y z → rU ro (d + 2) tb_X10_seen R 26 [.ref 53, .int x, .int y, .int z, .null] [.int (nI 1)] (tab c) := by
    intro hK
    simp only [s_X10_seen_0, s_X10_seen_1, s_X10_seen_2, s_X10_seen_5, s_X10_seen_6, s_X10_seen_7, s_X10_seen_10, s_X10_seen_13, s_X10_seen_14, s_X10_seen_15, s_X10_seen_18, s_X10_seen_21, s_X10_seen_22, s_X10_seen_25, s_X10_seen_26, s_X10_seen_28, s_X10_seen_30, s_X10_seen_33, s_X10_seen_34, s_X10_seen_35, s_X10_seen_36, s_X10_seen_37, s_X10_seen_38, s_X10_seen_41, s_X10_seen_44, s_X10_seen_46, s_X10_seen_47, s_X10_seen_48, s_X10_seen_51, s_X10_seen_53, s_X10_seen_56, s_X10_seen_58, s_X10_seen_59, s_X10_seen_60, s_X10_seen_63, s_X10_seen_64, s_X10_seen_65, s_X10_seen_68, s_X10_seen_69, s_X10_seen_70, s_X10_seen_71, s_X10_seen_72, s_X10_seen_75, s_X10_seen_76, s_X10_seen_77, s_X10_seen_80, s_X10_seen_81, s_X10_seen_82, s_X10_seen_83, s_X10_seen_84, s_X10_seen_85, s_X10_seen_86, s_X10_seen_89, s_X10_seen_90, s_X10_seen_91, s_X10_seen_94, s_X10_seen_95, s_X10_seen_96, s_X10_seen_97, s_X10_seen_98, s_X10_seen_99, s_X10_seen_100, s_X10_seen_101, s_X10_seen_104, s_X10_seen_105, s_X10_seen_106, s_X10_seen_109, s_X10_seen_110, s_X10_seen_113]
    refine ⟨rfl, fun q => absurd q (by decide), fun _ => sp_in2 ?_⟩
    simp only [Option.toList_some, Option.toList_none, List.cons_append, List.nil_append, Option.toList, s_X10_seen_0, s_X10_seen_1, s_X10_seen_2, s_X10_seen_5, s_X10_seen_6, s_X10_seen_7, s_X10_seen_10, s_X10_seen_13, s_X10_seen_14, s_X10_seen_15, s_X10_seen_18, s_X10_seen_21, s_X10_seen_22, s_X10_seen_25, s_X10_seen_26, s_X10_seen_28, s_X10_seen_30, s_X10_seen_33, s_X10_seen_34, s_X10_seen_35, s_X10_seen_36, s_X10_seen_37, s_X10_seen_38, s_X10_seen_41, s_X10_seen_44, s_X10_seen_46, s_X10_seen_47, s_X10_seen_48, s_X10_seen_51, s_X10_seen_53, s_X10_seen_56, s_X10_seen_58, s_X10_seen_59, s_X10_seen_60, s_X10_seen_63, s_X10_seen_64, s_X10_seen_65, s_X10_seen_68, s_X10_seen_69, s_X10_seen_70, s_X10_seen_71, s_X10_seen_72, s_X10_seen_75, s_X10_seen_76, s_X10_seen_77, s_X10_seen_80, s_X10_seen_81, s_X10_seen_82, s_X10_seen_83, s_X10_seen_84, s_X10_seen_85, s_X10_seen_86, s_X10_seen_89, s_X10_seen_90, s_X10_seen_91, s_X10_seen_94, s_X10_seen_95, s_X10_seen_96, s_X10_seen_97, s_X10_seen_98, s_X10_seen_99, s_X10_seen_100, s_X10_seen_101, s_X10_seen_104, s_X10_seen_105, s_X10_seen_106, s_X10_seen_109, s_X10_seen_110, s_X10_seen_113, b2_0, gm5 h53, gm6 h53, sI_eq (show si < 100000 by omega) (show 6 < 100000 by decide), nI_mul, nI_add]
    refine ⟨fun hx => ?_, fun hx => ⟨fun h6 => ?_, fun h6 => ?_⟩⟩
    · have := hk c frm.rf (by rw [senT, if_neg (fun q => hx q.2.1)]; exact hM)
      rw [senA, if_pos hK, if_neg hx] at this
      exact this
    · have hx := Decidable.not_not.mp hx
      have := hk c frm.rf (by rw [senT, if_neg (fun q => q.2.2 h6)]; exact hM)
      rw [senA, if_pos hK, if_pos hx, if_pos h6] at this
      exact this
    · have hx := Decidable.not_not.mp hx
      refine si_i h56 (by decide) (by omega) (by decide) fun c1 hf1 hi1 => ?_
      have e53 := (hf1 53 rfl).trans h53
      simp only [s_X10_seen_0, s_X10_seen_1, s_X10_seen_2, s_X10_seen_5, s_X10_seen_6, s_X10_seen_7, s_X10_seen_10, s_X10_seen_13, s_X10_seen_14, s_X10_seen_15, s_X10_seen_18, s_X10_seen_21, s_X10_seen_22, s_X10_seen_25, s_X10_seen_26, s_X10_seen_28, s_X10_seen_30, s_X10_seen_33, s_X10_seen_34, s_X10_seen_35, s_X10_seen_36, s_X10_seen_37, s_X10_seen_38, s_X10_seen_41, s_X10_seen_44, s_X10_seen_46, s_X10_seen_47, s_X10_seen_48, s_X10_seen_51, s_X10_seen_53, s_X10_seen_56, s_X10_seen_58, s_X10_seen_59, s_X10_seen_60, s_X10_seen_63, s_X10_seen_64, s_X10_seen_65, s_X10_seen_68, s_X10_seen_69, s_X10_seen_70, s_X10_seen_71, s_X10_seen_72, s_X10_seen_75, s_X10_seen_76, s_X10_seen_77, s_X10_seen_80, s_X10_seen_81, s_X10_seen_82, s_X10_seen_83, s_X10_seen_84, s_X10_seen_85, s_X10_seen_86, s_X10_seen_89, s_X10_seen_90, s_X10_seen_91, s_X10_seen_94, s_X10_seen_95, s_X10_seen_96, s_X10_seen_97, s_X10_seen_98, s_X10_seen_99, s_X10_seen_100, s_X10_seen_101, s_X10_seen_104, s_X10_seen_105, s_X10_seen_106, s_X10_seen_109, s_X10_seen_110, s_X10_seen_113, gm5 e53, gm6 e53, nI_mul, nI_add]
      refine si_i hi1 (by decide) (by omega) (by decide) fun c2 hf2 hi2 => ?_
      have e53 := (hf2 53 rfl).trans e53
      simp only [s_X10_seen_0, s_X10_seen_1, s_X10_seen_2, s_X10_seen_5, s_X10_seen_6, s_X10_seen_7, s_X10_seen_10, s_X10_seen_13, s_X10_seen_14, s_X10_seen_15, s_X10_seen_18, s_X10_seen_21, s_X10_seen_22, s_X10_seen_25, s_X10_seen_26, s_X10_seen_28, s_X10_seen_30, s_X10_seen_33, s_X10_seen_34, s_X10_seen_35, s_X10_seen_36, s_X10_seen_37, s_X10_seen_38, s_X10_seen_41, s_X10_seen_44, s_X10_seen_46, s_X10_seen_47, s_X10_seen_48, s_X10_seen_51, s_X10_seen_53, s_X10_seen_56, s_X10_seen_58, s_X10_seen_59, s_X10_seen_60, s_X10_seen_63, s_X10_seen_64, s_X10_seen_65, s_X10_seen_68, s_X10_seen_69, s_X10_seen_70, s_X10_seen_71, s_X10_seen_72, s_X10_seen_75, s_X10_seen_76, s_X10_seen_77, s_X10_seen_80, s_X10_seen_81, s_X10_seen_82, s_X10_seen_83, s_X10_seen_84, s_X10_seen_85, s_X10_seen_86, s_X10_seen_89, s_X10_seen_90, s_X10_seen_91, s_X10_seen_94, s_X10_seen_95, s_X10_seen_96, s_X10_seen_97, s_X10_seen_98, s_X10_seen_99, s_X10_seen_100, s_X10_seen_101, s_X10_seen_104, s_X10_seen_105, s_X10_seen_106, s_X10_seen_109, s_X10_seen_110, s_X10_seen_113, gm5 e53, gm6 e53, nI_mul, nI_add]
      refine si_i hi2 (by decide) (by omega) (by decide) fun c3 hf3 hi3 => ?_
      have e53 := (hf3 53 rfl).trans e53
      simp only [s_X10_seen_0, s_X10_seen_1, s_X10_seen_2, s_X10_seen_5, s_X10_seen_6, s_X10_seen_7, s_X10_seen_10, s_X10_seen_13, s_X10_seen_14, s_X10_seen_15, s_X10_seen_18, s_X10_seen_21, s_X10_seen_22, s_X10_seen_25, s_X10_seen_26, s_X10_seen_28, s_X10_seen_30, s_X10_seen_33, s_X10_seen_34, s_X10_seen_35, s_X10_seen_36, s_X10_seen_37, s_X10_seen_38, s_X10_seen_41, s_X10_seen_44, s_X10_seen_46, s_X10_seen_47, s_X10_seen_48, s_X10_seen_51, s_X10_seen_53, s_X10_seen_56, s_X10_seen_58, s_X10_seen_59, s_X10_seen_60, s_X10_seen_63, s_X10_seen_64, s_X10_seen_65, s_X10_seen_68, s_X10_seen_69, s_X10_seen_70, s_X10_seen_71, s_X10_seen_72, s_X10_seen_75, s_X10_seen_76, s_X10_seen_77, s_X10_seen_80, s_X10_seen_81, s_X10_seen_82, s_X10_seen_83, s_X10_seen_84, s_X10_seen_85, s_X10_seen_86, s_X10_seen_89, s_X10_seen_90, s_X10_seen_91, s_X10_seen_94, s_X10_seen_95, s_X10_seen_96, s_X10_seen_97, s_X10_seen_98, s_X10_seen_99, s_X10_seen_100, s_X10_seen_101, s_X10_seen_104, s_X10_seen_105, s_X10_seen_106, s_X10_seen_109, s_X10_seen_110, s_X10_seen_113, gm5 e53, pm5 e53, nI_add]
      rw [gm5 fup_self, s_X10_seen_113]
      have hf4 : frm [53] c3 (fup c3 53 (mobj (nI n) (nI m) (nI v) (nI (si + 1)) (nI sg) fr ru lu)) := frm.rf.fup rfl
      have hf : frm [53, 56] c (fup c3 53 (mobj (nI n) (nI m) (nI v) (nI (si + 1)) (nI sg) fr ru lu)) := (hf1.mono rfl).trans ((hf2.mono rfl).trans ((hf3.mono rfl).trans (hf4.mono rfl)))
      have := hk _ (hf.mono rfl) (by
        rw [senT, if_pos ⟨hK, hx, h6⟩]
        exact ⟨⟨⟨fr, ru, lu, fup_self⟩, h54.fr hf rfl, h55.fr hf rfl, hi3.fr hf4 rfl, h57.fr hf rfl⟩, hsc.fr hf rfl, him.fr hf rfl⟩)
      rw [senA, if_pos hK, if_pos hx, if_neg h6] at this
      exact this
  simp only [s_X10_seen_0, s_X10_seen_1, s_X10_seen_2, s_X10_seen_5, s_X10_seen_6, s_X10_seen_7, s_X10_seen_10, s_X10_seen_13, s_X10_seen_14, s_X10_seen_15, s_X10_seen_18, s_X10_seen_21, s_X10_seen_22, s_X10_seen_25, s_X10_seen_28, s_X10_seen_30, s_X10_seen_33, s_X10_seen_34, s_X10_seen_35, s_X10_seen_36, s_X10_seen_37, s_X10_seen_38, s_X10_seen_41, s_X10_seen_44, s_X10_seen_46, s_X10_seen_47, s_X10_seen_48, s_X10_seen_51, s_X10_seen_53, s_X10_seen_56, s_X10_seen_58, s_X10_seen_59, s_X10_seen_60, s_X10_seen_63, s_X10_seen_64, s_X10_seen_65, s_X10_seen_68, s_X10_seen_69, s_X10_seen_70, s_X10_seen_71, s_X10_seen_72, s_X10_seen_75, s_X10_seen_76, s_X10_seen_77, s_X10_seen_80, s_X10_seen_81, s_X10_seen_82, s_X10_seen_83, s_X10_seen_84, s_X10_seen_85, s_X10_seen_86, s_X10_seen_89, s_X10_seen_90, s_X10_seen_91, s_X10_seen_94, s_X10_seen_95, s_X10_seen_96, s_X10_seen_97, s_X10_seen_98, s_X10_seen_99, s_X10_seen_100, s_X10_seen_101, s_X10_seen_104, s_X10_seen_105, s_X10_seen_106, s_X10_seen_109, s_X10_seen_110, s_X10_seen_113, vm_o h53]
  refine ⟨fun hx => yes (Or.inl hx), fun hx => sp_isMan2 h53 (by omega) ?_⟩
  simp only [Option.toList_some, Option.toList_none, List.cons_append, List.nil_append, Option.toList, s_X10_seen_0, s_X10_seen_1, s_X10_seen_2, s_X10_seen_5, s_X10_seen_6, s_X10_seen_7, s_X10_seen_10, s_X10_seen_13, s_X10_seen_14, s_X10_seen_15, s_X10_seen_18, s_X10_seen_21, s_X10_seen_22, s_X10_seen_25, s_X10_seen_28, s_X10_seen_30, s_X10_seen_33, s_X10_seen_34, s_X10_seen_35, s_X10_seen_36, s_X10_seen_37, s_X10_seen_38, s_X10_seen_41, s_X10_seen_44, s_X10_seen_46, s_X10_seen_47, s_X10_seen_48, s_X10_seen_51, s_X10_seen_53, s_X10_seen_56, s_X10_seen_58, s_X10_seen_59, s_X10_seen_60, s_X10_seen_63, s_X10_seen_64, s_X10_seen_65, s_X10_seen_68, s_X10_seen_69, s_X10_seen_70, s_X10_seen_71, s_X10_seen_72, s_X10_seen_75, s_X10_seen_76, s_X10_seen_77, s_X10_seen_80, s_X10_seen_81, s_X10_seen_82, s_X10_seen_83, s_X10_seen_84, s_X10_seen_85, s_X10_seen_86, s_X10_seen_89, s_X10_seen_90, s_X10_seen_91, s_X10_seen_94, s_X10_seen_95, s_X10_seen_96, s_X10_seen_97, s_X10_seen_98, s_X10_seen_99, s_X10_seen_100, s_X10_seen_101, s_X10_seen_104, s_X10_seen_105, s_X10_seen_106, s_X10_seen_109, s_X10_seen_110, s_X10_seen_113, vm_o h53, b2_0]
  refine ⟨fun hy => no (fun q => q.elim hx (fun r => hy r.1)), fun hy => sp_isNum2 h53 ?_⟩
  simp only [Option.toList_some, Option.toList_none, List.cons_append, List.nil_append, Option.toList, s_X10_seen_0, s_X10_seen_1, s_X10_seen_2, s_X10_seen_5, s_X10_seen_6, s_X10_seen_7, s_X10_seen_10, s_X10_seen_13, s_X10_seen_14, s_X10_seen_15, s_X10_seen_18, s_X10_seen_21, s_X10_seen_22, s_X10_seen_25, s_X10_seen_28, s_X10_seen_30, s_X10_seen_33, s_X10_seen_34, s_X10_seen_35, s_X10_seen_36, s_X10_seen_37, s_X10_seen_38, s_X10_seen_41, s_X10_seen_44, s_X10_seen_46, s_X10_seen_47, s_X10_seen_48, s_X10_seen_51, s_X10_seen_53, s_X10_seen_56, s_X10_seen_58, s_X10_seen_59, s_X10_seen_60, s_X10_seen_63, s_X10_seen_64, s_X10_seen_65, s_X10_seen_68, s_X10_seen_69, s_X10_seen_70, s_X10_seen_71, s_X10_seen_72, s_X10_seen_75, s_X10_seen_76, s_X10_seen_77, s_X10_seen_80, s_X10_seen_81, s_X10_seen_82, s_X10_seen_83, s_X10_seen_84, s_X10_seen_85, s_X10_seen_86, s_X10_seen_89, s_X10_seen_90, s_X10_seen_91, s_X10_seen_94, s_X10_seen_95, s_X10_seen_96, s_X10_seen_97, s_X10_seen_98, s_X10_seen_99, s_X10_seen_100, s_X10_seen_101, s_X10_seen_104, s_X10_seen_105, s_X10_seen_106, s_X10_seen_109, s_X10_seen_110, s_X10_seen_113, b2_0]
  exact ⟨fun hz => no (fun q => q.elim hx (fun r => hz r.2)), fun hz => yes (Or.inr ⟨Decidable.not_not.mp hy, Decidable.not_not.mp hz⟩)⟩
theorem ml_faultOf (hV : VS (n, m, v, w, fo, si, st)) (hs : sg ≤ 48) (hM : MS c (n, m, v, w, fo, si, st) sg pd im) (hk : R (some (.int (fltA (n, m, v, w, fo, si, st) sg pd))) (tab c)) : rM ro (d + 2) 108 0 0 [.ref 53] (tab c) R := by
  obtain ⟨⟨⟨fr, ru, lu, h53⟩, h54, h55, h56, h57⟩, hsc, him⟩ := id hM
  have hn := hV.1
  rw [en_X10_faultOf]
  simp only [s_X10_faultOf_0, s_X10_faultOf_1, s_X10_faultOf_3, s_X10_faultOf_4, s_X10_faultOf_7, s_X10_faultOf_10, s_X10_faultOf_11, s_X10_faultOf_12, s_X10_faultOf_15, s_X10_faultOf_18, s_X10_faultOf_19, s_X10_faultOf_22, s_X10_faultOf_23, s_X10_faultOf_24, s_X10_faultOf_26, s_X10_faultOf_29, s_X10_faultOf_30, s_X10_faultOf_33, s_X10_faultOf_34, s_X10_faultOf_35, s_X10_faultOf_37, s_X10_faultOf_39, s_X10_faultOf_40, s_X10_faultOf_43, s_X10_faultOf_44, s_X10_faultOf_47, s_X10_faultOf_50, s_X10_faultOf_51, s_X10_faultOf_52, s_X10_faultOf_55, s_X10_faultOf_58, s_X10_faultOf_59, s_X10_faultOf_62, s_X10_faultOf_63, s_X10_faultOf_66, s_X10_faultOf_69, s_X10_faultOf_70, s_X10_faultOf_73, s_X10_faultOf_76, s_X10_faultOf_78]
  refine ⟨rfl, ?_⟩
  have lp : ∀ rem i, i + rem = sg → i ≤ n → fltF n m sg pd rem i = fltA (n, m, v, w, fo, si, st) sg pd → rU ro (d + 1) tb_X10_faultOf R 2 [.ref 53, .int (nI i)] [] (tab c) := by
    intro rem
    induction rem with
    | zero =>
      intro i hi hin he
      have : i = sg := by omega
      subst this
      rw [fltF] at he
      rw [s_X10_faultOf_2]
      simp only [s_X10_faultOf_0, s_X10_faultOf_1, s_X10_faultOf_3, s_X10_faultOf_4, s_X10_faultOf_7, s_X10_faultOf_10, s_X10_faultOf_11, s_X10_faultOf_12, s_X10_faultOf_15, s_X10_faultOf_18, s_X10_faultOf_19, s_X10_faultOf_22, s_X10_faultOf_23, s_X10_faultOf_24, s_X10_faultOf_26, s_X10_faultOf_29, s_X10_faultOf_30, s_X10_faultOf_33, s_X10_faultOf_34, s_X10_faultOf_35, s_X10_faultOf_37, s_X10_faultOf_39, s_X10_faultOf_40, s_X10_faultOf_43, s_X10_faultOf_44, s_X10_faultOf_47, s_X10_faultOf_50, s_X10_faultOf_51, s_X10_faultOf_52, s_X10_faultOf_55, s_X10_faultOf_58, s_X10_faultOf_59, s_X10_faultOf_62, s_X10_faultOf_63, s_X10_faultOf_66, s_X10_faultOf_69, s_X10_faultOf_70, s_X10_faultOf_73, s_X10_faultOf_76, s_X10_faultOf_78, gm7 h53, gm0 h53, sI_le (show n < 100000 by omega) (show i < 100000 by omega)]
      refine ⟨fun _ => ⟨fun hc => ?_, fun hc => ?_⟩, fun hc => absurd ((sI_le (by omega) (by omega)).mpr (Nat.le_refl _)) hc⟩
      · rw [if_neg (by omega)] at he; rw [← he] at hk; exact hk
      · rw [if_pos (by omega)] at he; rw [← he] at hk; exact hk
    | succ rem ih =>
      intro i hi hin he
      rw [fltF] at he
      rw [s_X10_faultOf_2]
      simp only [s_X10_faultOf_0, s_X10_faultOf_1, s_X10_faultOf_3, s_X10_faultOf_4, s_X10_faultOf_7, s_X10_faultOf_10, s_X10_faultOf_11, s_X10_faultOf_12, s_X10_faultOf_15, s_X10_faultOf_18, s_X10_faultOf_19, s_X10_faultOf_22, s_X10_faultOf_23, s_X10_faultOf_24, s_X10_faultOf_26, s_X10_faultOf_29, s_X10_faultOf_30, s_X10_faultOf_33, s_X10_faultOf_34, s_X10_faultOf_35, s_X10_faultOf_37, s_X10_faultOf_39, s_X10_faultOf_40, s_X10_faultOf_43, s_X10_faultOf_44, s_X10_faultOf_47, s_X10_faultOf_50, s_X10_faultOf_51, s_X10_faultOf_52, s_X10_faultOf_55, s_X10_faultOf_59, s_X10_faultOf_62, s_X10_faultOf_63, s_X10_faultOf_66, s_X10_faultOf_69, s_X10_faultOf_70, s_X10_faultOf_73, s_X10_faultOf_76, s_X10_faultOf_78, gm7 h53, gm0 h53, gm8 h53, gm1 h53, sI_eq (show i < 100000 by omega) (show n < 100000 by omega), sI_le (show sg < 100000 by omega) (show i < 100000 by omega), ai_i h57 (show 57 < 70 by decide) (show i < 48 by omega) (by decide), nI_add]
      refine ⟨fun hc => absurd hc (by omega), fun _ => ⟨fun hc => ?_, fun hc => ⟨fun hq => ⟨rfl, ih (i + 1) (by omega) (by omega) ?_⟩, fun hq => sp_in2 ?_⟩⟩⟩
      · rw [if_pos (Or.inl (by omega))] at he; rw [← he] at hk; exact hk
      · rw [if_neg (fun q => q.elim (fun r => by omega) (fun r => r (Or.inl hq)))] at he; exact he
      · simp only [Option.toList_some, Option.toList_none, List.cons_append, List.nil_append, Option.toList, s_X10_faultOf_0, s_X10_faultOf_1, s_X10_faultOf_3, s_X10_faultOf_4, s_X10_faultOf_7, s_X10_faultOf_10, s_X10_faultOf_11, s_X10_faultOf_12, s_X10_faultOf_15, s_X10_faultOf_18, s_X10_faultOf_19, s_X10_faultOf_22, s_X10_faultOf_23, s_X10_faultOf_24, s_X10_faultOf_26, s_X10_faultOf_29, s_X10_faultOf_30, s_X10_faultOf_33, s_X10_faultOf_34, s_X10_faultOf_35, s_X10_faultOf_37, s_X10_faultOf_39, s_X10_faultOf_40, s_X10_faultOf_43, s_X10_faultOf_44, s_X10_faultOf_47, s_X10_faultOf_50, s_X10_faultOf_51, s_X10_faultOf_52, s_X10_faultOf_55, s_X10_faultOf_59, s_X10_faultOf_62, s_X10_faultOf_63, s_X10_faultOf_66, s_X10_faultOf_69, s_X10_faultOf_70, s_X10_faultOf_73, s_X10_faultOf_76, s_X10_faultOf_78, b2_0, nI_add]
        refine ⟨fun hz => ?_, fun hz => ⟨rfl, ih (i + 1) (by omega) (by omega) ?_⟩⟩
        · rw [if_pos (Or.inr (fun r => r.elim hq hz))] at he; rw [← he] at hk; exact hk
        · rw [if_neg (fun q => q.elim (fun r => by omega) (fun r => r (Or.inr (Decidable.not_not.mp hz))))] at he; exact he
  exact lp sg 0 (by omega) (by omega) rfl
theorem ml_fault (hV : VS (n, m, v, w, fo, si, st)) (hs : sg ≤ 48) (hM : MS c (n, m, v, w, fo, si, st) sg pd im) (hk : R (some (.int (fltA (n, m, v, w, fo, si, st) sg pd))) (tab c)) : rM ro (d + 3) 109 0 0 [.ref 53] (tab c) R := by
  obtain ⟨⟨⟨fr, ru, lu, h53⟩, h54, h55, h56, h57⟩, hsc, him⟩ := id hM
  rw [en_X10_fault]
  simp only [s_X10_fault_0, s_X10_fault_1, s_X10_fault_4, vm_o h53]
  refine ml_faultOf hV hs hM ?_
  simp only [Option.toList_some, Option.toList_none, List.cons_append, List.nil_append, Option.toList, s_X10_fault_0, s_X10_fault_1, s_X10_fault_4]
  exact hk
end MX
