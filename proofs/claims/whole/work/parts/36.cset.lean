/-! ===== the class: calls that set and tell ===== -/
def innT (T : TS) (x y : Int32) : TS := if inR 2 6 x ∧ inR 2 6 y then (x.toNatClampNeg, y.toNatClampNeg, T.2.2.1, (fun j => if 1 ≤ j ∧ j ≤ y.toNatClampNeg then 1 else 0), (fun _ => 0), 0, T.2.2.2.2.2.2) else T
def innA (T : TS) (x y : Int32) : Int32 := if inR 2 6 x ∧ inR 2 6 y then nI (T.1 * 10 + T.2.1) else - nI 2
def rulT (T : TS) (x : Int32) : TS := if inR 0 3 x then (T.1, T.2.1, x.toNatClampNeg, T.2.2.2) else T
def rulA (T : TS) (x : Int32) : Int32 := if inR 0 3 x then nI T.2.2.1 else - nI 2
def sayA (sg : Nat) (x : Int32) : Int32 := if inR 33 126 x then (if sg = 48 then - nI 4 else nI (sg + 1)) else - nI 2
def sayS (sg : Nat) (x : Int32) : Nat := if inR 33 126 x then (if sg = 48 then sg else sg + 1) else sg
def sayP (sg : Nat) (pd : Nat → Int32) (x : Int32) : Nat → Int32 := if inR 33 126 x then (if sg = 48 then pd else upd pd sg x) else pd
def fooT (T : TS) (x y : Int32) : TS := if inR 0 (T.1 - 1) x ∧ (y = 0 ∨ inR 1 T.2.1 y) then (T.1, T.2.1, T.2.2.1, T.2.2.2.1, updN T.2.2.2.2.1 x.toNatClampNeg y.toNatClampNeg, T.2.2.2.2.2) else T
def fooA (T : TS) (x y : Int32) : Int32 := if inR 0 (T.1 - 1) x ∧ (y = 0 ∨ inR 1 T.2.1 y) then nI (T.2.2.2.2.1 x.toNatClampNeg) else - nI 1
theorem frm_cm {M : List Nat} {c c' : Nat → rE} (h : frm M c c') (hM : M.all (fun j => CM.contains j) = true) : frm CM c c' := h.mono hM
section CX
variable {ro : rQ} {LL : Nat} {xs : Nat → Int32} {d : Nat} {R : rR} {c : Nat → rE} {h : rH} {n m v si sg k t : Nat} {w fo : Nat → Nat} {st pd : Nat → Int32} {im : Nat → Option TS} {x y z : Int32}
theorem sp_X6_open {n' m' : Nat} (hm' : m' ≤ 6) (hw0 : w 0 = 0) (hT : TBL c 1 (n, m, v, w, fo, si, st)) (hk : ∀ c', frm [1, 2, 3, 4, 5, 6] c c' → TBL c' 1 (n', m', v, (fun j => if 1 ≤ j ∧ j ≤ m' then 1 else 0), (fun _ => 0), 0, st) → R none (tab c')) : rM ro (d + 1) 31 0 0 [.ref 1, .int (nI n'), .int (nI m')] (tab c) R := by
  obtain ⟨h0, h1, h2, h3, h4, h5⟩ := hT
  rw [en_X6_open]
  rw [s_X6_open_0, s_X6_open_1, s_X6_open_2, pt0 h0 (by decide), s_X6_open_5, s_X6_open_6, s_X6_open_7, pt1 fup_self (by decide), s_X6_open_10, s_X6_open_11, s_X6_open_12, pt8 fup_self (by decide), s_X6_open_15, s_X6_open_16]
  refine ⟨rfl, ?_⟩
  generalize hc1 : fup (fup (fup c 1 _) 1 _) 1 _ = c1
  have e1 : c1 1 = tobj 1 (nI n') (nI m') (nI v) (nI 0) := by rw [← hc1]; exact fup_self
  have hf1 : frm [1, 2, 3, 4, 5, 6] c c1 := by rw [← hc1]; exact ((frm.rf.fup rfl).fup rfl).fup rfl
  have hf1' : frm [1] c c1 := by rw [← hc1]; exact ((frm.rf.fup rfl).fup rfl).fup rfl
  have lp2 : ∀ rem j c2 val, j + rem = 6 → frm [1, 2, 3, 4, 5, 6] c c2 → c2 1 = tobj 1 (nI n') (nI m') (nI v) (nI 0) → isI c2 2 7 (fun j => nI (if 1 ≤ j ∧ j ≤ m' then 1 else 0)) → isI c2 3 6 val → isI c2 4 6 (fun i => st (3 * i)) → isI c2 5 6 (fun i => st (3 * i + 1)) → isI c2 6 6 (fun i => st (3 * i + 2)) → (∀ i, i < j → val i = nI 0) → rU ro d tb_X6_open R 47 [.ref 1, .int (nI n'), .int (nI m'), .int (nI j)] [] (tab c2) := by
    intro rem
    induction rem with
    | zero =>
      intro j c2 val hj hf e1 g2 g3 g4 g5 g6 hv
      have : j = 6 := by omega
      subst this
      rw [s_X6_open_47]
      simp only [s_X6_open_0, s_X6_open_1, s_X6_open_2, s_X6_open_5, s_X6_open_6, s_X6_open_7, s_X6_open_10, s_X6_open_11, s_X6_open_12, s_X6_open_15, s_X6_open_16, s_X6_open_18, s_X6_open_20, s_X6_open_23, s_X6_open_24, s_X6_open_27, s_X6_open_28, s_X6_open_29, s_X6_open_30, s_X6_open_33, s_X6_open_34, s_X6_open_37, s_X6_open_38, s_X6_open_39, s_X6_open_42, s_X6_open_45, s_X6_open_46, s_X6_open_48, s_X6_open_50, s_X6_open_53, s_X6_open_54, s_X6_open_57, s_X6_open_58, s_X6_open_59, s_X6_open_60, s_X6_open_63, s_X6_open_66]
      exact ⟨fun _ => hk c2 hf ⟨e1, g2, g3.cg hv, g4, g5, g6⟩, fun hc => absurd ((sI_le (by decide) (by decide)).mpr (Nat.le_refl _)) hc⟩
    | succ rem ih =>
      intro j c2 val hj hf e1 g2 g3 g4 g5 g6 hv
      rw [s_X6_open_47]
      simp only [s_X6_open_0, s_X6_open_1, s_X6_open_2, s_X6_open_5, s_X6_open_6, s_X6_open_7, s_X6_open_10, s_X6_open_11, s_X6_open_12, s_X6_open_15, s_X6_open_16, s_X6_open_18, s_X6_open_20, s_X6_open_23, s_X6_open_24, s_X6_open_27, s_X6_open_28, s_X6_open_29, s_X6_open_30, s_X6_open_33, s_X6_open_34, s_X6_open_37, s_X6_open_38, s_X6_open_39, s_X6_open_42, s_X6_open_45, s_X6_open_46, s_X6_open_48, s_X6_open_50, s_X6_open_53, s_X6_open_54, s_X6_open_57, s_X6_open_58, s_X6_open_59, s_X6_open_60, s_X6_open_63, s_X6_open_66, gt4 e1 (show 1 < 70 by decide), nI_add, sI_le (show 6 < 100000 by decide) (show j < 100000 by omega)]
      refine ⟨fun hc => absurd hc (by omega), fun _ => si_i g3 (by decide) (by omega) (by decide) fun c3 hf3 hi3 => ?_⟩
      exact ⟨rfl, ih (j + 1) c3 _ (by omega) (hf.trans (hf3.mono rfl)) ((hf3 1 rfl).trans e1) (g2.fr hf3 rfl) hi3 (g4.fr hf3 rfl) (g5.fr hf3 rfl) (g6.fr hf3 rfl) (fillI hv rfl)⟩
  have lp1 : ∀ rem j c2 val, j + rem = 7 → 1 ≤ j → frm [1, 2, 3, 4, 5, 6] c c2 → c2 1 = tobj 1 (nI n') (nI m') (nI v) (nI 0) → isI c2 2 7 val → tyI c2 3 6 → isI c2 4 6 (fun i => st (3 * i)) → isI c2 5 6 (fun i => st (3 * i + 1)) → isI c2 6 6 (fun i => st (3 * i + 2)) → (∀ i, i < j → val i = nI (if 1 ≤ i ∧ i ≤ m' then 1 else 0)) → rU ro d tb_X6_open R 17 [.ref 1, .int (nI n'), .int (nI m'), .int (nI j)] [] (tab c2) := by
    intro rem
    induction rem with
    | zero =>
      intro j c2 val hj hj1 hf e1 g2 g3 g4 g5 g6 hv
      have : j = 7 := by omega
      subst this
      rw [s_X6_open_17]
      simp only [s_X6_open_0, s_X6_open_1, s_X6_open_2, s_X6_open_5, s_X6_open_6, s_X6_open_7, s_X6_open_10, s_X6_open_11, s_X6_open_12, s_X6_open_15, s_X6_open_16, s_X6_open_18, s_X6_open_20, s_X6_open_23, s_X6_open_24, s_X6_open_27, s_X6_open_28, s_X6_open_29, s_X6_open_30, s_X6_open_33, s_X6_open_34, s_X6_open_37, s_X6_open_38, s_X6_open_39, s_X6_open_42, s_X6_open_45, s_X6_open_46, s_X6_open_48, s_X6_open_50, s_X6_open_53, s_X6_open_54, s_X6_open_57, s_X6_open_58, s_X6_open_59, s_X6_open_60, s_X6_open_63, s_X6_open_66]
      obtain ⟨f3, hf3⟩ := g3
      exact ⟨fun _ => ⟨rfl, lp2 6 0 c2 f3 (by omega) hf e1 (g2.cg hv) ⟨f3, hf3, fun _ _ => rfl⟩ g4 g5 g6 (fun i hi => absurd hi (by omega))⟩, fun hc => absurd ((sI_lt (by decide) (by decide)).mpr (by decide)) hc⟩
    | succ rem ih =>
      intro j c2 val hj hj1 hf e1 g2 g3 g4 g5 g6 hv
      rw [s_X6_open_17]
      simp only [s_X6_open_0, s_X6_open_1, s_X6_open_2, s_X6_open_5, s_X6_open_6, s_X6_open_7, s_X6_open_10, s_X6_open_11, s_X6_open_12, s_X6_open_15, s_X6_open_16, s_X6_open_18, s_X6_open_20, s_X6_open_23, s_X6_open_24, s_X6_open_27, s_X6_open_28, s_X6_open_29, s_X6_open_30, s_X6_open_33, s_X6_open_34, s_X6_open_37, s_X6_open_38, s_X6_open_39, s_X6_open_42, s_X6_open_45, s_X6_open_46, s_X6_open_48, s_X6_open_50, s_X6_open_53, s_X6_open_54, s_X6_open_57, s_X6_open_58, s_X6_open_59, s_X6_open_60, s_X6_open_63, s_X6_open_66, gt3 e1 (show 1 < 70 by decide), nI_add, sI_lt (show 6 < 100000 by decide) (show j < 100000 by omega), sI_lt (show m' < 100000 by omega) (show j < 100000 by omega)]
      refine ⟨fun hc => absurd hc (by omega), fun _ => ⟨fun hc => si_i g2 (by decide) (by omega) (by decide) fun c3 hf3 hi3 => ?_, fun hc => si_i g2 (by decide) (by omega) (by decide) fun c3 hf3 hi3 => ?_⟩⟩
      · exact ⟨rfl, ih (j + 1) c3 _ (by omega) (by omega) (hf.trans (hf3.mono rfl)) ((hf3 1 rfl).trans e1) hi3 (g3.fr hf3 rfl) (g4.fr hf3 rfl) (g5.fr hf3 rfl) (g6.fr hf3 rfl) (fillI hv (by rw [if_neg (by omega)]))⟩
      · exact ⟨rfl, ih (j + 1) c3 _ (by omega) (by omega) (hf.trans (hf3.mono rfl)) ((hf3 1 rfl).trans e1) hi3 (g3.fr hf3 rfl) (g4.fr hf3 rfl) (g5.fr hf3 rfl) (g6.fr hf3 rfl) (fillI hv (by rw [if_pos (by omega)]))⟩
  refine lp1 6 1 c1 _ (by omega) (by omega) hf1 e1 (h1.fr hf1' rfl) (h2.ty.fr hf1' rfl) (h3.fr hf1' rfl) (h4.fr hf1' rfl) (h5.fr hf1' rfl) (fun i hi => ?_)
  have : i = 0 := by omega
  subst this
  rw [hw0]
  rfl
theorem cl_inn (hV : VS (n, m, v, w, fo, si, st)) (hC : CS c (n, m, v, w, fo, si, st) sg pd im) (hk : ∀ c', frm CM c c' → CS c' (innT (n, m, v, w, fo, si, st) x y) sg pd im → R (some (.int (innA (n, m, v, w, fo, si, st) x y))) (tab c')) : rM ro (d + 2) 45 0 0 [.ref 0, .int x, .int y] (tab c) R := by
  have h0 := hC.1.1
  have ht := hC.2.1
  have htt := ht.1
  rw [en_X9_inn]
  simp only [s_X9_inn_0, s_X9_inn_1, s_X9_inn_4, s_X9_inn_7, s_X9_inn_8, s_X9_inn_11, s_X9_inn_14, s_X9_inn_16, s_X9_inn_17, s_X9_inn_18, s_X9_inn_21, s_X9_inn_24, s_X9_inn_26, s_X9_inn_27, s_X9_inn_28, s_X9_inn_31, s_X9_inn_34, s_X9_inn_35, s_X9_inn_36, s_X9_inn_37, s_X9_inn_40, s_X9_inn_41, s_X9_inn_42, s_X9_inn_45, s_X9_inn_46]
  refine sp_X9_isSize ?_
  simp only [Option.toList_some, Option.toList_none, List.cons_append, List.nil_append, Option.toList, s_X9_inn_0, s_X9_inn_1, s_X9_inn_4, s_X9_inn_7, s_X9_inn_8, s_X9_inn_11, s_X9_inn_14, s_X9_inn_16, s_X9_inn_17, s_X9_inn_18, s_X9_inn_21, s_X9_inn_24, s_X9_inn_26, s_X9_inn_27, s_X9_inn_28, s_X9_inn_31, s_X9_inn_34, s_X9_inn_35, s_X9_inn_36, s_X9_inn_37, s_X9_inn_40, s_X9_inn_41, s_X9_inn_42, s_X9_inn_45, s_X9_inn_46, b2_0]
  refine ⟨fun hx => ?_, fun hx => sp_X9_isSize ?_⟩
  · have := hk c frm.rf (by unfold innT; rw [if_neg (fun q => hx q.1)]; exact hC)
    rw [innA, if_neg (fun q => hx q.1)] at this
    exact this
  · have hx := Decidable.not_not.mp hx
    simp only [Option.toList_some, Option.toList_none, List.cons_append, List.nil_append, Option.toList, s_X9_inn_0, s_X9_inn_1, s_X9_inn_4, s_X9_inn_7, s_X9_inn_8, s_X9_inn_11, s_X9_inn_14, s_X9_inn_16, s_X9_inn_17, s_X9_inn_18, s_X9_inn_21, s_X9_inn_24, s_X9_inn_26, s_X9_inn_27, s_X9_inn_28, s_X9_inn_31, s_X9_inn_34, s_X9_inn_35, s_X9_inn_36, s_X9_inn_37, s_X9_inn_40, s_X9_inn_41, s_X9_inn_42, s_X9_inn_45, s_X9_inn_46, b2_0]
    refine ⟨fun hy => ?_, fun hy => ?_⟩
    · have := hk c frm.rf (by unfold innT; rw [if_neg (fun q => hy q.2)]; exact hC)
      rw [innA, if_neg (fun q => hy q.2)] at this
      exact this
    · have hy := Decidable.not_not.mp hy
      simp only [gl0 h0, s_X9_inn_0, s_X9_inn_1, s_X9_inn_4, s_X9_inn_7, s_X9_inn_8, s_X9_inn_11, s_X9_inn_14, s_X9_inn_16, s_X9_inn_17, s_X9_inn_18, s_X9_inn_21, s_X9_inn_24, s_X9_inn_26, s_X9_inn_27, s_X9_inn_28, s_X9_inn_31, s_X9_inn_34, s_X9_inn_35, s_X9_inn_36, s_X9_inn_37, s_X9_inn_40, s_X9_inn_41, s_X9_inn_42, s_X9_inn_45, s_X9_inn_46, gt0 htt (show 1 < 70 by decide), gt1 htt (show 1 < 70 by decide), vt_o htt (show 1 < 70 by decide), nI_mul, nI_add]
      refine ⟨rfl, ?_⟩
      have hxy := And.intro hx hy
      obtain ⟨a, ha1, ha2, rfl⟩ := inR_nI hx (by decide) (by decide)
      obtain ⟨b, hb1, hb2, rfl⟩ := inR_nI hy (by decide) (by decide)
      refine sp_X6_open hb2 hV.2.2.2.1 ht fun c1 hf1 hT1 => ?_
      simp only [Option.toList_some, Option.toList_none, List.cons_append, List.nil_append, Option.toList, s_X9_inn_0, s_X9_inn_1, s_X9_inn_4, s_X9_inn_7, s_X9_inn_8, s_X9_inn_11, s_X9_inn_14, s_X9_inn_16, s_X9_inn_17, s_X9_inn_18, s_X9_inn_21, s_X9_inn_24, s_X9_inn_26, s_X9_inn_27, s_X9_inn_28, s_X9_inn_31, s_X9_inn_34, s_X9_inn_35, s_X9_inn_36, s_X9_inn_37, s_X9_inn_40, s_X9_inn_41, s_X9_inn_42, s_X9_inn_45, s_X9_inn_46]
      have e1 : innT (n, m, v, w, fo, si, st) (nI a) (nI b) = (a, b, v, (fun j => if 1 ≤ j ∧ j ≤ b then 1 else 0), (fun _ => 0), 0, st) := by
        unfold innT
        rw [if_pos hxy, nI_c (by omega), nI_c (by omega)]
      have := hk c1 (hf1.mono rfl) (by rw [e1]; exact hC.tb hf1 hT1)
      rw [innA, if_pos hxy] at this
      exact this
theorem cl_rule (hV : VS (n, m, v, w, fo, si, st)) (hC : CS c (n, m, v, w, fo, si, st) sg pd im) (hk : ∀ c', frm CM c c' → CS c' (rulT (n, m, v, w, fo, si, st) x) sg pd im → R (some (.int (rulA (n, m, v, w, fo, si, st) x))) (tab c')) : rM ro (d + 1) 46 0 0 [.ref 0, .int x] (tab c) R := by
  have h0 := hC.1.1
  have ht := hC.2.1
  have htt := ht.1
  rw [en_X9_rule]
  simp only [s_X9_rule_0, s_X9_rule_1, s_X9_rule_4, s_X9_rule_5, s_X9_rule_6, s_X9_rule_9, s_X9_rule_11, s_X9_rule_12, s_X9_rule_13, s_X9_rule_16, s_X9_rule_19, s_X9_rule_20, s_X9_rule_21, s_X9_rule_24, s_X9_rule_25, s_X9_rule_28, s_X9_rule_29, gl0 h0, gt2 htt (show 1 < 70 by decide), pt2 htt (show 1 < 70 by decide)]
  have no : ¬ inR 0 3 x → R (some (.int (- nI 2))) (tab c) := by
    intro hx
    have := hk c frm.rf (by unfold rulT; rw [if_neg hx]; exact hC)
    rw [rulA, if_neg hx] at this
    exact this
  refine ⟨fun hx => no (fun q => absurd q.1 (by rw [nI_0]; exact Int32.not_le.mpr hx)), fun hx => ⟨fun hy => ⟨rfl, ?_⟩, fun hy => no (fun q => hy q.2)⟩⟩
  have hxx : inR 0 3 x := ⟨by rw [nI_0]; exact Int32.not_lt.mp hx, hy⟩
  obtain ⟨a, ha1, ha2, rfl⟩ := inR_nI hxx (by decide) (by decide)
  have hf : frm [1] c (fup c 1 (tobj 1 (nI n) (nI m) (nI a) (nI si))) := frm.rf.fup rfl
  have := hk _ (hf.mono rfl) (by
    unfold rulT
    rw [if_pos hxx, nI_c (by omega)]
    exact hC.tb (hf.mono rfl) ⟨fup_self, ht.2.1.fr hf rfl, ht.2.2.1.fr hf rfl, ht.2.2.2.1.fr hf rfl, ht.2.2.2.2.1.fr hf rfl, ht.2.2.2.2.2.fr hf rfl⟩)
  rw [rulA, if_pos hxx] at this
  exact this
theorem cl_say {T : TS} (hs : sg ≤ 48) (hC : CS c T sg pd im) (hk : ∀ c', frm CM c c' → CS c' T (sayS sg x) (sayP sg pd x) im → R (some (.int (sayA sg x))) (tab c')) : rM ro (d + 1) 47 0 0 [.ref 0, .int x] (tab c) R := by
  have h0 := hC.1.1
  have hp := hC.2.2.2.1
  rw [en_X9_say]
  simp only [s_X9_say_0, s_X9_say_1, s_X9_say_3, s_X9_say_6, s_X9_say_7, s_X9_say_9, s_X9_say_12, s_X9_say_14, s_X9_say_15, s_X9_say_16, s_X9_say_19, s_X9_say_21, s_X9_say_24, s_X9_say_26, s_X9_say_27, s_X9_say_28, s_X9_say_31, s_X9_say_32, s_X9_say_35, s_X9_say_36, s_X9_say_37, s_X9_say_38, s_X9_say_39, s_X9_say_42, s_X9_say_43, s_X9_say_44, s_X9_say_47, s_X9_say_48, s_X9_say_51, gl4 h0, gl3 h0, sI_lt (show sg < 100000 by omega) (show 48 < 100000 by decide)]
  have no : ¬ inR 33 126 x → R (some (.int (- nI 2))) (tab c) := by
    intro hx
    have := hk c frm.rf (by unfold sayS sayP; rw [if_neg hx, if_neg hx]; exact hC)
    rw [sayA, if_neg hx] at this
    exact this
  refine ⟨fun hx => no (fun q => absurd q.1 (Int32.not_le.mpr hx)), fun hx => ⟨fun hy => ?_, fun hy => no (fun q => hy q.2)⟩⟩
  have hxx : inR 33 126 x := ⟨Int32.not_lt.mp hx, hy⟩
  refine ⟨fun hl => ?_, fun hl => ?_⟩
  · refine si_i hp (by decide) (by omega) (by decide) fun c1 hf1 hi1 => ?_
    have e0 := (hf1 0 rfl).trans h0
    simp only [s_X9_say_0, s_X9_say_1, s_X9_say_3, s_X9_say_6, s_X9_say_7, s_X9_say_9, s_X9_say_12, s_X9_say_14, s_X9_say_15, s_X9_say_16, s_X9_say_19, s_X9_say_21, s_X9_say_24, s_X9_say_26, s_X9_say_27, s_X9_say_28, s_X9_say_31, s_X9_say_32, s_X9_say_35, s_X9_say_36, s_X9_say_37, s_X9_say_38, s_X9_say_39, s_X9_say_42, s_X9_say_43, s_X9_say_44, s_X9_say_47, s_X9_say_48, s_X9_say_51, gl4 e0, pl4 e0, nI_add]
    rw [gl4 (signs := nI (sg + 1)) fup_self, s_X9_say_51]
    have hf : frm [0, 21] c (fup c1 0 (lobj (nI (sg + 1)))) := (hf1.mono (M' := [0, 21]) rfl).fup rfl
    have := hk _ (hf.mono rfl) (by
      unfold sayS sayP
      rw [if_pos hxx, if_pos hxx, if_neg (by omega), if_neg (by omega)]
      exact hC.sgn hf fup_self (by obtain ⟨g, g1, g2⟩ := hi1; exact ⟨g, (fup_ne (by decide)).trans g1, g2⟩))
    rw [sayA, if_pos hxx, if_neg (by omega)] at this
    exact this
  · have h48 : sg = 48 := by omega
    have := hk c frm.rf (by unfold sayS sayP; rw [if_pos hxx, if_pos hxx, if_pos h48, if_pos h48]; exact hC)
    rw [sayA, if_pos hxx, if_pos h48] at this
    exact this
theorem cl_wipe {T : TS} (hC : CS c T sg pd im) (hk : ∀ c', frm CM c c' → CS c' T 0 pd im → R (some (.int (nI sg))) (tab c')) : rM ro (d + 1) 48 0 0 [.ref 0] (tab c) R := by
  have h0 := hC.1.1
  rw [en_X9_wipe]
  simp only [s_X9_wipe_0, s_X9_wipe_1, s_X9_wipe_4, s_X9_wipe_5, s_X9_wipe_6, s_X9_wipe_7, s_X9_wipe_10, s_X9_wipe_11, gl4 h0, pl4 h0]
  have hf : frm [0, 21] c (fup c 0 (lobj (nI 0))) := frm.rf.fup rfl
  exact ⟨rfl, hk _ (hf.mono rfl) (hC.sgn hf fup_self (by obtain ⟨g, g1, g2⟩ := hC.2.2.2.1; exact ⟨g, (fup_ne (by decide)).trans g1, g2⟩))⟩
theorem cl_forget (hC : CS c (n, m, v, w, fo, si, st) sg pd im) (hk : ∀ c', frm CM c c' → CS c' (n, m, v, w, fo, 0, st) sg pd im → R (some (.int (nI si))) (tab c')) : rM ro (d + 1) 67 0 0 [.ref 0] (tab c) R := by
  have h0 := hC.1.1
  have ht := hC.2.1
  rw [en_X9_forget]
  simp only [s_X9_forget_0, s_X9_forget_1, s_X9_forget_4, s_X9_forget_7, s_X9_forget_8, s_X9_forget_9, s_X9_forget_12, s_X9_forget_13, s_X9_forget_16, s_X9_forget_17, gl0 h0, gt8 ht.1 (show 1 < 70 by decide), pt8 ht.1 (show 1 < 70 by decide)]
  have hf : frm [1] c (fup c 1 (tobj 1 (nI n) (nI m) (nI v) (nI 0))) := frm.rf.fup rfl
  exact ⟨rfl, hk _ (hf.mono rfl) (hC.tb (hf.mono rfl) ⟨fup_self, ht.2.1.fr hf rfl, ht.2.2.1.fr hf rfl, ht.2.2.2.1.fr hf rfl, ht.2.2.2.2.1.fr hf rfl, ht.2.2.2.2.2.fr hf rfl⟩)⟩
theorem cl_fool (hV : VS (n, m, v, w, fo, si, st)) (hC : CS c (n, m, v, w, fo, si, st) sg pd im) (hk : ∀ c', frm CM c c' → CS c' (fooT (n, m, v, w, fo, si, st) x y) sg pd im → R (some (.int (fooA (n, m, v, w, fo, si, st) x y))) (tab c')) : rM ro (d + 2) 52 0 0 [.ref 0, .int x, .int y] (tab c) R := by
  have h0 := hC.1.1
  have ht := hC.2.1
  have htt := ht.1
  have hn := hV.1
  rw [en_X9_fool]
  have no : ¬ (inR 0 (n - 1) x ∧ (y = 0 ∨ inR 1 m y)) → R (some (.int (- nI 1))) (tab c) := by
    intro hx
    have := hk c frm.rf (by unfold fooT; rw [if_neg hx]; exact hC)
    rw [fooA, if_neg hx] at this
    exact this
  have yes : inR 0 (n - 1) x → (y = 0 ∨ inR 1 m y) → rU ro (d + 1) tb_X9_fool R 28 [.ref 0, .int x, .int y, .null] [] (tab c) := by
    intro hx hy
    have hxy := And.intro hx hy
    obtain ⟨a, ha1, ha2, rfl⟩ := inR_nI hx (by decide) (by omega)
    obtain ⟨b, rfl, hb⟩ : ∃ b, y = nI b ∧ b < 100000 := by
      rcases hy with rfl | hy
      · exact ⟨0, nI_0.symm, by decide⟩
      · obtain ⟨b, hb1, hb2, rfl⟩ := inR_nI hy (by decide) (by have := hV.2.1; omega)
        exact ⟨b, rfl, by have := hV.2.1; omega⟩
    simp only [s_X9_fool_0, s_X9_fool_1, s_X9_fool_4, s_X9_fool_5, s_X9_fool_8, s_X9_fool_11, s_X9_fool_12, s_X9_fool_15, s_X9_fool_16, s_X9_fool_19, s_X9_fool_20, s_X9_fool_23, s_X9_fool_26, s_X9_fool_27, s_X9_fool_28, s_X9_fool_29, s_X9_fool_32, s_X9_fool_35, s_X9_fool_36, s_X9_fool_37, s_X9_fool_38, s_X9_fool_39, s_X9_fool_42, s_X9_fool_45, s_X9_fool_46, s_X9_fool_47, s_X9_fool_48, s_X9_fool_49, gl0 h0, gt4 htt (show 1 < 70 by decide), ai_i ht.2.2.1 (show 1 + 2 < 70 by decide) (show a < 6 by omega) (by decide)]
    refine ⟨rfl, si_i ht.2.2.1 (by decide) (by omega) (by decide) fun c1 hf1 hi1 => ?_⟩
    have := hk c1 (hf1.mono rfl) (by
      unfold fooT
      rw [if_pos hxy, nI_c (by omega), nI_c hb]
      exact hC.tb (hf1.mono rfl) ⟨(hf1 1 rfl).trans htt, ht.2.1.fr hf1 rfl, hi1.cg (fun j _ => (congrFun updN_nI j).symm), ht.2.2.2.1.fr hf1 rfl, ht.2.2.2.2.1.fr hf1 rfl, ht.2.2.2.2.2.fr hf1 rfl⟩)
    rw [fooA, if_pos hxy, nI_c (by omega)] at this
    exact this
  simp only [s_X9_fool_0, s_X9_fool_1, s_X9_fool_4, s_X9_fool_5, s_X9_fool_8, s_X9_fool_11, s_X9_fool_12, s_X9_fool_15, s_X9_fool_16, s_X9_fool_19, s_X9_fool_20, s_X9_fool_23, s_X9_fool_26, s_X9_fool_27, s_X9_fool_29, s_X9_fool_32, s_X9_fool_35, s_X9_fool_36, s_X9_fool_37, s_X9_fool_38, s_X9_fool_39, s_X9_fool_42, s_X9_fool_45, s_X9_fool_46, s_X9_fool_47, s_X9_fool_48, s_X9_fool_49, gl0 h0, vt_o htt (show 1 < 70 by decide)]
  refine sp_X6_hasMan htt (by decide) (by omega) ?_
  simp only [Option.toList_some, Option.toList_none, List.cons_append, List.nil_append, Option.toList, s_X9_fool_0, s_X9_fool_1, s_X9_fool_4, s_X9_fool_5, s_X9_fool_8, s_X9_fool_11, s_X9_fool_12, s_X9_fool_15, s_X9_fool_16, s_X9_fool_19, s_X9_fool_20, s_X9_fool_23, s_X9_fool_26, s_X9_fool_27, s_X9_fool_29, s_X9_fool_32, s_X9_fool_35, s_X9_fool_36, s_X9_fool_37, s_X9_fool_38, s_X9_fool_39, s_X9_fool_42, s_X9_fool_45, s_X9_fool_46, s_X9_fool_47, s_X9_fool_48, s_X9_fool_49, gl0 h0, vt_o htt (show 1 < 70 by decide), b2_0]
  refine ⟨fun hx => no (fun q => hx q.1), fun hx => ⟨fun hy => yes (Decidable.not_not.mp hx) (Or.inl hy), fun hy => sp_X6_hasNumber htt (by decide) ?_⟩⟩
  simp only [Option.toList_some, Option.toList_none, List.cons_append, List.nil_append, Option.toList, s_X9_fool_0, s_X9_fool_1, s_X9_fool_4, s_X9_fool_5, s_X9_fool_8, s_X9_fool_11, s_X9_fool_12, s_X9_fool_15, s_X9_fool_16, s_X9_fool_19, s_X9_fool_20, s_X9_fool_23, s_X9_fool_26, s_X9_fool_27, s_X9_fool_29, s_X9_fool_32, s_X9_fool_35, s_X9_fool_36, s_X9_fool_37, s_X9_fool_38, s_X9_fool_39, s_X9_fool_42, s_X9_fool_45, s_X9_fool_46, s_X9_fool_47, s_X9_fool_48, s_X9_fool_49, b2_0]
  exact ⟨fun hz => no (fun q => q.2.elim hy hz), fun hz => yes (Decidable.not_not.mp hx) (Or.inr (Decidable.not_not.mp hz))⟩
end CX
