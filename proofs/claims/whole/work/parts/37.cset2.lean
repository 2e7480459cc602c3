/-! ===== the class: weight, seen, told, fault ===== -/
abbrev weiOK (T : TS) (x y : Int32) : Prop := inR 0 9 y ∧ 1 ≤ smF T.2.2.2.1 T.2.1 1 - T.2.2.2.1 x.toNatClampNeg + y.toNatClampNeg ∧ smF T.2.2.2.1 T.2.1 1 - T.2.2.2.1 x.toNatClampNeg + y.toNatClampNeg ≤ 12
def weiT (T : TS) (x y : Int32) : TS := if inR 1 T.2.1 x ∧ weiOK T x y then (T.1, T.2.1, T.2.2.1, updN T.2.2.2.1 x.toNatClampNeg y.toNatClampNeg, T.2.2.2.2) else T
def weiA (T : TS) (x y : Int32) : Int32 := if inR 1 T.2.1 x then (if weiOK T x y then nI (T.2.2.2.1 x.toNatClampNeg) else - nI 2) else - nI 1
abbrev senK (T : TS) (a b e : Int32) : Prop := a = nI 2 ∨ (inR 0 (T.1 - 1) b ∧ inR 1 T.2.1 e)
def stP (st : Nat → Int32) (si : Nat) (a b e : Int32) : Nat → Int32 := upd (upd (upd st (3 * si) a) (3 * si + 1) b) (3 * si + 2) e
def senT (T : TS) (a b e : Int32) : TS := if senK T a b e ∧ inR 0 2 a ∧ T.2.2.2.2.2.1 ≠ 6 then (T.1, T.2.1, T.2.2.1, T.2.2.2.1, T.2.2.2.2.1, T.2.2.2.2.2.1 + 1, stP T.2.2.2.2.2.2 T.2.2.2.2.2.1 a b e) else T
def senA (T : TS) (a b e : Int32) : Int32 := if senK T a b e then (if inR 0 2 a then (if T.2.2.2.2.2.1 = 6 then - nI 4 else nI (T.2.2.2.2.2.1 + 1)) else - nI 2) else - nI 1
def tolA (T : TS) (sg : Nat) (x : Int32) : Int32 := if x = nI 0 then nI sg else if x = nI 1 then nI T.1 else if x = nI 2 then nI T.2.1 else if x = nI 3 then nI T.2.2.1 else if x = nI 4 then nI T.2.2.2.2.2.1 else if inR 11 (10 + T.2.1) x then nI (T.2.2.2.1 (x.toNatClampNeg - 10)) else if inR 20 (19 + T.1) x then nI (T.2.2.2.2.1 (x.toNatClampNeg - 20)) else - nI 2
abbrev slp (m : Nat) (s : Int32) : Prop := s = nI 63 ∨ inR 48 (48 + m) s
def fltF (n m sg : Nat) (pd : Nat → Int32) : Nat → Nat → Int32
  | 0, _ => if sg < n then nI sg else - nI 6
  | r + 1, i => if n ≤ i ∨ ¬ slp m (pd i) then nI i else fltF n m sg pd r (i + 1)
def fltA (T : TS) (sg : Nat) (pd : Nat → Int32) : Int32 := fltF T.1 T.2.1 sg pd sg 0
section CY
variable {ro : rQ} {LL : Nat} {xs : Nat → Int32} {d : Nat} {R : rR} {c : Nat → rE} {h : rH} {n m v si sg k t : Nat} {w fo : Nat → Nat} {st pd : Nat → Int32} {im : Nat → Option TS} {x y z : Int32}
theorem all_wt {m a b : Nat} {w : Nat → Nat} (h1 : 1 ≤ a) (h2 : a ≤ m) : nI (smF w m 1) - nI (w a) + nI b = nI (smF w m 1 - w a + b) := by
  rw [sI_sub (smF_le m 1 a h1 (by omega)), nI_add]
theorem cl_weight (hV : VS (n, m, v, w, fo, si, st)) (hC : CS c (n, m, v, w, fo, si, st) sg pd im) (hk : ∀ c', frm CM c c' → CS c' (weiT (n, m, v, w, fo, si, st) x y) sg pd im → R (some (.int (weiA (n, m, v, w, fo, si, st) x y))) (tab c')) : rM ro (d + 2) 51 0 0 [.ref 0, .int x, .int y] (tab c) R := by
  have h0 := hC.1.1
  have ht := hC.2.1
  have htt := ht.1
  have hm := hV.2.1
  rw [en_X9_weight]
  simp only [s_X9_weight_0, s_X9_weight_1, s_X9_weight_4, s_X9_weight_5, s_X9_weight_8, s_X9_weight_11, s_X9_weight_12, s_X9_weight_13, s_X9_weight_14, s_X9_weight_17, s_X9_weight_18, s_X9_weight_20, s_X9_weight_23, s_X9_weight_25, s_X9_weight_26, s_X9_weight_27, s_X9_weight_30, s_X9_weight_33, s_X9_weight_34, s_X9_weight_35, s_X9_weight_36, s_X9_weight_37, s_X9_weight_40, s_X9_weight_43, s_X9_weight_44, s_X9_weight_45, s_X9_weight_46, s_X9_weight_47, s_X9_weight_49, s_X9_weight_51, s_X9_weight_52, s_X9_weight_55, s_X9_weight_57, s_X9_weight_59, s_X9_weight_62, s_X9_weight_64, s_X9_weight_65, s_X9_weight_66, s_X9_weight_69, s_X9_weight_72, s_X9_weight_73, s_X9_weight_74, s_X9_weight_75, s_X9_weight_76, gl0 h0, vt_o htt (show 1 < 70 by decide)]
  refine sp_X6_hasNumber htt (by decide) ?_
  simp only [Option.toList_some, Option.toList_none, List.cons_append, List.nil_append, Option.toList, s_X9_weight_0, s_X9_weight_1, s_X9_weight_4, s_X9_weight_5, s_X9_weight_8, s_X9_weight_11, s_X9_weight_12, s_X9_weight_13, s_X9_weight_14, s_X9_weight_17, s_X9_weight_18, s_X9_weight_20, s_X9_weight_23, s_X9_weight_25, s_X9_weight_26, s_X9_weight_27, s_X9_weight_30, s_X9_weight_33, s_X9_weight_34, s_X9_weight_35, s_X9_weight_36, s_X9_weight_37, s_X9_weight_40, s_X9_weight_43, s_X9_weight_44, s_X9_weight_45, s_X9_weight_46, s_X9_weight_47, s_X9_weight_49, s_X9_weight_51, s_X9_weight_52, s_X9_weight_55, s_X9_weight_57, s_X9_weight_59, s_X9_weight_62, s_X9_weight_64, s_X9_weight_65, s_X9_weight_66, s_X9_weight_69, s_X9_weight_72, s_X9_weight_73, s_X9_weight_74, s_X9_weight_75, s_X9_weight_76, b2_0, gl0 h0, gt3 htt (show 1 < 70 by decide)]
  refine ⟨fun hx => ?_, fun hx => ?_⟩
  · have := hk c frm.rf (by rw [weiT, if_neg (fun q => hx q.1)]; exact hC)
    rw [weiA, if_neg hx] at this
    exact this
  · have hx := Decidable.not_not.mp hx
    have no : ¬ weiOK (n, m, v, w, fo, si, st) x y → R (some (.int (- nI 2))) (tab c) := by
      intro hy
      have := hk c frm.rf (by rw [weiT, if_neg (fun q => hy q.2)]; exact hC)
      rw [weiA, if_pos hx, if_neg hy] at this
      exact this
    refine ⟨fun hy => no (fun q => absurd q.1.1 (by rw [nI_0]; exact Int32.not_le.mpr hy)), fun hy => ⟨fun hy2 => ?_, fun hy2 => no (fun q => hy2 q.1.2)⟩⟩
    have hyy : inR 0 9 y := ⟨by rw [nI_0]; exact Int32.not_lt.mp hy, hy2⟩
    obtain ⟨a, ha1, ha2, rfl⟩ := inR_nI hx (by decide) (by omega)
    obtain ⟨b, hb1, hb2, rfl⟩ := inR_nI hyy (by decide) (by decide)
    simp only [ai_i ht.2.1 (show 1 + 1 < 70 by decide) (show a < 7 by omega) (by decide), s_X9_weight_0, s_X9_weight_1, s_X9_weight_4, s_X9_weight_5, s_X9_weight_8, s_X9_weight_11, s_X9_weight_12, s_X9_weight_13, s_X9_weight_14, s_X9_weight_17, s_X9_weight_18, s_X9_weight_20, s_X9_weight_23, s_X9_weight_25, s_X9_weight_26, s_X9_weight_27, s_X9_weight_30, s_X9_weight_33, s_X9_weight_34, s_X9_weight_35, s_X9_weight_36, s_X9_weight_37, s_X9_weight_40, s_X9_weight_43, s_X9_weight_44, s_X9_weight_45, s_X9_weight_46, s_X9_weight_47, s_X9_weight_49, s_X9_weight_51, s_X9_weight_52, s_X9_weight_55, s_X9_weight_57, s_X9_weight_59, s_X9_weight_62, s_X9_weight_64, s_X9_weight_65, s_X9_weight_66, s_X9_weight_69, s_X9_weight_72, s_X9_weight_73, s_X9_weight_74, s_X9_weight_75, s_X9_weight_76, gl0 h0, vt_o htt (show 1 < 70 by decide)]
    refine ⟨rfl, sp_X6_allWeights ht (by decide) hm.2 ?_⟩
    have hW := hV.2.2.2.2.2.2.1.2
    have hq : smF w m 1 - w a + b < 100000 := by omega
    simp only [Option.toList_some, Option.toList_none, List.cons_append, List.nil_append, Option.toList, s_X9_weight_0, s_X9_weight_1, s_X9_weight_4, s_X9_weight_5, s_X9_weight_8, s_X9_weight_11, s_X9_weight_12, s_X9_weight_13, s_X9_weight_14, s_X9_weight_17, s_X9_weight_18, s_X9_weight_20, s_X9_weight_23, s_X9_weight_25, s_X9_weight_26, s_X9_weight_27, s_X9_weight_30, s_X9_weight_33, s_X9_weight_34, s_X9_weight_35, s_X9_weight_36, s_X9_weight_37, s_X9_weight_40, s_X9_weight_43, s_X9_weight_44, s_X9_weight_45, s_X9_weight_46, s_X9_weight_47, s_X9_weight_49, s_X9_weight_51, s_X9_weight_52, s_X9_weight_55, s_X9_weight_57, s_X9_weight_59, s_X9_weight_62, s_X9_weight_64, s_X9_weight_65, s_X9_weight_66, s_X9_weight_69, s_X9_weight_72, s_X9_weight_73, s_X9_weight_74, s_X9_weight_75, s_X9_weight_76, all_wt ha1 ha2, gl0 h0, gt3 htt (show 1 < 70 by decide), sI_lt hq (show 1 < 100000 by decide), sI_le hq (show 12 < 100000 by decide)]
    have hok : weiOK (n, m, v, w, fo, si, st) (nI a) (nI b) ↔ (1 ≤ smF w m 1 - w a + b ∧ smF w m 1 - w a + b ≤ 12) := by
      unfold weiOK
      rw [nI_c (show a < 100000 by omega), nI_c (show b < 100000 by omega)]
      exact ⟨fun q => q.2, fun q => ⟨hyy, q⟩⟩
    refine ⟨rfl, fun h1 => no (fun q => by have := (hok.mp q).1; omega), fun h1 => ⟨fun h2 => ?_, fun h2 => no (fun q => h2 (hok.mp q).2)⟩⟩
    refine si_i ht.2.1 (by decide) (by omega) (by decide) fun c1 hf1 hi1 => ?_
    have hyes : weiOK (n, m, v, w, fo, si, st) (nI a) (nI b) := hok.mpr ⟨by omega, h2⟩
    have := hk c1 (hf1.mono rfl) (by
      rw [weiT, if_pos ⟨hx, hyes⟩, nI_c (show a < 100000 by omega), nI_c (show b < 100000 by omega)]
      exact hC.tb (hf1.mono rfl) ⟨(hf1 1 rfl).trans htt, hi1.cg (fun j _ => (congrFun updN_nI j).symm), ht.2.2.1.fr hf1 rfl, ht.2.2.2.1.fr hf1 rfl, ht.2.2.2.2.1.fr hf1 rfl, ht.2.2.2.2.2.fr hf1 rfl⟩)
    rw [weiA, if_pos hx, if_pos hyes, nI_c (show a < 100000 by omega)] at this
    exact this
theorem stP_at {st : Nat → Int32} {si j : Nat} {a b e : Int32} : (stP st si a b e (3 * j) = upd (fun i => st (3 * i)) si a j) ∧ (stP st si a b e (3 * j + 1) = upd (fun i => st (3 * i + 1)) si b j) ∧ (stP st si a b e (3 * j + 2) = upd (fun i => st (3 * i + 2)) si e j) := by
  unfold stP upd
  by_cases h : j = si
  · subst h
    refine ⟨?_, ?_, ?_⟩
    · rw [if_neg (by omega), if_neg (by omega), if_pos rfl, if_pos rfl]
    · rw [if_neg (by omega), if_pos rfl, if_pos rfl]
    · rw [if_pos rfl, if_pos rfl]
  · refine ⟨?_, ?_, ?_⟩
    · rw [if_neg (by omega), if_neg (by omega), if_neg (by omega), if_neg h]
    · rw [if_neg (by omega), if_neg (by omega), if_neg (by omega), if_neg h]
    · rw [if_neg (by omega), if_neg (by omega), if_neg (by omega), if_neg h]
theorem sp_X6_addSight (hT : TBL c 1 (n, m, v, w, fo, si, st)) (hs : si < 6) (hk : ∀ c', frm [1, 2, 3, 4, 5, 6] c c' → TBL c' 1 (n, m, v, w, fo, si + 1, stP st si x y z) → R none (tab c')) : rM ro (d + 1) 33 0 0 [.ref 1, .int x, .int y, .int z] (tab c) R := by
  obtain ⟨h0, h1, h2, h3, h4, h5⟩ := hT
  rw [en_X6_addSight]
  simp only [s_X6_addSight_0, s_X6_addSight_1, s_X6_addSight_4, s_X6_addSight_6, s_X6_addSight_9, s_X6_addSight_10, s_X6_addSight_13, s_X6_addSight_14, s_X6_addSight_17, s_X6_addSight_18, s_X6_addSight_19, s_X6_addSight_20, s_X6_addSight_23, s_X6_addSight_24, s_X6_addSight_27, s_X6_addSight_28, s_X6_addSight_29, s_X6_addSight_30, s_X6_addSight_33, s_X6_addSight_34, s_X6_addSight_37, s_X6_addSight_38, s_X6_addSight_39, s_X6_addSight_40, s_X6_addSight_41, s_X6_addSight_44, s_X6_addSight_45, s_X6_addSight_46, s_X6_addSight_49, gt8 h0 (show 1 < 70 by decide), gt5 h0 (show 1 < 70 by decide), sI_le (show 6 < 100000 by decide) (show si < 100000 by omega)]
  refine ⟨fun hc => absurd hc (by omega), fun _ => si_i h3 (by decide) (by omega) (by decide) fun c1 hf1 hi1 => ?_⟩
  have e0 := (hf1 1 rfl).trans h0
  simp only [s_X6_addSight_0, s_X6_addSight_1, s_X6_addSight_4, s_X6_addSight_6, s_X6_addSight_9, s_X6_addSight_10, s_X6_addSight_13, s_X6_addSight_14, s_X6_addSight_17, s_X6_addSight_18, s_X6_addSight_19, s_X6_addSight_20, s_X6_addSight_23, s_X6_addSight_24, s_X6_addSight_27, s_X6_addSight_28, s_X6_addSight_29, s_X6_addSight_30, s_X6_addSight_33, s_X6_addSight_34, s_X6_addSight_37, s_X6_addSight_38, s_X6_addSight_39, s_X6_addSight_40, s_X6_addSight_41, s_X6_addSight_44, s_X6_addSight_45, s_X6_addSight_46, s_X6_addSight_49, gt8 e0 (show 1 < 70 by decide), gt6 e0 (show 1 < 70 by decide)]
  refine si_i (h4.fr hf1 rfl) (by decide) (by omega) (by decide) fun c2 hf2 hi2 => ?_
  have e0 := (hf2 1 rfl).trans e0
  simp only [s_X6_addSight_0, s_X6_addSight_1, s_X6_addSight_4, s_X6_addSight_6, s_X6_addSight_9, s_X6_addSight_10, s_X6_addSight_13, s_X6_addSight_14, s_X6_addSight_17, s_X6_addSight_18, s_X6_addSight_19, s_X6_addSight_20, s_X6_addSight_23, s_X6_addSight_24, s_X6_addSight_27, s_X6_addSight_28, s_X6_addSight_29, s_X6_addSight_30, s_X6_addSight_33, s_X6_addSight_34, s_X6_addSight_37, s_X6_addSight_38, s_X6_addSight_39, s_X6_addSight_40, s_X6_addSight_41, s_X6_addSight_44, s_X6_addSight_45, s_X6_addSight_46, s_X6_addSight_49, gt8 e0 (show 1 < 70 by decide), gt7 e0 (show 1 < 70 by decide)]
  refine si_i ((h5.fr hf1 rfl).fr hf2 rfl) (by decide) (by omega) (by decide) fun c3 hf3 hi3 => ?_
  have e0 := (hf3 1 rfl).trans e0
  simp only [s_X6_addSight_0, s_X6_addSight_1, s_X6_addSight_4, s_X6_addSight_6, s_X6_addSight_9, s_X6_addSight_10, s_X6_addSight_13, s_X6_addSight_14, s_X6_addSight_17, s_X6_addSight_18, s_X6_addSight_19, s_X6_addSight_20, s_X6_addSight_23, s_X6_addSight_24, s_X6_addSight_27, s_X6_addSight_28, s_X6_addSight_29, s_X6_addSight_30, s_X6_addSight_33, s_X6_addSight_34, s_X6_addSight_37, s_X6_addSight_38, s_X6_addSight_39, s_X6_addSight_40, s_X6_addSight_41, s_X6_addSight_44, s_X6_addSight_45, s_X6_addSight_46, s_X6_addSight_49, gt8 e0 (show 1 < 70 by decide), pt8 e0 (show 1 < 70 by decide), nI_add]
  have hf4 : frm [1] c3 (fup c3 1 (tobj 1 (nI n) (nI m) (nI v) (nI (si + 1)))) := frm.rf.fup rfl
  have hf : frm [1, 2, 3, 4, 5, 6] c (fup c3 1 (tobj 1 (nI n) (nI m) (nI v) (nI (si + 1)))) := (hf1.mono rfl).trans ((hf2.mono rfl).trans ((hf3.mono rfl).trans (hf4.mono rfl)))
  exact hk _ hf ⟨fup_self, (((h1.fr hf1 rfl).fr hf2 rfl).fr hf3 rfl).fr hf4 rfl, (((h2.fr hf1 rfl).fr hf2 rfl).fr hf3 rfl).fr hf4 rfl, (((hi1.fr hf2 rfl).fr hf3 rfl).fr hf4 rfl).cg (fun j _ => stP_at.1.symm), ((hi2.fr hf3 rfl).fr hf4 rfl).cg (fun j _ => stP_at.2.1.symm), (hi3.fr hf4 rfl).cg (fun j _ => stP_at.2.2.symm)⟩
theorem cl_seen (hV : VS (n, m, v, w, fo, si, st)) (hC : CS c (n, m, v, w, fo, si, st) sg pd im) (hk : ∀ c', frm CM c c' → CS c' (senT (n, m, v, w, fo, si, st) x y z) sg pd im → R (some (.int (senA (n, m, v, w, fo, si, st) x y z))) (tab c')) : rM ro (d + 2) 66 0 0 [.ref 0, .int x, .int y, .int z] (tab c) R := by
  have h0 := hC.1.1
  have ht := hC.2.1
  have htt := ht.1
  have hn := hV.1
  have hsi : si ≤ 6 := hV.2.2.2.2.2.2.2.2.1
  rw [en_X9_seen]
  have no : ¬ senK (n, m, v, w, fo, si, st) x y z → R (some (.int (- nI 1))) (tab c) := by
    intro hx
    have := hk c frm.rf (by rw [senT, if_neg (fun q => hx q.1)]; exact hC)
    rw [senA, if_neg hx] at this
    exact this
  have yes : senK (n, m, v, w, fo, si, st) x y z → rU ro (d + 1) tb_X9_seen R 29 [.ref 0, .int x, .int y, .int z] [] (tab c) := by
    intro hK
    simp only [s_X9_seen_0, s_X9_seen_1, s_X9_seen_2, s_X9_seen_5, s_X9_seen_6, s_X9_seen_9, s_X9_seen_10, s_X9_seen_13, s_X9_seen_16, s_X9_seen_17, s_X9_seen_20, s_X9_seen_21, s_X9_seen_24, s_X9_seen_27, s_X9_seen_28, s_X9_seen_29, s_X9_seen_30, s_X9_seen_33, s_X9_seen_34, s_X9_seen_35, s_X9_seen_38, s_X9_seen_40, s_X9_seen_41, s_X9_seen_42, s_X9_seen_45, s_X9_seen_48, s_X9_seen_50, s_X9_seen_53, s_X9_seen_55, s_X9_seen_56, s_X9_seen_57, s_X9_seen_60, s_X9_seen_61, s_X9_seen_62, s_X9_seen_63, s_X9_seen_66, s_X9_seen_67, s_X9_seen_70, s_X9_seen_73, gl0 h0, gt8 htt (show 1 < 70 by decide), vt_o htt (show 1 < 70 by decide), sI_lt (show si < 100000 by omega) (show 6 < 100000 by decide)]
    have no2 : ¬ inR 0 2 x → R (some (.int (- nI 2))) (tab c) := by
      intro hx
      have := hk c frm.rf (by rw [senT, if_neg (fun q => hx q.2.1)]; exact hC)
      rw [senA, if_pos hK, if_neg hx] at this
      exact this
    refine ⟨fun hx => no2 (fun q => absurd q.1 (by rw [nI_0]; exact Int32.not_le.mpr hx)), fun hx => ⟨fun hx2 => ?_, fun hx2 => no2 (fun q => hx2 q.2)⟩⟩
    have hxx : inR 0 2 x := ⟨by rw [nI_0]; exact Int32.not_lt.mp hx, hx2⟩
    refine ⟨fun hl => sp_X6_addSight ht hl fun c1 hf1 hT1 => ?_, fun hl => ?_⟩
    · have e0 := (hf1 0 rfl).trans h0
      simp only [Option.toList_some, Option.toList_none, List.cons_append, List.nil_append, Option.toList, s_X9_seen_0, s_X9_seen_1, s_X9_seen_2, s_X9_seen_5, s_X9_seen_6, s_X9_seen_9, s_X9_seen_10, s_X9_seen_13, s_X9_seen_16, s_X9_seen_17, s_X9_seen_20, s_X9_seen_21, s_X9_seen_24, s_X9_seen_27, s_X9_seen_28, s_X9_seen_29, s_X9_seen_30, s_X9_seen_33, s_X9_seen_34, s_X9_seen_35, s_X9_seen_38, s_X9_seen_40, s_X9_seen_41, s_X9_seen_42, s_X9_seen_45, s_X9_seen_48, s_X9_seen_50, s_X9_seen_53, s_X9_seen_55, s_X9_seen_56, s_X9_seen_57, s_X9_seen_60, s_X9_seen_61, s_X9_seen_62, s_X9_seen_63, s_X9_seen_66, s_X9_seen_67, s_X9_seen_70, s_X9_seen_73, gl0 e0, gt8 hT1.1 (show 1 < 70 by decide)]
      have := hk c1 (hf1.mono rfl) (by
        rw [senT, if_pos ⟨hK, hxx, show si ≠ 6 by omega⟩]
        exact hC.tb hf1 hT1)
      rw [senA, if_pos hK, if_pos hxx, if_neg (show ¬ si = 6 by omega)] at this
      exact this
    · have h6 : si = 6 := by omega
      have := hk c frm.rf (by rw [senT, if_neg (fun q => q.2.2 h6)]; exact hC)
      rw [senA, if_pos hK, if_pos hxx, if_pos h6] at this
      exact this
  simp only [s_X9_seen_0, s_X9_seen_1, s_X9_seen_2, s_X9_seen_5, s_X9_seen_6, s_X9_seen_9, s_X9_seen_10, s_X9_seen_13, s_X9_seen_16, s_X9_seen_17, s_X9_seen_20, s_X9_seen_21, s_X9_seen_24, s_X9_seen_27, s_X9_seen_28, s_X9_seen_30, s_X9_seen_33, s_X9_seen_34, s_X9_seen_35, s_X9_seen_38, s_X9_seen_40, s_X9_seen_41, s_X9_seen_42, s_X9_seen_45, s_X9_seen_48, s_X9_seen_50, s_X9_seen_53, s_X9_seen_55, s_X9_seen_56, s_X9_seen_57, s_X9_seen_60, s_X9_seen_61, s_X9_seen_62, s_X9_seen_63, s_X9_seen_66, s_X9_seen_67, s_X9_seen_70, s_X9_seen_73, gl0 h0, vt_o htt (show 1 < 70 by decide)]
  refine ⟨fun hx => yes (Or.inl hx), fun hx => sp_X6_hasMan htt (by decide) (by omega) ?_⟩
  simp only [Option.toList_some, Option.toList_none, List.cons_append, List.nil_append, Option.toList, s_X9_seen_0, s_X9_seen_1, s_X9_seen_2, s_X9_seen_5, s_X9_seen_6, s_X9_seen_9, s_X9_seen_10, s_X9_seen_13, s_X9_seen_16, s_X9_seen_17, s_X9_seen_20, s_X9_seen_21, s_X9_seen_24, s_X9_seen_27, s_X9_seen_28, s_X9_seen_30, s_X9_seen_33, s_X9_seen_34, s_X9_seen_35, s_X9_seen_38, s_X9_seen_40, s_X9_seen_41, s_X9_seen_42, s_X9_seen_45, s_X9_seen_48, s_X9_seen_50, s_X9_seen_53, s_X9_seen_55, s_X9_seen_56, s_X9_seen_57, s_X9_seen_60, s_X9_seen_61, s_X9_seen_62, s_X9_seen_63, s_X9_seen_66, s_X9_seen_67, s_X9_seen_70, s_X9_seen_73, gl0 h0, vt_o htt (show 1 < 70 by decide), b2_0]
  refine ⟨fun hy => no (fun q => q.elim hx (fun r => hy r.1)), fun hy => sp_X6_hasNumber htt (by decide) ?_⟩
  simp only [Option.toList_some, Option.toList_none, List.cons_append, List.nil_append, Option.toList, s_X9_seen_0, s_X9_seen_1, s_X9_seen_2, s_X9_seen_5, s_X9_seen_6, s_X9_seen_9, s_X9_seen_10, s_X9_seen_13, s_X9_seen_16, s_X9_seen_17, s_X9_seen_20, s_X9_seen_21, s_X9_seen_24, s_X9_seen_27, s_X9_seen_28, s_X9_seen_30, s_X9_seen_33, s_X9_seen_34, s_X9_seen_35, s_X9_seen_38, s_X9_seen_40, s_X9_seen_41, s_X9_seen_42, s_X9_seen_45, s_X9_seen_48, s_X9_seen_50, s_X9_seen_53, s_X9_seen_55, s_X9_seen_56, s_X9_seen_57, s_X9_seen_60, s_X9_seen_61, s_X9_seen_62, s_X9_seen_63, s_X9_seen_66, s_X9_seen_67, s_X9_seen_70, s_X9_seen_73, b2_0]
  exact ⟨fun hz => no (fun q => q.elim hx (fun r => hz r.2)), fun hz => yes (Or.inr ⟨Decidable.not_not.mp hy, Decidable.not_not.mp hz⟩)⟩
theorem sp_X9_isSlip {T : TS} (hC : CS c T sg pd im) (hm : T.2.1 ≤ 6) (hk : R (some (.int (b2 (slp T.2.1 x)))) (tab c)) : rM ro (d + 1) 79 0 0 [.ref 0, .int x] (tab c) R := by
  obtain ⟨n, m, v, w, fo, si, st⟩ := T
  have h0 := hC.1.1
  have htt := hC.2.1.1
  rw [en_X9_isSlip]
  simp only [s_X9_isSlip_0, s_X9_isSlip_1, s_X9_isSlip_3, s_X9_isSlip_6, s_X9_isSlip_7, s_X9_isSlip_9, s_X9_isSlip_12, s_X9_isSlip_13, s_X9_isSlip_15, s_X9_isSlip_16, s_X9_isSlip_19, s_X9_isSlip_22, s_X9_isSlip_23, s_X9_isSlip_26, s_X9_isSlip_27, s_X9_isSlip_30, s_X9_isSlip_31, gl0 h0, gt1 htt (show 1 < 70 by decide), nI_add]
  refine ⟨fun h1 => ⟨Or.inr rfl, ?_⟩, fun h1 => ⟨fun h2 => ⟨Or.inl nI_0, ?_⟩, fun h2 => ⟨fun h3 => ⟨Or.inl nI_0, ?_⟩, fun h3 => ⟨Or.inr rfl, ?_⟩⟩⟩⟩
  · rw [b2, if_pos (Or.inl h1)] at hk; exact hk
  · rw [b2, if_neg (fun q => q.elim h1 (fun r => absurd r.1 (Int32.not_le.mpr h2)))] at hk; exact hk
  · rw [b2, if_neg (fun q => q.elim h1 (fun r => absurd r.2 (Int32.not_le.mpr h3)))] at hk; exact hk
  · rw [b2, if_pos (Or.inr ⟨Int32.not_lt.mp h2, Int32.not_lt.mp h3⟩)] at hk; exact hk
theorem cl_fault {T : TS} (hV : VS T) (hs : sg ≤ 48) (hC : CS c T sg pd im) (hk : R (some (.int (fltA T sg pd))) (tab c)) : rM ro (d + 2) 49 0 0 [.ref 0] (tab c) R := by
  obtain ⟨n, m, v, w, fo, si, st⟩ := T
  have h0 := hC.1.1
  have htt := hC.2.1.1
  have hp := hC.2.2.2.1
  have hn := hV.1
  rw [en_X9_fault]
  simp only [s_X9_fault_0, s_X9_fault_1, s_X9_fault_3, s_X9_fault_4, s_X9_fault_7, s_X9_fault_10, s_X9_fault_11, s_X9_fault_13, s_X9_fault_16, s_X9_fault_17, s_X9_fault_18, s_X9_fault_21, s_X9_fault_24, s_X9_fault_27, s_X9_fault_28, s_X9_fault_29, s_X9_fault_32, s_X9_fault_33, s_X9_fault_34, s_X9_fault_37, s_X9_fault_40, s_X9_fault_41, s_X9_fault_42, s_X9_fault_45, s_X9_fault_48, s_X9_fault_49, s_X9_fault_52, s_X9_fault_53, s_X9_fault_56, s_X9_fault_59, s_X9_fault_62, s_X9_fault_63, s_X9_fault_66, s_X9_fault_69, s_X9_fault_71]
  refine ⟨rfl, ?_⟩
  have lp : ∀ rem i, i + rem = sg → fltF n m sg pd rem i = fltA (n, m, v, w, fo, si, st) sg pd → rU ro (d + 1) tb_X9_fault R 2 [.ref 0, .int (nI i)] [] (tab c) := by
    intro rem
    induction rem with
    | zero =>
      intro i hi he
      have : i = sg := by omega
      subst this
      rw [fltF] at he
      rw [s_X9_fault_2]
      simp only [s_X9_fault_0, s_X9_fault_1, s_X9_fault_3, s_X9_fault_4, s_X9_fault_7, s_X9_fault_10, s_X9_fault_11, s_X9_fault_13, s_X9_fault_16, s_X9_fault_17, s_X9_fault_18, s_X9_fault_21, s_X9_fault_24, s_X9_fault_27, s_X9_fault_28, s_X9_fault_29, s_X9_fault_32, s_X9_fault_33, s_X9_fault_34, s_X9_fault_37, s_X9_fault_40, s_X9_fault_41, s_X9_fault_42, s_X9_fault_45, s_X9_fault_48, s_X9_fault_49, s_X9_fault_52, s_X9_fault_53, s_X9_fault_56, s_X9_fault_59, s_X9_fault_62, s_X9_fault_63, s_X9_fault_66, s_X9_fault_69, s_X9_fault_71, gl4 h0, gl0 h0, gt0 htt (show 1 < 70 by decide), sI_le (show n < 100000 by omega) (show i < 100000 by omega)]
      refine ⟨fun _ => ⟨fun hc => ?_, fun hc => ?_⟩, fun hc => absurd ((sI_le (by omega) (by omega)).mpr (Nat.le_refl _)) hc⟩
      · rw [if_neg (by omega)] at he; rw [← he] at hk; exact hk
      · rw [if_pos (by omega)] at he; rw [← he] at hk; exact hk
    | succ rem ih =>
      intro i hi he
      rw [fltF] at he
      rw [s_X9_fault_2]
      simp only [s_X9_fault_0, s_X9_fault_1, s_X9_fault_3, s_X9_fault_4, s_X9_fault_7, s_X9_fault_10, s_X9_fault_11, s_X9_fault_13, s_X9_fault_16, s_X9_fault_17, s_X9_fault_18, s_X9_fault_21, s_X9_fault_24, s_X9_fault_27, s_X9_fault_28, s_X9_fault_29, s_X9_fault_32, s_X9_fault_33, s_X9_fault_34, s_X9_fault_37, s_X9_fault_40, s_X9_fault_41, s_X9_fault_42, s_X9_fault_45, s_X9_fault_49, s_X9_fault_52, s_X9_fault_53, s_X9_fault_56, s_X9_fault_59, s_X9_fault_62, s_X9_fault_63, s_X9_fault_66, s_X9_fault_69, s_X9_fault_71, gl4 h0, gl0 h0, gl3 h0, gt0 htt (show 1 < 70 by decide), sI_le (show n < 100000 by omega) (show i < 100000 by omega), sI_le (show sg < 100000 by omega) (show i < 100000 by omega), sI_le (show 48 < 100000 by decide) (show i < 100000 by omega), ai_i hp (show 21 < 70 by decide) (show i < 48 by omega) (by decide), vl_o h0]
      refine ⟨fun hc => absurd hc (by omega), fun _ => ⟨fun hc => absurd hc (by omega), fun _ => ⟨fun hc => ?_, fun hc => sp_X9_isSlip hC hV.2.1.2 ?_⟩⟩⟩
      · rw [if_pos (Or.inl hc)] at he; rw [← he] at hk; exact hk
      · simp only [Option.toList_some, Option.toList_none, List.cons_append, List.nil_append, Option.toList, s_X9_fault_0, s_X9_fault_1, s_X9_fault_3, s_X9_fault_4, s_X9_fault_7, s_X9_fault_10, s_X9_fault_11, s_X9_fault_13, s_X9_fault_16, s_X9_fault_17, s_X9_fault_18, s_X9_fault_21, s_X9_fault_24, s_X9_fault_27, s_X9_fault_28, s_X9_fault_29, s_X9_fault_32, s_X9_fault_33, s_X9_fault_34, s_X9_fault_37, s_X9_fault_40, s_X9_fault_41, s_X9_fault_42, s_X9_fault_45, s_X9_fault_49, s_X9_fault_52, s_X9_fault_53, s_X9_fault_56, s_X9_fault_59, s_X9_fault_62, s_X9_fault_63, s_X9_fault_66, s_X9_fault_69, s_X9_fault_71, b2_0, nI_add]
        refine ⟨fun hz => ?_, fun hz => ⟨rfl, ih (i + 1) (by omega) ?_⟩⟩
        · rw [if_pos (Or.inr hz)] at he; rw [← he] at hk; exact hk
        · rw [if_neg (fun q => q.elim hc hz)] at he; exact he
  exact lp sg 0 (by omega) rfl
theorem cl_told (hV : VS (n, m, v, w, fo, si, st)) (hs : sg ≤ 48) (hC : CS c (n, m, v, w, fo, si, st) sg pd im) (hk : R (some (.int (tolA (n, m, v, w, fo, si, st) sg x))) (tab c)) : rM ro (d + 2) 73 0 0 [.ref 0, .int x] (tab c) R := by
  have h0 := hC.1.1
  have ht := hC.2.1
  have htt := ht.1
  have hn := hV.1
  have hm := hV.2.1
  rw [en_X9_told, s_X9_told_0, s_X9_told_1]
  by_cases hx : inR 0 4 x
  · obtain ⟨a, ha1, ha2, rfl⟩ := inR_nI hx (by decide) (by decide)
    rcases (show a = 0 ∨ a = 1 ∨ a = 2 ∨ a = 3 ∨ a = 4 by omega) with rfl | rfl | rfl | rfl | rfl
    · rw [show rsw 73 0 4 [36, 41, 49, 57, 65] (nI 0) = 36 by decide]
      simp only [s_X9_told_0, s_X9_told_1, s_X9_told_36, s_X9_told_37, s_X9_told_40, s_X9_told_41, s_X9_told_42, s_X9_told_45, s_X9_told_48, s_X9_told_49, s_X9_told_50, s_X9_told_53, s_X9_told_56, s_X9_told_57, s_X9_told_58, s_X9_told_61, s_X9_told_64, s_X9_told_65, s_X9_told_66, s_X9_told_69, s_X9_told_72, s_X9_told_73, s_X9_told_74, s_X9_told_75, s_X9_told_78, gl4 h0]
      exact hk
    · rw [show rsw 73 0 4 [36, 41, 49, 57, 65] (nI 1) = 41 by decide]
      simp only [s_X9_told_0, s_X9_told_1, s_X9_told_36, s_X9_told_37, s_X9_told_40, s_X9_told_41, s_X9_told_42, s_X9_told_45, s_X9_told_48, s_X9_told_49, s_X9_told_50, s_X9_told_53, s_X9_told_56, s_X9_told_57, s_X9_told_58, s_X9_told_61, s_X9_told_64, s_X9_told_65, s_X9_told_66, s_X9_told_69, s_X9_told_72, s_X9_told_73, s_X9_told_74, s_X9_told_75, s_X9_told_78, gl0 h0, gt0 htt (show 1 < 70 by decide)]
      exact hk
    · rw [show rsw 73 0 4 [36, 41, 49, 57, 65] (nI 2) = 49 by decide]
      simp only [s_X9_told_0, s_X9_told_1, s_X9_told_36, s_X9_told_37, s_X9_told_40, s_X9_told_41, s_X9_told_42, s_X9_told_45, s_X9_told_48, s_X9_told_49, s_X9_told_50, s_X9_told_53, s_X9_told_56, s_X9_told_57, s_X9_told_58, s_X9_told_61, s_X9_told_64, s_X9_told_65, s_X9_told_66, s_X9_told_69, s_X9_told_72, s_X9_told_73, s_X9_told_74, s_X9_told_75, s_X9_told_78, gl0 h0, gt1 htt (show 1 < 70 by decide)]
      exact hk
    · rw [show rsw 73 0 4 [36, 41, 49, 57, 65] (nI 3) = 57 by decide]
      simp only [s_X9_told_0, s_X9_told_1, s_X9_told_36, s_X9_told_37, s_X9_told_40, s_X9_told_41, s_X9_told_42, s_X9_told_45, s_X9_told_48, s_X9_told_49, s_X9_told_50, s_X9_told_53, s_X9_told_56, s_X9_told_57, s_X9_told_58, s_X9_told_61, s_X9_told_64, s_X9_told_65, s_X9_told_66, s_X9_told_69, s_X9_told_72, s_X9_told_73, s_X9_told_74, s_X9_told_75, s_X9_told_78, gl0 h0, gt2 htt (show 1 < 70 by decide)]
      exact hk
    · rw [show rsw 73 0 4 [36, 41, 49, 57, 65] (nI 4) = 65 by decide]
      simp only [s_X9_told_0, s_X9_told_1, s_X9_told_36, s_X9_told_37, s_X9_told_40, s_X9_told_41, s_X9_told_42, s_X9_told_45, s_X9_told_48, s_X9_told_49, s_X9_told_50, s_X9_told_53, s_X9_told_56, s_X9_told_57, s_X9_told_58, s_X9_told_61, s_X9_told_64, s_X9_told_65, s_X9_told_66, s_X9_told_69, s_X9_told_72, s_X9_told_73, s_X9_told_74, s_X9_told_75, s_X9_told_78, gl0 h0, gt8 htt (show 1 < 70 by decide)]
      exact hk
  · have hsw : rsw 73 0 4 [36, 41, 49, 57, 65] x = 73 := by
      unfold rsw
      rw [if_pos]
      rcases not_inR hx with q | q
      · rw [Int32.lt_iff_toInt_lt, nI_toInt (by decide)] at q; exact Or.inl q
      · rw [Int32.lt_iff_toInt_lt, nI_toInt (by decide)] at q; exact Or.inr q
    have hne : ∀ a, a ≤ 4 → ¬ x = nI a := fun a ha e => hx (by rw [e]; exact inR_of (by omega) ha (by decide))
    rw [tolA, if_neg (hne 0 (by decide)), if_neg (hne 1 (by decide)), if_neg (hne 2 (by decide)), if_neg (hne 3 (by decide)), if_neg (hne 4 (by decide))] at hk
    rw [hsw]
    simp only [s_X9_told_0, s_X9_told_1, s_X9_told_36, s_X9_told_37, s_X9_told_40, s_X9_told_41, s_X9_told_42, s_X9_told_45, s_X9_told_48, s_X9_told_49, s_X9_told_50, s_X9_told_53, s_X9_told_56, s_X9_told_57, s_X9_told_58, s_X9_told_61, s_X9_told_64, s_X9_told_65, s_X9_told_66, s_X9_told_69, s_X9_told_72, s_X9_told_73, s_X9_told_74, s_X9_told_75, s_X9_told_78, vl_o h0]
    rw [en_X9_toldOfOne]
    have h10 : (x ≤ nI 10) ↔ ¬ nI 11 ≤ x := by
      rw [Int32.le_iff_toInt_le, Int32.le_iff_toInt_le, nI_toInt (by decide), nI_toInt (by decide)]
      omega
    have h20 : (nI (20 + n) ≤ x) ↔ ¬ x ≤ nI (19 + n) := by
      rw [Int32.le_iff_toInt_le, Int32.le_iff_toInt_le, nI_toInt (by omega), nI_toInt (by omega)]
      omega
    have p2 : ¬ inR 11 (10 + m) x → rU ro d tb_X9_toldOfOne (fun r h => rU ro (d + 1) tb_X9_told R 78 [.ref 0, .int x] (r.toList ++ []) h) 33 [.ref 0, .int x] [] (tab c) := by
      intro hno
      rw [if_neg hno] at hk
      simp only [s_X9_toldOfOne_0, s_X9_toldOfOne_1, s_X9_toldOfOne_3, s_X9_toldOfOne_6, s_X9_toldOfOne_7, s_X9_toldOfOne_9, s_X9_toldOfOne_10, s_X9_toldOfOne_13, s_X9_toldOfOne_16, s_X9_toldOfOne_17, s_X9_toldOfOne_20, s_X9_toldOfOne_21, s_X9_toldOfOne_24, s_X9_toldOfOne_27, s_X9_toldOfOne_28, s_X9_toldOfOne_30, s_X9_toldOfOne_31, s_X9_toldOfOne_32, s_X9_toldOfOne_33, s_X9_toldOfOne_34, s_X9_toldOfOne_36, s_X9_toldOfOne_39, s_X9_toldOfOne_40, s_X9_toldOfOne_42, s_X9_toldOfOne_43, s_X9_toldOfOne_46, s_X9_toldOfOne_49, s_X9_toldOfOne_50, s_X9_toldOfOne_53, s_X9_toldOfOne_54, s_X9_toldOfOne_57, s_X9_toldOfOne_60, s_X9_toldOfOne_61, s_X9_toldOfOne_63, s_X9_toldOfOne_64, s_X9_toldOfOne_65, s_X9_toldOfOne_66, s_X9_toldOfOne_68, gl0 h0, gt0 htt (show 1 < 70 by decide), gt4 htt (show 1 < 70 by decide), nI_add, h20]
      refine ⟨fun q => ?_, fun q => ⟨fun q2 => ?_, fun q2 => ?_⟩⟩
      · rw [if_neg (fun r => absurd r.1 (Int32.not_le.mpr q))] at hk
        simp only [Option.toList_some, Option.toList_none, List.cons_append, List.nil_append, Option.toList, s_X9_told_0, s_X9_told_1, s_X9_told_36, s_X9_told_37, s_X9_told_40, s_X9_told_41, s_X9_told_42, s_X9_told_45, s_X9_told_48, s_X9_told_49, s_X9_told_50, s_X9_told_53, s_X9_told_56, s_X9_told_57, s_X9_told_58, s_X9_told_61, s_X9_told_64, s_X9_told_65, s_X9_told_66, s_X9_told_69, s_X9_told_72, s_X9_told_73, s_X9_told_74, s_X9_told_75, s_X9_told_78]
        exact hk
      · rw [if_neg (fun r => q2 r.2)] at hk
        simp only [Option.toList_some, Option.toList_none, List.cons_append, List.nil_append, Option.toList, s_X9_told_0, s_X9_told_1, s_X9_told_36, s_X9_told_37, s_X9_told_40, s_X9_told_41, s_X9_told_42, s_X9_told_45, s_X9_told_48, s_X9_told_49, s_X9_told_50, s_X9_told_53, s_X9_told_56, s_X9_told_57, s_X9_told_58, s_X9_told_61, s_X9_told_64, s_X9_told_65, s_X9_told_66, s_X9_told_69, s_X9_told_72, s_X9_told_73, s_X9_told_74, s_X9_told_75, s_X9_told_78]
        exact hk
      · have hyes : inR 20 (19 + n) x := ⟨Int32.not_lt.mp q, Decidable.not_not.mp q2⟩
        rw [if_pos hyes] at hk
        obtain ⟨a, ha1, ha2, rfl⟩ := inR_nI hyes (by decide) (by omega)
        rw [nI_c (by omega)] at hk
        simp only [sI_sub (show 20 ≤ a by omega), ai_i ht.2.2.1 (show 1 + 2 < 70 by decide) (show a - 20 < 6 by omega) (by decide), s_X9_toldOfOne_0, s_X9_toldOfOne_1, s_X9_toldOfOne_3, s_X9_toldOfOne_6, s_X9_toldOfOne_7, s_X9_toldOfOne_9, s_X9_toldOfOne_10, s_X9_toldOfOne_13, s_X9_toldOfOne_16, s_X9_toldOfOne_17, s_X9_toldOfOne_20, s_X9_toldOfOne_21, s_X9_toldOfOne_24, s_X9_toldOfOne_27, s_X9_toldOfOne_28, s_X9_toldOfOne_30, s_X9_toldOfOne_31, s_X9_toldOfOne_32, s_X9_toldOfOne_33, s_X9_toldOfOne_34, s_X9_toldOfOne_36, s_X9_toldOfOne_39, s_X9_toldOfOne_40, s_X9_toldOfOne_42, s_X9_toldOfOne_43, s_X9_toldOfOne_46, s_X9_toldOfOne_49, s_X9_toldOfOne_50, s_X9_toldOfOne_53, s_X9_toldOfOne_54, s_X9_toldOfOne_57, s_X9_toldOfOne_60, s_X9_toldOfOne_61, s_X9_toldOfOne_63, s_X9_toldOfOne_64, s_X9_toldOfOne_65, s_X9_toldOfOne_66, s_X9_toldOfOne_68, Option.toList_some, Option.toList_none, List.cons_append, List.nil_append, Option.toList, s_X9_told_0, s_X9_told_1, s_X9_told_36, s_X9_told_37, s_X9_told_40, s_X9_told_41, s_X9_told_42, s_X9_told_45, s_X9_told_48, s_X9_told_49, s_X9_told_50, s_X9_told_53, s_X9_told_56, s_X9_told_57, s_X9_told_58, s_X9_told_61, s_X9_told_64, s_X9_told_65, s_X9_told_66, s_X9_told_69, s_X9_told_72, s_X9_told_73, s_X9_told_74, s_X9_told_75, s_X9_told_78]
        exact hk
    simp only [s_X9_toldOfOne_0, s_X9_toldOfOne_1, s_X9_toldOfOne_3, s_X9_toldOfOne_6, s_X9_toldOfOne_7, s_X9_toldOfOne_9, s_X9_toldOfOne_10, s_X9_toldOfOne_13, s_X9_toldOfOne_16, s_X9_toldOfOne_17, s_X9_toldOfOne_20, s_X9_toldOfOne_21, s_X9_toldOfOne_24, s_X9_toldOfOne_27, s_X9_toldOfOne_28, s_X9_toldOfOne_30, s_X9_toldOfOne_31, s_X9_toldOfOne_32, s_X9_toldOfOne_34, s_X9_toldOfOne_36, s_X9_toldOfOne_39, s_X9_toldOfOne_40, s_X9_toldOfOne_42, s_X9_toldOfOne_43, s_X9_toldOfOne_46, s_X9_toldOfOne_49, s_X9_toldOfOne_50, s_X9_toldOfOne_53, s_X9_toldOfOne_54, s_X9_toldOfOne_57, s_X9_toldOfOne_60, s_X9_toldOfOne_61, s_X9_toldOfOne_63, s_X9_toldOfOne_64, s_X9_toldOfOne_65, s_X9_toldOfOne_66, s_X9_toldOfOne_68, gl0 h0, gt1 htt (show 1 < 70 by decide), gt3 htt (show 1 < 70 by decide), nI_add, h10]
    refine ⟨fun q => p2 (fun r => q r.1), fun q => ⟨fun q2 => p2 (fun r => absurd r.2 (Int32.not_le.mpr q2)), fun q2 => ?_⟩⟩
    have hyes : inR 11 (10 + m) x := ⟨Decidable.not_not.mp q, Int32.not_lt.mp q2⟩
    rw [if_pos hyes] at hk
    obtain ⟨a, ha1, ha2, rfl⟩ := inR_nI hyes (by decide) (by omega)
    rw [nI_c (by omega)] at hk
    simp only [sI_sub (show 10 ≤ a by omega), ai_i ht.2.1 (show 1 + 1 < 70 by decide) (show a - 10 < 7 by omega) (by decide), s_X9_toldOfOne_0, s_X9_toldOfOne_1, s_X9_toldOfOne_3, s_X9_toldOfOne_6, s_X9_toldOfOne_7, s_X9_toldOfOne_9, s_X9_toldOfOne_10, s_X9_toldOfOne_13, s_X9_toldOfOne_16, s_X9_toldOfOne_17, s_X9_toldOfOne_20, s_X9_toldOfOne_21, s_X9_toldOfOne_24, s_X9_toldOfOne_27, s_X9_toldOfOne_28, s_X9_toldOfOne_30, s_X9_toldOfOne_31, s_X9_toldOfOne_32, s_X9_toldOfOne_34, s_X9_toldOfOne_36, s_X9_toldOfOne_39, s_X9_toldOfOne_40, s_X9_toldOfOne_42, s_X9_toldOfOne_43, s_X9_toldOfOne_46, s_X9_toldOfOne_49, s_X9_toldOfOne_50, s_X9_toldOfOne_53, s_X9_toldOfOne_54, s_X9_toldOfOne_57, s_X9_toldOfOne_60, s_X9_toldOfOne_61, s_X9_toldOfOne_63, s_X9_toldOfOne_64, s_X9_toldOfOne_65, s_X9_toldOfOne_66, s_X9_toldOfOne_68, Option.toList_some, Option.toList_none, List.cons_append, List.nil_append, Option.toList, s_X9_told_0, s_X9_told_1, s_X9_told_36, s_X9_told_37, s_X9_told_40, s_X9_told_41, s_X9_told_42, s_X9_told_45, s_X9_told_48, s_X9_told_49, s_X9_told_50, s_X9_told_53, s_X9_told_56, s_X9_told_57, s_X9_told_58, s_X9_told_61, s_X9_told_64, s_X9_told_65, s_X9_told_66, s_X9_told_69, s_X9_told_72, s_X9_told_73, s_X9_told_74, s_X9_told_75, s_X9_told_78]
    exact hk
end CY
