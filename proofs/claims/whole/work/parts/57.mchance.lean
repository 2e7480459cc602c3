/-! ===== the model: chances ===== -/
theorem sc_tm (v : Nat) : scF v * tmF v = 2 := by unfold scF tmF; split <;> rfl
theorem fr_sc {v g P : Nat} {z : Int32} : frF (scF v * g) (2 * P) z = frF g (P * tmF v) z := by
  rw [← sc_tm v, show scF v * tmF v * P = scF v * (P * tmF v) by rw [Nat.mul_assoc, Nat.mul_comm (tmF v)], frF_sc (by have := sc_le v; omega)]
theorem lw2 {W k : Nat} (hW : 1 ≤ W ∧ W ≤ 12) (hk : k ≤ 7) : 2 * W ^ k < 2 ^ 62 ∧ 0 < 2 * W ^ k ∧ W ^ k < 2 ^ 61 ∧ 0 < W ^ k := by
  have h1 := low_lt hW.2 hk (show 2 ≤ 2 by omega)
  have h2 := Nat.pow_pos (n := k) (show 0 < W by omega)
  omega
section MN
variable {ro : rQ} {d : Nat} {R : rR} {c c' c0 c1 c2 : Nat → rE} {n m v si sg k t : Nat} {w fo w' : Nat → Nat} {st pd b : Nat → Int32} {im : Nat → Option TS} {x y z : Int32}
theorem mSC.mt (h : mSC c) (hf : frm [53, 58, 59, 60, 61] c c') (hM : MT c' m v k w b) : mSC c' := ⟨hM.2.1, hM.2.2.2.1.ty, hM.2.2.1, hM.2.2.2.2.ty, h.2.2.2.2.1.fr hf rfl, h.2.2.2.2.2.1.fr hf rfl, h.2.2.2.2.2.2.1.fr hf rfl, h.2.2.2.2.2.2.2.1.fr hf rfl, h.2.2.2.2.2.2.2.2.1.fr hf rfl, h.2.2.2.2.2.2.2.2.2.fr hf rfl⟩
/-- the model, its base, fill and weights laid -/
def LD (c0 c : Nat → rE) (n m v si sg k : Nat) (w : Nat → Nat) (b : Nat → Int32) : Prop := frm [53, 58, 59, 60, 61] c0 c ∧ (∃ fr ru lu, c 53 = mobj (nI n) (nI m) (nI v) (nI si) (nI sg) fr ru lu) ∧ MT c m v k w b
theorem LD.go (h : LD c0 c1 n m v si sg k w b) (hf : frm [58, 59, 60] c1 c2) (hM : MT c2 m v k w b) : LD c0 c2 n m v si sg k w b := ⟨h.1.trans (hf.mono rfl), h.2.1.elim fun fr h => h.elim fun ru h => h.elim fun lu h => ⟨fr, ru, lu, (hf 53 rfl).trans h⟩, hM⟩
theorem LD.mm (h : LD c0 c1 n m v si sg k w b) : frm MM c0 c1 := h.1.mono rfl
theorem LD.ms (h : LD c0 c1 n m v si sg k w' b) (hM : MS c0 (n, m, v, w, fo, si, st) sg pd im) : MS c1 (n, m, v, w, fo, si, st) sg pd im := hM.sc (h.1.mono rfl) h.2.1 (hM.2.1.mt h.1 h.2.2)
theorem ml_lay (hV : VS (n, m, v, w, fo, si, st)) (hM : MS c (n, m, v, w, fo, si, st) sg pd im) (hk : ∀ c', LD c c' n m v si sg (oK (n, m, v, w, fo, si, st) x) w (oB (n, m, v, w, fo, si, st) x) → R none (tab c')) : rM ro (d + 2) 126 0 0 [.ref 53, .int x] (tab c) R := by
  obtain ⟨⟨⟨fr, ru, lu, h53⟩, h54, h55, h56, h57⟩, hsc, him⟩ := id hM
  have hm := hV.2.1
  refine sp_X10_layOthers h53 hV.1.2 h54 h55 (fun j => by have := hV.2.2.2.2.2.2.2.1 j; omega) hsc.2.1 hsc.2.2.2.1 fun c1 hf1 e53 e59 e61 => ?_
  exact hk c1 ⟨hf1.mono rfl, ⟨_, _, _, e53⟩, ⟨_, _, _, _, _, e53⟩, hsc.1.fr hf1 rfl, hsc.2.2.1.fr hf1 rfl, e59, e61⟩
theorem ml_worth (hV : VS (n, m, v, w, fo, si, st)) (hM : MS c (n, m, v, w, fo, si, st) sg pd im) (hk : ∀ c', frm MM c c' → MS c' (n, m, v, w, fo, si, st) sg pd im → R (some (.long (worA (n, m, v, w, fo, si, st) x y z))) (tab c')) : rM ro (d + 6) 129 0 0 [.ref 53, .int x, .int y, .int z] (tab c) R := by
  obtain ⟨⟨⟨fr, ru, lu, h53⟩, h54, h55, h56, h57⟩, hsc, him⟩ := id hM
  have hn := hV.1
  have hm := hV.2.1
  have hW := hV.2.2.2.2.2.2.1
  have hko := oK_le (T := (n, m, v, w, fo, si, st)) (x := x) hn.2
  have hvt := hV.vt hko
  have no : ¬ (inR 0 (n - 1) x ∧ inR 1 m y) → R (some (.long L1)) (tab c) := fun q => by
    have := hk c frm.rf hM
    rw [worA, if_neg q] at this
    exact this
  rw [en_X10_worth]
  simp only [s_X10_worth_0, s_X10_worth_1, s_X10_worth_2, s_X10_worth_5, s_X10_worth_8, s_X10_worth_9, s_X10_worth_10, s_X10_worth_13, s_X10_worth_16, s_X10_worth_19, s_X10_worth_20, s_X10_worth_21, s_X10_worth_22, s_X10_worth_23, s_X10_worth_26, s_X10_worth_29, s_X10_worth_32, s_X10_worth_33, s_X10_worth_34, s_X10_worth_35, s_X10_worth_38, s_X10_worth_39, s_X10_worth_40, s_X10_worth_43, s_X10_worth_44, s_X10_worth_47, s_X10_worth_48, s_X10_worth_51, vm_o h53]
  refine sp_isMan2 h53 (by omega) ?_
  simp only [Option.toList_some, Option.toList_none, List.cons_append, List.nil_append, Option.toList, s_X10_worth_0, s_X10_worth_1, s_X10_worth_2, s_X10_worth_5, s_X10_worth_8, s_X10_worth_9, s_X10_worth_10, s_X10_worth_13, s_X10_worth_16, s_X10_worth_19, s_X10_worth_20, s_X10_worth_21, s_X10_worth_22, s_X10_worth_23, s_X10_worth_26, s_X10_worth_29, s_X10_worth_32, s_X10_worth_33, s_X10_worth_34, s_X10_worth_35, s_X10_worth_38, s_X10_worth_39, s_X10_worth_40, s_X10_worth_43, s_X10_worth_44, s_X10_worth_47, s_X10_worth_48, s_X10_worth_51, vm_o h53, b2_0]
  refine ⟨fun hx => no (fun q => hx q.1), fun hx => sp_isNum2 h53 ?_⟩
  simp only [Option.toList_some, Option.toList_none, List.cons_append, List.nil_append, Option.toList, s_X10_worth_0, s_X10_worth_1, s_X10_worth_2, s_X10_worth_5, s_X10_worth_8, s_X10_worth_9, s_X10_worth_10, s_X10_worth_13, s_X10_worth_16, s_X10_worth_19, s_X10_worth_20, s_X10_worth_21, s_X10_worth_22, s_X10_worth_23, s_X10_worth_26, s_X10_worth_29, s_X10_worth_32, s_X10_worth_33, s_X10_worth_34, s_X10_worth_35, s_X10_worth_38, s_X10_worth_39, s_X10_worth_40, s_X10_worth_43, s_X10_worth_44, s_X10_worth_47, s_X10_worth_48, s_X10_worth_51, b2_0]
  refine ⟨fun hy => no (fun q => hy q.2), fun hy => sp_in2 ?_⟩
  have hx := Decidable.not_not.mp hx
  have hy := Decidable.not_not.mp hy
  simp only [Option.toList_some, Option.toList_none, List.cons_append, List.nil_append, Option.toList, s_X10_worth_0, s_X10_worth_1, s_X10_worth_2, s_X10_worth_5, s_X10_worth_8, s_X10_worth_9, s_X10_worth_10, s_X10_worth_13, s_X10_worth_16, s_X10_worth_19, s_X10_worth_20, s_X10_worth_21, s_X10_worth_22, s_X10_worth_23, s_X10_worth_26, s_X10_worth_29, s_X10_worth_32, s_X10_worth_33, s_X10_worth_34, s_X10_worth_35, s_X10_worth_38, s_X10_worth_39, s_X10_worth_40, s_X10_worth_43, s_X10_worth_44, s_X10_worth_47, s_X10_worth_48, s_X10_worth_51, b2_0, vm_o h53]
  refine ⟨fun hz => ?_, fun hz => ml_lay hV hM fun c1 hL => ?_⟩
  · have := hk c frm.rf hM
    rw [worA, if_pos ⟨hx, hy⟩, if_neg hz] at this
    exact this
  · have hz := Decidable.not_not.mp hz
    obtain ⟨_, _, _, e53⟩ := id hL.2.1
    obtain ⟨b, hb2, hb3, rfl⟩ := inR_nI hy (by decide) (by omega)
    simp only [Option.toList_some, Option.toList_none, List.cons_append, List.nil_append, Option.toList, s_X10_worth_0, s_X10_worth_1, s_X10_worth_2, s_X10_worth_5, s_X10_worth_8, s_X10_worth_9, s_X10_worth_10, s_X10_worth_13, s_X10_worth_16, s_X10_worth_19, s_X10_worth_20, s_X10_worth_21, s_X10_worth_22, s_X10_worth_23, s_X10_worth_26, s_X10_worth_29, s_X10_worth_32, s_X10_worth_33, s_X10_worth_34, s_X10_worth_35, s_X10_worth_38, s_X10_worth_39, s_X10_worth_40, s_X10_worth_43, s_X10_worth_44, s_X10_worth_47, s_X10_worth_48, s_X10_worth_51, vm_o e53]
    refine sp_X10_worthOf hL.2.2 hvt (by omega) fun c2 hf2 hM2 => ?_
    have hL2 := hL.go hf2 hM2
    obtain ⟨_, _, _, e53⟩ := id hL2.2.1
    simp only [Option.toList_some, Option.toList_none, List.cons_append, List.nil_append, Option.toList, s_X10_worth_0, s_X10_worth_1, s_X10_worth_2, s_X10_worth_5, s_X10_worth_8, s_X10_worth_9, s_X10_worth_10, s_X10_worth_13, s_X10_worth_16, s_X10_worth_19, s_X10_worth_20, s_X10_worth_21, s_X10_worth_22, s_X10_worth_23, s_X10_worth_26, s_X10_worth_29, s_X10_worth_32, s_X10_worth_33, s_X10_worth_34, s_X10_worth_35, s_X10_worth_38, s_X10_worth_39, s_X10_worth_40, s_X10_worth_43, s_X10_worth_44, s_X10_worth_47, s_X10_worth_48, s_X10_worth_51, vm_o e53]
    refine sp_X10_lowOf hM2 hvt ?_
    simp only [Option.toList_some, Option.toList_none, List.cons_append, List.nil_append, Option.toList, s_X10_worth_0, s_X10_worth_1, s_X10_worth_2, s_X10_worth_5, s_X10_worth_8, s_X10_worth_9, s_X10_worth_10, s_X10_worth_13, s_X10_worth_16, s_X10_worth_19, s_X10_worth_20, s_X10_worth_21, s_X10_worth_22, s_X10_worth_23, s_X10_worth_26, s_X10_worth_29, s_X10_worth_32, s_X10_worth_33, s_X10_worth_34, s_X10_worth_35, s_X10_worth_38, s_X10_worth_39, s_X10_worth_40, s_X10_worth_43, s_X10_worth_44, s_X10_worth_47, s_X10_worth_48, s_X10_worth_51]
    have hl := lw2 hW (show oK (n, m, v, w, fo, si, st) x ≤ 7 by omega)
    have hg := gn_le (x := b) (b := oB (n, m, v, w, fo, si, st) x) hvt
    have hs := sc_le v
    refine sp_X10_term (by have := Nat.mul_le_mul hs.2 hg; omega) hl.1 hl.2.1 ?_
    simp only [Option.toList_some, Option.toList_none, List.cons_append, List.nil_append, Option.toList, s_X10_worth_0, s_X10_worth_1, s_X10_worth_2, s_X10_worth_5, s_X10_worth_8, s_X10_worth_9, s_X10_worth_10, s_X10_worth_13, s_X10_worth_16, s_X10_worth_19, s_X10_worth_20, s_X10_worth_21, s_X10_worth_22, s_X10_worth_23, s_X10_worth_26, s_X10_worth_29, s_X10_worth_32, s_X10_worth_33, s_X10_worth_34, s_X10_worth_35, s_X10_worth_38, s_X10_worth_39, s_X10_worth_40, s_X10_worth_43, s_X10_worth_44, s_X10_worth_47, s_X10_worth_48, s_X10_worth_51]
    have := hk c2 hL2.mm (hL2.ms hM)
    rw [worA, if_pos ⟨hx, hy⟩, if_pos hz, nI_c (show b < 100000 by omega), ← fr_sc] at this
    exact this
theorem ml_best (hV : VS (n, m, v, w, fo, si, st)) (hM : MS c (n, m, v, w, fo, si, st) sg pd im) (hk : ∀ c', frm MM c c' → MS c' (n, m, v, w, fo, si, st) sg pd im → R (some (.int (besA (n, m, v, w, fo, si, st) x))) (tab c')) : rM ro (d + 6) 131 0 0 [.ref 53, .int x] (tab c) R := by
  obtain ⟨⟨⟨fr, ru, lu, h53⟩, h54, h55, h56, h57⟩, hsc, him⟩ := id hM
  have hn := hV.1
  have hko := oK_le (T := (n, m, v, w, fo, si, st)) (x := x) hn.2
  rw [en_X10_best]
  simp only [s_X10_best_0, s_X10_best_1, s_X10_best_2, s_X10_best_5, s_X10_best_8, s_X10_best_9, s_X10_best_10, s_X10_best_11, s_X10_best_12, s_X10_best_15, s_X10_best_16, s_X10_best_19, vm_o h53]
  refine sp_isMan2 h53 (by omega) ?_
  simp only [Option.toList_some, Option.toList_none, List.cons_append, List.nil_append, Option.toList, s_X10_best_0, s_X10_best_1, s_X10_best_2, s_X10_best_5, s_X10_best_8, s_X10_best_9, s_X10_best_10, s_X10_best_11, s_X10_best_12, s_X10_best_15, s_X10_best_16, s_X10_best_19, vm_o h53, b2_0]
  refine ⟨fun hx => ?_, fun hx => ml_lay hV hM fun c1 hL => ?_⟩
  · have := hk c frm.rf hM
    rw [besA, if_neg hx] at this
    exact this
  · have hx := Decidable.not_not.mp hx
    obtain ⟨_, _, _, e53⟩ := id hL.2.1
    simp only [Option.toList_some, Option.toList_none, List.cons_append, List.nil_append, Option.toList, s_X10_best_0, s_X10_best_1, s_X10_best_2, s_X10_best_5, s_X10_best_8, s_X10_best_9, s_X10_best_10, s_X10_best_11, s_X10_best_12, s_X10_best_15, s_X10_best_16, s_X10_best_19, vm_o e53]
    refine sp_X10_bestOf hL.2.2 (hV.vt hko) fun c2 hf2 hM2 => ?_
    have hL2 := hL.go hf2 hM2
    simp only [Option.toList_some, Option.toList_none, List.cons_append, List.nil_append, Option.toList, s_X10_best_0, s_X10_best_1, s_X10_best_2, s_X10_best_5, s_X10_best_8, s_X10_best_9, s_X10_best_10, s_X10_best_11, s_X10_best_12, s_X10_best_15, s_X10_best_16, s_X10_best_19]
    have := hk c2 hL2.mm (hL2.ms hM)
    rw [besA, if_pos hx] at this
    exact this
theorem ml_mean (hV : VS (n, m, v, w, fo, si, st)) (hM : MS c (n, m, v, w, fo, si, st) sg pd im) (hk : ∀ c', frm MM c c' → MS c' (n, m, v, w, fo, si, st) sg pd im → R (some (.long (meaA (n, m, v, w, fo, si, st) x y z))) (tab c')) : rM ro (d + 8) 134 0 0 [.ref 53, .int x, .int y, .int z] (tab c) R := by
  obtain ⟨⟨⟨fr, ru, lu, h53⟩, h54, h55, h56, h57⟩, hsc, him⟩ := id hM
  have hn := hV.1
  have hm := hV.2.1
  have hW := hV.2.2.2.2.2.2.1
  have hko := oK_le (T := (n, m, v, w, fo, si, st)) (x := x) hn.2
  have hvt := hV.vt hko
  rw [en_X10_mean]
  simp only [s_X10_mean_0, s_X10_mean_1, s_X10_mean_2, s_X10_mean_5, s_X10_mean_8, s_X10_mean_11, s_X10_mean_12, s_X10_mean_13, s_X10_mean_14, s_X10_mean_15, s_X10_mean_18, s_X10_mean_21, s_X10_mean_22, s_X10_mean_23, s_X10_mean_24, s_X10_mean_27, s_X10_mean_30, s_X10_mean_33, s_X10_mean_34, s_X10_mean_35, s_X10_mean_36, s_X10_mean_39, s_X10_mean_40, s_X10_mean_43, s_X10_mean_44, s_X10_mean_47, s_X10_mean_50, s_X10_mean_51, s_X10_mean_54, s_X10_mean_55, s_X10_mean_58, s_X10_mean_59, s_X10_mean_62, s_X10_mean_63, s_X10_mean_64, s_X10_mean_65, s_X10_mean_68, vm_o h53]
  refine sp_isMan2 h53 (by omega) ?_
  simp only [Option.toList_some, Option.toList_none, List.cons_append, List.nil_append, Option.toList, s_X10_mean_0, s_X10_mean_1, s_X10_mean_2, s_X10_mean_5, s_X10_mean_8, s_X10_mean_11, s_X10_mean_12, s_X10_mean_13, s_X10_mean_14, s_X10_mean_15, s_X10_mean_18, s_X10_mean_21, s_X10_mean_22, s_X10_mean_23, s_X10_mean_24, s_X10_mean_27, s_X10_mean_30, s_X10_mean_33, s_X10_mean_34, s_X10_mean_35, s_X10_mean_36, s_X10_mean_39, s_X10_mean_40, s_X10_mean_43, s_X10_mean_44, s_X10_mean_47, s_X10_mean_50, s_X10_mean_51, s_X10_mean_54, s_X10_mean_55, s_X10_mean_58, s_X10_mean_59, s_X10_mean_62, s_X10_mean_63, s_X10_mean_64, s_X10_mean_65, s_X10_mean_68, b2_0]
  refine ⟨fun hx => ?_, fun hx => sp_in2 ?_⟩
  · have := hk c frm.rf hM
    rw [meaA, if_neg hx] at this
    exact this
  have hx := Decidable.not_not.mp hx
  have no : ¬ (inR 0 1 y ∧ inR 0 1 z) → R (some (.long L2)) (tab c) := fun q => by
    have := hk c frm.rf hM
    rw [meaA, if_pos hx, if_neg q] at this
    exact this
  simp only [Option.toList_some, Option.toList_none, List.cons_append, List.nil_append, Option.toList, s_X10_mean_0, s_X10_mean_1, s_X10_mean_2, s_X10_mean_5, s_X10_mean_8, s_X10_mean_11, s_X10_mean_12, s_X10_mean_13, s_X10_mean_14, s_X10_mean_15, s_X10_mean_18, s_X10_mean_21, s_X10_mean_22, s_X10_mean_23, s_X10_mean_24, s_X10_mean_27, s_X10_mean_30, s_X10_mean_33, s_X10_mean_34, s_X10_mean_35, s_X10_mean_36, s_X10_mean_39, s_X10_mean_40, s_X10_mean_43, s_X10_mean_44, s_X10_mean_47, s_X10_mean_50, s_X10_mean_51, s_X10_mean_54, s_X10_mean_55, s_X10_mean_58, s_X10_mean_59, s_X10_mean_62, s_X10_mean_63, s_X10_mean_64, s_X10_mean_65, s_X10_mean_68, b2_0]
  refine ⟨fun hy => no (fun q => hy q.1), fun hy => sp_in2 ?_⟩
  simp only [Option.toList_some, Option.toList_none, List.cons_append, List.nil_append, Option.toList, s_X10_mean_0, s_X10_mean_1, s_X10_mean_2, s_X10_mean_5, s_X10_mean_8, s_X10_mean_11, s_X10_mean_12, s_X10_mean_13, s_X10_mean_14, s_X10_mean_15, s_X10_mean_18, s_X10_mean_21, s_X10_mean_22, s_X10_mean_23, s_X10_mean_24, s_X10_mean_27, s_X10_mean_30, s_X10_mean_33, s_X10_mean_34, s_X10_mean_35, s_X10_mean_36, s_X10_mean_39, s_X10_mean_40, s_X10_mean_43, s_X10_mean_44, s_X10_mean_47, s_X10_mean_50, s_X10_mean_51, s_X10_mean_54, s_X10_mean_55, s_X10_mean_58, s_X10_mean_59, s_X10_mean_62, s_X10_mean_63, s_X10_mean_64, s_X10_mean_65, s_X10_mean_68, b2_0, vm_o h53]
  refine ⟨fun hz => no (fun q => hz q.2), fun hz => ml_lay hV hM fun c1 hL => ?_⟩
  have hy := Decidable.not_not.mp hy
  have hz := Decidable.not_not.mp hz
  have hl := lw2 hW (show oK (n, m, v, w, fo, si, st) x + 1 ≤ 7 by omega)
  have hg := gn_le (x := topF (gnF w v m (oK (n, m, v, w, fo, si, st) x) (oB (n, m, v, w, fo, si, st) x)) m) (b := oB (n, m, v, w, fo, si, st) x) hvt
  have hml := mn_le (w := w) (v := v) (m := m) (k := oK (n, m, v, w, fo, si, st) x) (b := oB (n, m, v, w, fo, si, st) x)
  have hs := sc_le v
  have hWg := Nat.mul_le_mul hW.2 hg
  have fin : ∀ c2 U, LD c c2 n m v si sg (oK (n, m, v, w, fo, si, st) x) w (oB (n, m, v, w, fo, si, st) x) → U ≤ 12 * 2985984 → U = (if y = 0 then smF (fun j => w j * gT (n, m, v, w, fo, si, st) (oK (n, m, v, w, fo, si, st) x) (oB (n, m, v, w, fo, si, st) x) j) m 1 else gpF w v m (oK (n, m, v, w, fo, si, st) x) (oB (n, m, v, w, fo, si, st) x)) → rU ro (d + 7) tb_X10_mean R 54 [.ref 53, .int x, .int y, .int z] [.long (lN (scF v * U))] (tab c2) := by
    intro c2 U hL2 hU hUe
    obtain ⟨_, _, _, e53⟩ := id hL2.2.1
    simp only [s_X10_mean_0, s_X10_mean_1, s_X10_mean_2, s_X10_mean_5, s_X10_mean_8, s_X10_mean_11, s_X10_mean_12, s_X10_mean_13, s_X10_mean_14, s_X10_mean_15, s_X10_mean_18, s_X10_mean_21, s_X10_mean_22, s_X10_mean_23, s_X10_mean_24, s_X10_mean_27, s_X10_mean_30, s_X10_mean_33, s_X10_mean_34, s_X10_mean_35, s_X10_mean_36, s_X10_mean_39, s_X10_mean_40, s_X10_mean_43, s_X10_mean_44, s_X10_mean_47, s_X10_mean_50, s_X10_mean_51, s_X10_mean_54, s_X10_mean_55, s_X10_mean_58, s_X10_mean_59, s_X10_mean_62, s_X10_mean_63, s_X10_mean_64, s_X10_mean_65, s_X10_mean_68, vm_o e53]
    refine sp_X10_lowOf hL2.2.2 hvt ?_
    simp only [Option.toList_some, Option.toList_none, List.cons_append, List.nil_append, Option.toList, s_X10_mean_0, s_X10_mean_1, s_X10_mean_2, s_X10_mean_5, s_X10_mean_8, s_X10_mean_11, s_X10_mean_12, s_X10_mean_13, s_X10_mean_14, s_X10_mean_15, s_X10_mean_18, s_X10_mean_21, s_X10_mean_22, s_X10_mean_23, s_X10_mean_24, s_X10_mean_27, s_X10_mean_30, s_X10_mean_33, s_X10_mean_34, s_X10_mean_35, s_X10_mean_36, s_X10_mean_39, s_X10_mean_40, s_X10_mean_43, s_X10_mean_44, s_X10_mean_47, s_X10_mean_50, s_X10_mean_51, s_X10_mean_54, s_X10_mean_55, s_X10_mean_58, s_X10_mean_59, s_X10_mean_62, s_X10_mean_63, s_X10_mean_64, s_X10_mean_65, s_X10_mean_68, vm_o e53]
    refine sp_X10_sumOfWeights e53 hm.2 hL2.2.2.2.2.2.2 ?_
    simp only [Option.toList_some, Option.toList_none, List.cons_append, List.nil_append, Option.toList, s_X10_mean_0, s_X10_mean_1, s_X10_mean_2, s_X10_mean_5, s_X10_mean_8, s_X10_mean_11, s_X10_mean_12, s_X10_mean_13, s_X10_mean_14, s_X10_mean_15, s_X10_mean_18, s_X10_mean_21, s_X10_mean_22, s_X10_mean_23, s_X10_mean_24, s_X10_mean_27, s_X10_mean_30, s_X10_mean_33, s_X10_mean_34, s_X10_mean_35, s_X10_mean_36, s_X10_mean_39, s_X10_mean_40, s_X10_mean_43, s_X10_mean_44, s_X10_mean_47, s_X10_mean_50, s_X10_mean_51, s_X10_mean_54, s_X10_mean_55, s_X10_mean_58, s_X10_mean_59, s_X10_mean_62, s_X10_mean_63, s_X10_mean_64, s_X10_mean_65, s_X10_mean_68, nI_l (show smF w m 1 < 2 ^ 31 by omega), lN_mul]
    rw [show 2 * smF w m 1 ^ oK (n, m, v, w, fo, si, st) x * smF w m 1 = 2 * smF w m 1 ^ (oK (n, m, v, w, fo, si, st) x + 1) by rw [Nat.pow_succ, Nat.mul_assoc]]
    refine sp_X10_term (by have := Nat.mul_le_mul hs.2 hU; omega) hl.1 hl.2.1 ?_
    simp only [Option.toList_some, Option.toList_none, List.cons_append, List.nil_append, Option.toList, s_X10_mean_0, s_X10_mean_1, s_X10_mean_2, s_X10_mean_5, s_X10_mean_8, s_X10_mean_11, s_X10_mean_12, s_X10_mean_13, s_X10_mean_14, s_X10_mean_15, s_X10_mean_18, s_X10_mean_21, s_X10_mean_22, s_X10_mean_23, s_X10_mean_24, s_X10_mean_27, s_X10_mean_30, s_X10_mean_33, s_X10_mean_34, s_X10_mean_35, s_X10_mean_36, s_X10_mean_39, s_X10_mean_40, s_X10_mean_43, s_X10_mean_44, s_X10_mean_47, s_X10_mean_50, s_X10_mean_51, s_X10_mean_54, s_X10_mean_55, s_X10_mean_58, s_X10_mean_59, s_X10_mean_62, s_X10_mean_63, s_X10_mean_64, s_X10_mean_65, s_X10_mean_68]
    have := hk c2 hL2.mm (hL2.ms hM)
    rw [meaA, if_pos hx, if_pos ⟨hy, hz⟩, ← fr_sc, ← hUe] at this
    exact this
  obtain ⟨_, _, _, e53⟩ := id hL.2.1
  simp only [Option.toList_some, Option.toList_none, List.cons_append, List.nil_append, Option.toList, s_X10_mean_0, s_X10_mean_1, s_X10_mean_2, s_X10_mean_5, s_X10_mean_8, s_X10_mean_11, s_X10_mean_12, s_X10_mean_13, s_X10_mean_14, s_X10_mean_15, s_X10_mean_18, s_X10_mean_21, s_X10_mean_22, s_X10_mean_23, s_X10_mean_24, s_X10_mean_27, s_X10_mean_30, s_X10_mean_33, s_X10_mean_34, s_X10_mean_35, s_X10_mean_36, s_X10_mean_39, s_X10_mean_40, s_X10_mean_43, s_X10_mean_44, s_X10_mean_47, s_X10_mean_50, s_X10_mean_51, s_X10_mean_55, s_X10_mean_58, s_X10_mean_59, s_X10_mean_62, s_X10_mean_63, s_X10_mean_64, s_X10_mean_65, s_X10_mean_68, vm_o e53]
  refine ⟨fun hy0 => ?_, fun hy0 => ?_⟩
  · refine sp_X10_meanOf hL.2.2 hvt fun c2 hf2 hM2 => ?_
    simp only [Option.toList_some, Option.toList_none, List.cons_append, List.nil_append, Option.toList, s_X10_mean_0, s_X10_mean_1, s_X10_mean_2, s_X10_mean_5, s_X10_mean_8, s_X10_mean_11, s_X10_mean_12, s_X10_mean_13, s_X10_mean_14, s_X10_mean_15, s_X10_mean_18, s_X10_mean_21, s_X10_mean_22, s_X10_mean_23, s_X10_mean_24, s_X10_mean_27, s_X10_mean_30, s_X10_mean_33, s_X10_mean_34, s_X10_mean_35, s_X10_mean_36, s_X10_mean_39, s_X10_mean_40, s_X10_mean_43, s_X10_mean_44, s_X10_mean_47, s_X10_mean_50, s_X10_mean_51, s_X10_mean_55, s_X10_mean_58, s_X10_mean_59, s_X10_mean_62, s_X10_mean_63, s_X10_mean_64, s_X10_mean_65, s_X10_mean_68, mn_sc]
    exact fin c2 _ (hL.go hf2 hM2) (by omega) (by rw [if_pos hy0]; rfl)
  · refine sp_X10_gapOf hL.2.2 hvt fun c2 hf2 hM2 => ?_
    simp only [Option.toList_some, Option.toList_none, List.cons_append, List.nil_append, Option.toList, s_X10_mean_0, s_X10_mean_1, s_X10_mean_2, s_X10_mean_5, s_X10_mean_8, s_X10_mean_11, s_X10_mean_12, s_X10_mean_13, s_X10_mean_14, s_X10_mean_15, s_X10_mean_18, s_X10_mean_21, s_X10_mean_22, s_X10_mean_23, s_X10_mean_24, s_X10_mean_27, s_X10_mean_30, s_X10_mean_33, s_X10_mean_34, s_X10_mean_35, s_X10_mean_36, s_X10_mean_39, s_X10_mean_40, s_X10_mean_43, s_X10_mean_44, s_X10_mean_47, s_X10_mean_50, s_X10_mean_51, s_X10_mean_55, s_X10_mean_58, s_X10_mean_59, s_X10_mean_62, s_X10_mean_63, s_X10_mean_64, s_X10_mean_65, s_X10_mean_68]
    exact fin c2 _ (hL.go hf2 hM2) (by unfold gpF; omega) (by rw [if_neg hy0])
theorem sp_X10_layTold (hV : VS (n, m, v, w, fo, si, st)) (hp : ∀ j, j < n → slp m (pd j)) (hM : MS c (n, m, v, w, fo, si, st) sg pd im) (hk : ∀ c', LD c c' n m v si sg (pK (n, m, v, w, fo, si, st) pd x) w (pB (n, m, v, w, fo, si, st) pd x) → R none (tab c')) : rM ro (d + 2) 147 0 0 [.ref 53, .int x] (tab c) R := by
  obtain ⟨⟨⟨fr, ru, lu, h53⟩, h54, h55, h56, h57⟩, hsc, him⟩ := id hM
  have hn := hV.1
  have hm := hV.2.1
  rw [en_X10_layTold]
  simp only [s_X10_layTold_0, s_X10_layTold_1, s_X10_layTold_4, s_X10_layTold_5, s_X10_layTold_6, s_X10_layTold_9, s_X10_layTold_10, s_X10_layTold_12, s_X10_layTold_14, s_X10_layTold_17, s_X10_layTold_18, s_X10_layTold_21, s_X10_layTold_22, s_X10_layTold_23, s_X10_layTold_24, s_X10_layTold_27, s_X10_layTold_30, s_X10_layTold_31, s_X10_layTold_33, s_X10_layTold_34, s_X10_layTold_37, s_X10_layTold_40, s_X10_layTold_41, s_X10_layTold_42, s_X10_layTold_45, s_X10_layTold_46, s_X10_layTold_49, s_X10_layTold_50, s_X10_layTold_51, s_X10_layTold_53, s_X10_layTold_54, s_X10_layTold_55, s_X10_layTold_56, s_X10_layTold_57, s_X10_layTold_60, s_X10_layTold_61, s_X10_layTold_64, s_X10_layTold_65, s_X10_layTold_66, s_X10_layTold_68, s_X10_layTold_71, s_X10_layTold_72, s_X10_layTold_75, s_X10_layTold_76, s_X10_layTold_77, s_X10_layTold_80, s_X10_layTold_81, s_X10_layTold_84, s_X10_layTold_85, s_X10_layTold_88, s_X10_layTold_89, s_X10_layTold_90, s_X10_layTold_92, s_X10_layTold_95, s_X10_layTold_96, s_X10_layTold_99, s_X10_layTold_100, s_X10_layTold_101, s_X10_layTold_102, s_X10_layTold_103, s_X10_layTold_106, s_X10_layTold_107, s_X10_layTold_108, s_X10_layTold_110, s_X10_layTold_113, s_X10_layTold_114, s_X10_layTold_117, s_X10_layTold_118, s_X10_layTold_121, s_X10_layTold_122, s_X10_layTold_123, s_X10_layTold_124, s_X10_layTold_127, s_X10_layTold_130, vm_o h53]
  refine sp_X10_asWeights h53 h54 hsc.2.2.2.1 fun c1 f1 hi1 => ?_
  have e53 := (f1 53 rfl).trans h53
  simp only [Option.toList_some, Option.toList_none, List.cons_append, List.nil_append, Option.toList, s_X10_layTold_0, s_X10_layTold_1, s_X10_layTold_4, s_X10_layTold_5, s_X10_layTold_6, s_X10_layTold_9, s_X10_layTold_10, s_X10_layTold_12, s_X10_layTold_14, s_X10_layTold_17, s_X10_layTold_18, s_X10_layTold_21, s_X10_layTold_22, s_X10_layTold_23, s_X10_layTold_24, s_X10_layTold_27, s_X10_layTold_30, s_X10_layTold_31, s_X10_layTold_33, s_X10_layTold_34, s_X10_layTold_37, s_X10_layTold_40, s_X10_layTold_41, s_X10_layTold_42, s_X10_layTold_45, s_X10_layTold_46, s_X10_layTold_49, s_X10_layTold_50, s_X10_layTold_51, s_X10_layTold_53, s_X10_layTold_54, s_X10_layTold_55, s_X10_layTold_56, s_X10_layTold_57, s_X10_layTold_60, s_X10_layTold_61, s_X10_layTold_64, s_X10_layTold_65, s_X10_layTold_66, s_X10_layTold_68, s_X10_layTold_71, s_X10_layTold_72, s_X10_layTold_75, s_X10_layTold_76, s_X10_layTold_77, s_X10_layTold_80, s_X10_layTold_81, s_X10_layTold_84, s_X10_layTold_85, s_X10_layTold_88, s_X10_layTold_89, s_X10_layTold_90, s_X10_layTold_92, s_X10_layTold_95, s_X10_layTold_96, s_X10_layTold_99, s_X10_layTold_100, s_X10_layTold_101, s_X10_layTold_102, s_X10_layTold_103, s_X10_layTold_106, s_X10_layTold_107, s_X10_layTold_108, s_X10_layTold_110, s_X10_layTold_113, s_X10_layTold_114, s_X10_layTold_117, s_X10_layTold_118, s_X10_layTold_121, s_X10_layTold_122, s_X10_layTold_123, s_X10_layTold_124, s_X10_layTold_127, s_X10_layTold_130, pm11 e53]
  refine ⟨rfl, ?_⟩
  have lp2 : ∀ rem i c1 b k (l3 : Value), i + rem = n → k ≤ i → frm [53, 59, 61] c c1 → c1 53 = mobj (nI n) (nI m) (nI v) (nI si) (nI sg) (nI k) ru lu → isI c1 59 7 b → isI c1 61 7 (fun j => nI (w j)) → jnB (padQ pd x) rem i b = pB (n, m, v, w, fo, si, st) pd x → jnK (padQ pd x) rem i k = pK (n, m, v, w, fo, si, st) pd x → rU ro (d + 1) tb_X10_layTold R 32 [.ref 53, .int x, .int (nI i), l3] [] (tab c1) := by
    intro rem
    induction rem with
    | zero =>
      intro i c1 b k l3 hi hki hf e53 hb h61 hB hK
      have : i = n := by omega
      subst this
      rw [jnB] at hB
      rw [jnK] at hK
      subst hB
      subst hK
      rw [s_X10_layTold_32]
      simp only [s_X10_layTold_0, s_X10_layTold_1, s_X10_layTold_4, s_X10_layTold_5, s_X10_layTold_6, s_X10_layTold_9, s_X10_layTold_10, s_X10_layTold_12, s_X10_layTold_14, s_X10_layTold_17, s_X10_layTold_18, s_X10_layTold_21, s_X10_layTold_22, s_X10_layTold_23, s_X10_layTold_24, s_X10_layTold_27, s_X10_layTold_30, s_X10_layTold_31, s_X10_layTold_33, s_X10_layTold_34, s_X10_layTold_37, s_X10_layTold_40, s_X10_layTold_41, s_X10_layTold_42, s_X10_layTold_45, s_X10_layTold_46, s_X10_layTold_49, s_X10_layTold_50, s_X10_layTold_51, s_X10_layTold_53, s_X10_layTold_54, s_X10_layTold_55, s_X10_layTold_56, s_X10_layTold_57, s_X10_layTold_60, s_X10_layTold_61, s_X10_layTold_64, s_X10_layTold_65, s_X10_layTold_66, s_X10_layTold_68, s_X10_layTold_71, s_X10_layTold_72, s_X10_layTold_75, s_X10_layTold_76, s_X10_layTold_77, s_X10_layTold_80, s_X10_layTold_81, s_X10_layTold_84, s_X10_layTold_85, s_X10_layTold_88, s_X10_layTold_89, s_X10_layTold_90, s_X10_layTold_92, s_X10_layTold_95, s_X10_layTold_96, s_X10_layTold_99, s_X10_layTold_100, s_X10_layTold_101, s_X10_layTold_102, s_X10_layTold_103, s_X10_layTold_106, s_X10_layTold_107, s_X10_layTold_108, s_X10_layTold_110, s_X10_layTold_113, s_X10_layTold_114, s_X10_layTold_117, s_X10_layTold_118, s_X10_layTold_121, s_X10_layTold_122, s_X10_layTold_123, s_X10_layTold_124, s_X10_layTold_127, s_X10_layTold_130, gm0 e53]
      refine ⟨fun _ => hk c1 ⟨hf.mono rfl, ⟨_, _, _, e53⟩, ⟨_, _, _, _, _, e53⟩, hsc.1.fr hf rfl, hsc.2.2.1.fr hf rfl, hb, h61⟩, fun hc => absurd ((sI_le (by omega) (by omega)).mpr (Nat.le_refl _)) hc⟩
    | succ rem ih =>
      intro i c1 b k l3 hi hki hf e53 hb h61 hB hK
      rw [jnB] at hB
      rw [jnK] at hK
      have h57' := h57.fr hf rfl
      have step : ∀ (u a kk : Nat) (c2 : Nat → rE) (l3 : Value), u ≤ 6 → frm [53] c1 c2 → c2 53 = mobj (nI n) (nI m) (nI v) (nI si) (nI sg) (nI kk) ru lu → kk ≤ i + 1 → jnB (padQ pd x) rem (i + 1) (ad1 b u a) = pB (n, m, v, w, fo, si, st) pd x → jnK (padQ pd x) rem (i + 1) kk = pK (n, m, v, w, fo, si, st) pd x → rSi (tab c2) 59 (nI u) (b u + nI a) (fun h => rU ro (d + 1) tb_X10_layTold R 124 [.ref 53, .int x, .int (nI i), l3] [] h) := by
        intro u a kk c2 l3 hu f2 k53 hkk hB2 hK2
        refine si_i (hb.fr f2 rfl) (by decide) (by omega) (by decide) fun c3 f3 hi3 => ?_
        simp only [s_X10_layTold_0, s_X10_layTold_1, s_X10_layTold_4, s_X10_layTold_5, s_X10_layTold_6, s_X10_layTold_9, s_X10_layTold_10, s_X10_layTold_12, s_X10_layTold_14, s_X10_layTold_17, s_X10_layTold_18, s_X10_layTold_21, s_X10_layTold_22, s_X10_layTold_23, s_X10_layTold_24, s_X10_layTold_27, s_X10_layTold_30, s_X10_layTold_31, s_X10_layTold_33, s_X10_layTold_34, s_X10_layTold_37, s_X10_layTold_40, s_X10_layTold_41, s_X10_layTold_42, s_X10_layTold_45, s_X10_layTold_46, s_X10_layTold_49, s_X10_layTold_50, s_X10_layTold_51, s_X10_layTold_53, s_X10_layTold_54, s_X10_layTold_55, s_X10_layTold_56, s_X10_layTold_57, s_X10_layTold_60, s_X10_layTold_61, s_X10_layTold_64, s_X10_layTold_65, s_X10_layTold_66, s_X10_layTold_68, s_X10_layTold_71, s_X10_layTold_72, s_X10_layTold_75, s_X10_layTold_76, s_X10_layTold_77, s_X10_layTold_80, s_X10_layTold_81, s_X10_layTold_84, s_X10_layTold_85, s_X10_layTold_88, s_X10_layTold_89, s_X10_layTold_90, s_X10_layTold_92, s_X10_layTold_95, s_X10_layTold_96, s_X10_layTold_99, s_X10_layTold_100, s_X10_layTold_101, s_X10_layTold_102, s_X10_layTold_103, s_X10_layTold_106, s_X10_layTold_107, s_X10_layTold_108, s_X10_layTold_110, s_X10_layTold_113, s_X10_layTold_114, s_X10_layTold_117, s_X10_layTold_118, s_X10_layTold_121, s_X10_layTold_122, s_X10_layTold_123, s_X10_layTold_124, s_X10_layTold_127, s_X10_layTold_130, nI_add]
        have g3 : frm [53, 59, 61] c c3 := hf.trans ((f2.mono rfl).trans (f3.mono rfl))
        exact ⟨rfl, ih (i + 1) c3 _ kk _ (by omega) hkk g3 ((f3 53 rfl).trans k53) hi3 ((h61.fr f2 rfl).fr f3 rfl) hB2 hK2⟩
      have fk : ∀ kk : Nat, frm [53] c1 (fup c1 53 (mobj (nI n) (nI m) (nI v) (nI si) (nI sg) (nI kk) ru lu)) := fun _ => frm.rf.fup rfl
      rw [s_X10_layTold_32]
      simp only [s_X10_layTold_0, s_X10_layTold_1, s_X10_layTold_4, s_X10_layTold_5, s_X10_layTold_6, s_X10_layTold_9, s_X10_layTold_10, s_X10_layTold_12, s_X10_layTold_14, s_X10_layTold_17, s_X10_layTold_18, s_X10_layTold_21, s_X10_layTold_22, s_X10_layTold_23, s_X10_layTold_24, s_X10_layTold_27, s_X10_layTold_30, s_X10_layTold_31, s_X10_layTold_33, s_X10_layTold_34, s_X10_layTold_37, s_X10_layTold_40, s_X10_layTold_41, s_X10_layTold_42, s_X10_layTold_45, s_X10_layTold_46, s_X10_layTold_49, s_X10_layTold_50, s_X10_layTold_51, s_X10_layTold_53, s_X10_layTold_54, s_X10_layTold_55, s_X10_layTold_56, s_X10_layTold_57, s_X10_layTold_60, s_X10_layTold_61, s_X10_layTold_64, s_X10_layTold_65, s_X10_layTold_66, s_X10_layTold_68, s_X10_layTold_71, s_X10_layTold_72, s_X10_layTold_75, s_X10_layTold_76, s_X10_layTold_77, s_X10_layTold_81, s_X10_layTold_84, s_X10_layTold_85, s_X10_layTold_88, s_X10_layTold_89, s_X10_layTold_90, s_X10_layTold_92, s_X10_layTold_95, s_X10_layTold_96, s_X10_layTold_99, s_X10_layTold_100, s_X10_layTold_101, s_X10_layTold_102, s_X10_layTold_103, s_X10_layTold_106, s_X10_layTold_107, s_X10_layTold_108, s_X10_layTold_110, s_X10_layTold_113, s_X10_layTold_114, s_X10_layTold_117, s_X10_layTold_118, s_X10_layTold_121, s_X10_layTold_122, s_X10_layTold_123, s_X10_layTold_127, s_X10_layTold_130, gm0 e53, gm8 e53, gm11 e53, pm11 e53, sI_le (show n < 100000 by omega) (show i < 100000 by omega), ai_i h57' (show 57 < 70 by decide) (show i < 48 by omega) (by decide), nI_add]
      refine ⟨fun hc => absurd hc (by omega), fun _ => ⟨fun hx => ?_, fun hx => ⟨rfl, fun h63 => ?_, fun h63 => ?_⟩⟩⟩
      · simp only [s_X10_layTold_0, s_X10_layTold_1, s_X10_layTold_4, s_X10_layTold_5, s_X10_layTold_6, s_X10_layTold_9, s_X10_layTold_10, s_X10_layTold_12, s_X10_layTold_14, s_X10_layTold_17, s_X10_layTold_18, s_X10_layTold_21, s_X10_layTold_22, s_X10_layTold_23, s_X10_layTold_24, s_X10_layTold_27, s_X10_layTold_30, s_X10_layTold_31, s_X10_layTold_33, s_X10_layTold_34, s_X10_layTold_37, s_X10_layTold_40, s_X10_layTold_41, s_X10_layTold_42, s_X10_layTold_45, s_X10_layTold_46, s_X10_layTold_49, s_X10_layTold_50, s_X10_layTold_51, s_X10_layTold_53, s_X10_layTold_54, s_X10_layTold_55, s_X10_layTold_56, s_X10_layTold_57, s_X10_layTold_60, s_X10_layTold_61, s_X10_layTold_64, s_X10_layTold_65, s_X10_layTold_66, s_X10_layTold_68, s_X10_layTold_71, s_X10_layTold_72, s_X10_layTold_75, s_X10_layTold_76, s_X10_layTold_77, s_X10_layTold_80, s_X10_layTold_81, s_X10_layTold_84, s_X10_layTold_85, s_X10_layTold_88, s_X10_layTold_89, s_X10_layTold_90, s_X10_layTold_92, s_X10_layTold_95, s_X10_layTold_96, s_X10_layTold_99, s_X10_layTold_100, s_X10_layTold_101, s_X10_layTold_102, s_X10_layTold_103, s_X10_layTold_106, s_X10_layTold_107, s_X10_layTold_108, s_X10_layTold_110, s_X10_layTold_113, s_X10_layTold_114, s_X10_layTold_117, s_X10_layTold_118, s_X10_layTold_121, s_X10_layTold_122, s_X10_layTold_123, s_X10_layTold_124, s_X10_layTold_127, s_X10_layTold_130, nI_add]
        rw [show padQ pd x i = none by rw [padQ, if_pos hx]] at hB hK
        exact ⟨rfl, ih (i + 1) c1 b k _ (by omega) (by omega) hf e53 hb h61 hB hK⟩
      · have h48 : ¬ pd i = nI 48 := by rw [h63]; decide
        have k53 : fup c1 53 (mobj (nI n) (nI m) (nI v) (nI si) (nI sg) (nI (k + 1)) ru lu) 53 = mobj (nI n) (nI m) (nI v) (nI si) (nI sg) (nI (k + 1)) ru lu := fup_self
        simp only [s_X10_layTold_0, s_X10_layTold_1, s_X10_layTold_4, s_X10_layTold_5, s_X10_layTold_6, s_X10_layTold_9, s_X10_layTold_10, s_X10_layTold_12, s_X10_layTold_14, s_X10_layTold_17, s_X10_layTold_18, s_X10_layTold_21, s_X10_layTold_22, s_X10_layTold_23, s_X10_layTold_24, s_X10_layTold_27, s_X10_layTold_30, s_X10_layTold_31, s_X10_layTold_33, s_X10_layTold_34, s_X10_layTold_37, s_X10_layTold_40, s_X10_layTold_41, s_X10_layTold_42, s_X10_layTold_45, s_X10_layTold_46, s_X10_layTold_49, s_X10_layTold_50, s_X10_layTold_51, s_X10_layTold_53, s_X10_layTold_54, s_X10_layTold_55, s_X10_layTold_56, s_X10_layTold_57, s_X10_layTold_60, s_X10_layTold_61, s_X10_layTold_64, s_X10_layTold_65, s_X10_layTold_66, s_X10_layTold_68, s_X10_layTold_71, s_X10_layTold_72, s_X10_layTold_75, s_X10_layTold_76, s_X10_layTold_77, s_X10_layTold_80, s_X10_layTold_81, s_X10_layTold_84, s_X10_layTold_85, s_X10_layTold_88, s_X10_layTold_89, s_X10_layTold_90, s_X10_layTold_92, s_X10_layTold_95, s_X10_layTold_96, s_X10_layTold_99, s_X10_layTold_100, s_X10_layTold_101, s_X10_layTold_102, s_X10_layTold_103, s_X10_layTold_106, s_X10_layTold_107, s_X10_layTold_108, s_X10_layTold_110, s_X10_layTold_113, s_X10_layTold_114, s_X10_layTold_117, s_X10_layTold_118, s_X10_layTold_121, s_X10_layTold_122, s_X10_layTold_123, s_X10_layTold_127, s_X10_layTold_130, gm8 k53, gm10 k53, ai_i (h57'.fr (fk (k + 1)) rfl) (show 57 < 70 by decide) (show i < 48 by omega) (by decide), nI_add]
        refine ⟨fun _ => ?_, fun q => absurd h63 q⟩
        simp only [ai_i (hb.fr (fk (k + 1)) rfl) (show 59 < 70 by decide) (show 0 < 7 by omega) (by decide)]
        refine ⟨fun _ => ?_, fun q => absurd h63 q⟩
        rw [show padQ pd x i = some 0 by rw [padQ, if_neg hx, if_neg h48, if_pos h63]] at hB hK
        exact step 0 0 (k + 1) _ _ (by omega) (fk (k + 1)) k53 (by omega) (by rw [ad1_zero]; exact hB) hK
      · obtain ⟨q, hq1, hq2⟩ := (slp_cs hm.2 (hp i (by omega))).resolve_left h63
        have hq3 := pd48 (show q ≤ 6 by omega)
        have k53 : fup c1 53 (mobj (nI n) (nI m) (nI v) (nI si) (nI sg) (nI (k + 0)) ru lu) 53 = mobj (nI n) (nI m) (nI v) (nI si) (nI sg) (nI (k + 0)) ru lu := fup_self
        simp only [s_X10_layTold_0, s_X10_layTold_1, s_X10_layTold_4, s_X10_layTold_5, s_X10_layTold_6, s_X10_layTold_9, s_X10_layTold_10, s_X10_layTold_12, s_X10_layTold_14, s_X10_layTold_17, s_X10_layTold_18, s_X10_layTold_21, s_X10_layTold_22, s_X10_layTold_23, s_X10_layTold_24, s_X10_layTold_27, s_X10_layTold_30, s_X10_layTold_31, s_X10_layTold_33, s_X10_layTold_34, s_X10_layTold_37, s_X10_layTold_40, s_X10_layTold_41, s_X10_layTold_42, s_X10_layTold_45, s_X10_layTold_46, s_X10_layTold_49, s_X10_layTold_50, s_X10_layTold_51, s_X10_layTold_53, s_X10_layTold_54, s_X10_layTold_55, s_X10_layTold_56, s_X10_layTold_57, s_X10_layTold_60, s_X10_layTold_61, s_X10_layTold_64, s_X10_layTold_65, s_X10_layTold_66, s_X10_layTold_68, s_X10_layTold_71, s_X10_layTold_72, s_X10_layTold_75, s_X10_layTold_76, s_X10_layTold_77, s_X10_layTold_80, s_X10_layTold_81, s_X10_layTold_84, s_X10_layTold_85, s_X10_layTold_88, s_X10_layTold_89, s_X10_layTold_90, s_X10_layTold_92, s_X10_layTold_95, s_X10_layTold_96, s_X10_layTold_99, s_X10_layTold_100, s_X10_layTold_101, s_X10_layTold_102, s_X10_layTold_103, s_X10_layTold_106, s_X10_layTold_107, s_X10_layTold_108, s_X10_layTold_110, s_X10_layTold_113, s_X10_layTold_114, s_X10_layTold_117, s_X10_layTold_118, s_X10_layTold_121, s_X10_layTold_122, s_X10_layTold_123, s_X10_layTold_127, s_X10_layTold_130, gm8 k53, gm10 k53, ai_i (h57'.fr (fk (k + 0)) rfl) (show 57 < 70 by decide) (show i < 48 by omega) (by decide), nI_add]
        refine ⟨fun q => absurd q h63, fun _ => ?_⟩
        rw [hq2, hq3.2.2.1]
        simp only [ai_i (hb.fr (fk (k + 0)) rfl) (show 59 < 70 by decide) (show q < 7 by omega) (by decide), sI_le0 (show q < 100000 by omega)]
        refine ⟨fun q => absurd q hq3.2.1, fun _ => ⟨fun h0 => ?_, fun h0 => ?_⟩⟩
        · rw [show padQ pd x i = none by rw [padQ, if_neg hx, if_pos (by rw [hq2]; exact hq3.1.mpr h0)]] at hB hK
          exact step q 0 k _ _ (by omega) (fk (k + 0)) k53 (by omega) (by rw [ad1_zero]; exact hB) hK
        · obtain ⟨u, hu⟩ : ∃ u, q = u + 1 := ⟨q - 1, by omega⟩
          rw [show padQ pd x i = some (u + 1) by rw [padQ, if_neg hx, if_neg (by rw [hq2]; exact fun e => h0 (hq3.1.mp e)), if_neg h63, hq2, hq3.2.2.2, hu]] at hB hK
          exact step q 1 k _ _ (by omega) (fk (k + 0)) k53 (by omega) (by rw [hu]; exact hB) hK
  have lp1 : ∀ rem j c1 val, j + rem = 7 → frm [53, 59, 61] c c1 → c1 53 = mobj (nI n) (nI m) (nI v) (nI si) (nI sg) (nI 0) ru lu → isI c1 59 7 val → isI c1 61 7 (fun j => nI (w j)) → (∀ i, i < j → val i = nI 0) → rU ro (d + 1) tb_X10_layTold R 11 [.ref 53, .int x, .int (nI j), .null] [] (tab c1) := by
    intro rem
    induction rem with
    | zero =>
      intro j c1 val hj hf e53 hi h61 hv
      have : j = 7 := by omega
      subst this
      rw [s_X10_layTold_11]
      simp only [s_X10_layTold_0, s_X10_layTold_1, s_X10_layTold_4, s_X10_layTold_5, s_X10_layTold_6, s_X10_layTold_9, s_X10_layTold_10, s_X10_layTold_12, s_X10_layTold_14, s_X10_layTold_17, s_X10_layTold_18, s_X10_layTold_21, s_X10_layTold_22, s_X10_layTold_23, s_X10_layTold_24, s_X10_layTold_27, s_X10_layTold_30, s_X10_layTold_31, s_X10_layTold_33, s_X10_layTold_34, s_X10_layTold_37, s_X10_layTold_40, s_X10_layTold_41, s_X10_layTold_42, s_X10_layTold_45, s_X10_layTold_46, s_X10_layTold_49, s_X10_layTold_50, s_X10_layTold_51, s_X10_layTold_53, s_X10_layTold_54, s_X10_layTold_55, s_X10_layTold_56, s_X10_layTold_57, s_X10_layTold_60, s_X10_layTold_61, s_X10_layTold_64, s_X10_layTold_65, s_X10_layTold_66, s_X10_layTold_68, s_X10_layTold_71, s_X10_layTold_72, s_X10_layTold_75, s_X10_layTold_76, s_X10_layTold_77, s_X10_layTold_80, s_X10_layTold_81, s_X10_layTold_84, s_X10_layTold_85, s_X10_layTold_88, s_X10_layTold_89, s_X10_layTold_90, s_X10_layTold_92, s_X10_layTold_95, s_X10_layTold_96, s_X10_layTold_99, s_X10_layTold_100, s_X10_layTold_101, s_X10_layTold_102, s_X10_layTold_103, s_X10_layTold_106, s_X10_layTold_107, s_X10_layTold_108, s_X10_layTold_110, s_X10_layTold_113, s_X10_layTold_114, s_X10_layTold_117, s_X10_layTold_118, s_X10_layTold_121, s_X10_layTold_122, s_X10_layTold_123, s_X10_layTold_124, s_X10_layTold_127, s_X10_layTold_130]
      refine ⟨fun _ => ⟨rfl, ?_⟩, fun hc => absurd ((sI_le (by decide) (by decide)).mpr (Nat.le_refl _)) hc⟩
      exact lp2 n 0 c1 zrB 0 _ (by omega) (Nat.le_refl _) hf e53 (hi.cg hv) h61 rfl rfl
    | succ rem ih =>
      intro j c1 val hj hf e53 hi h61 hv
      rw [s_X10_layTold_11]
      simp only [s_X10_layTold_0, s_X10_layTold_1, s_X10_layTold_4, s_X10_layTold_5, s_X10_layTold_6, s_X10_layTold_9, s_X10_layTold_10, s_X10_layTold_12, s_X10_layTold_14, s_X10_layTold_17, s_X10_layTold_18, s_X10_layTold_21, s_X10_layTold_22, s_X10_layTold_23, s_X10_layTold_24, s_X10_layTold_27, s_X10_layTold_30, s_X10_layTold_31, s_X10_layTold_33, s_X10_layTold_34, s_X10_layTold_37, s_X10_layTold_40, s_X10_layTold_41, s_X10_layTold_42, s_X10_layTold_45, s_X10_layTold_46, s_X10_layTold_49, s_X10_layTold_50, s_X10_layTold_51, s_X10_layTold_53, s_X10_layTold_54, s_X10_layTold_55, s_X10_layTold_56, s_X10_layTold_57, s_X10_layTold_60, s_X10_layTold_61, s_X10_layTold_64, s_X10_layTold_65, s_X10_layTold_66, s_X10_layTold_68, s_X10_layTold_71, s_X10_layTold_72, s_X10_layTold_75, s_X10_layTold_76, s_X10_layTold_77, s_X10_layTold_80, s_X10_layTold_81, s_X10_layTold_84, s_X10_layTold_85, s_X10_layTold_88, s_X10_layTold_89, s_X10_layTold_90, s_X10_layTold_92, s_X10_layTold_95, s_X10_layTold_96, s_X10_layTold_99, s_X10_layTold_100, s_X10_layTold_101, s_X10_layTold_102, s_X10_layTold_103, s_X10_layTold_106, s_X10_layTold_107, s_X10_layTold_108, s_X10_layTold_110, s_X10_layTold_113, s_X10_layTold_114, s_X10_layTold_117, s_X10_layTold_118, s_X10_layTold_121, s_X10_layTold_122, s_X10_layTold_123, s_X10_layTold_124, s_X10_layTold_127, s_X10_layTold_130, gm10 e53, nI_add, sI_le (show 7 < 100000 by omega) (show j < 100000 by omega)]
      refine ⟨fun hc => absurd hc (by omega), fun _ => si_i hi (by decide) (by omega) (by decide) fun c2 hf2 hi2 => ?_⟩
      exact ⟨rfl, ih (j + 1) c2 _ (by omega) (hf.trans (hf2.mono rfl)) ((hf2 53 rfl).trans e53) hi2 (h61.fr hf2 rfl) (fillI hv rfl)⟩
  obtain ⟨g, hg⟩ := hsc.2.1
  have f2 : frm [53] c1 (fup c1 53 (mobj (nI n) (nI m) (nI v) (nI si) (nI sg) (nI 0) ru lu)) := frm.rf.fup rfl
  exact lp1 7 0 _ g (by omega) ((f1.mono rfl).trans (f2.mono rfl)) fup_self ⟨g, (f2 59 rfl).trans ((f1 59 rfl).trans hg), fun _ _ => rfl⟩ (hi1.fr f2 rfl) (fun j hj => absurd hj (by omega))
theorem ml_spy (hV : VS (n, m, v, w, fo, si, st)) (hs : sg ≤ 48) (hM : MS c (n, m, v, w, fo, si, st) sg pd im) (hk : ∀ c', frm MM c c' → MS c' (n, m, v, w, fo, si, st) sg pd im → R (some (.int (spyA (n, m, v, w, fo, si, st) sg pd x))) (tab c')) : rM ro (d + 6) 148 0 0 [.ref 53, .int x] (tab c) R := by
  obtain ⟨⟨⟨fr, ru, lu, h53⟩, h54, h55, h56, h57⟩, hsc, him⟩ := id hM
  have hn := hV.1
  have hko := pK_le (T := (n, m, v, w, fo, si, st)) (pd := pd) (x := x) hn.2
  rw [en_X10_spy]
  simp only [s_X10_spy_0, s_X10_spy_1, s_X10_spy_2, s_X10_spy_5, s_X10_spy_8, s_X10_spy_9, s_X10_spy_10, s_X10_spy_11, s_X10_spy_14, s_X10_spy_17, s_X10_spy_19, s_X10_spy_20, s_X10_spy_21, s_X10_spy_22, s_X10_spy_25, s_X10_spy_26, s_X10_spy_29, vm_o h53]
  refine sp_isMan2 h53 (by omega) ?_
  simp only [Option.toList_some, Option.toList_none, List.cons_append, List.nil_append, Option.toList, s_X10_spy_0, s_X10_spy_1, s_X10_spy_2, s_X10_spy_5, s_X10_spy_8, s_X10_spy_9, s_X10_spy_10, s_X10_spy_11, s_X10_spy_14, s_X10_spy_17, s_X10_spy_19, s_X10_spy_20, s_X10_spy_21, s_X10_spy_22, s_X10_spy_25, s_X10_spy_26, s_X10_spy_29, vm_o h53, b2_0]
  refine ⟨fun hx => ?_, fun hx => ml_faultOf hV hs hM ?_⟩
  · have := hk c frm.rf hM
    rw [spyA, if_neg hx] at this
    exact this
  have hx := Decidable.not_not.mp hx
  simp only [Option.toList_some, Option.toList_none, List.cons_append, List.nil_append, Option.toList, s_X10_spy_0, s_X10_spy_1, s_X10_spy_2, s_X10_spy_5, s_X10_spy_8, s_X10_spy_9, s_X10_spy_10, s_X10_spy_11, s_X10_spy_14, s_X10_spy_17, s_X10_spy_19, s_X10_spy_20, s_X10_spy_21, s_X10_spy_22, s_X10_spy_25, s_X10_spy_26, s_X10_spy_29, vm_o h53, flt_ge hs]
  refine ⟨fun hf => sp_X10_layTold hV (flt_no hn.1 hs hf).2 hM fun c1 hL => ?_, fun hf => ?_⟩
  · obtain ⟨_, _, _, e53⟩ := id hL.2.1
    simp only [Option.toList_some, Option.toList_none, List.cons_append, List.nil_append, Option.toList, s_X10_spy_0, s_X10_spy_1, s_X10_spy_2, s_X10_spy_5, s_X10_spy_8, s_X10_spy_9, s_X10_spy_10, s_X10_spy_11, s_X10_spy_14, s_X10_spy_17, s_X10_spy_19, s_X10_spy_20, s_X10_spy_21, s_X10_spy_22, s_X10_spy_25, s_X10_spy_26, s_X10_spy_29, vm_o e53]
    refine sp_X10_bestOf hL.2.2 (hV.vt hko) fun c2 hf2 hM2 => ?_
    have hL2 := hL.go hf2 hM2
    simp only [Option.toList_some, Option.toList_none, List.cons_append, List.nil_append, Option.toList, s_X10_spy_0, s_X10_spy_1, s_X10_spy_2, s_X10_spy_5, s_X10_spy_8, s_X10_spy_9, s_X10_spy_10, s_X10_spy_11, s_X10_spy_14, s_X10_spy_17, s_X10_spy_19, s_X10_spy_20, s_X10_spy_21, s_X10_spy_22, s_X10_spy_25, s_X10_spy_26, s_X10_spy_29]
    have := hk c2 hL2.mm (hL2.ms hM)
    rw [spyA, if_pos hx, if_pos hf] at this
    exact this
  · have := hk c frm.rf hM
    rw [spyA, if_pos hx, if_neg hf] at this
    exact this
theorem ml_spied (hV : VS (n, m, v, w, fo, si, st)) (hs : sg ≤ 48) (hM : MS c (n, m, v, w, fo, si, st) sg pd im) (hk : ∀ c', frm MM c c' → MS c' (n, m, v, w, fo, si, st) sg pd im → R (some (.long (spiA (n, m, v, w, fo, si, st) sg pd x z))) (tab c')) : rM ro (d + 6) 149 0 0 [.ref 53, .int x, .int z] (tab c) R := by
  obtain ⟨⟨⟨fr, ru, lu, h53⟩, h54, h55, h56, h57⟩, hsc, him⟩ := id hM
  have hn := hV.1
  have hm := hV.2.1
  have hW := hV.2.2.2.2.2.2.1
  have hko := pK_le (T := (n, m, v, w, fo, si, st)) (pd := pd) (x := x) hn.2
  have hvt := hV.vt hko
  rw [en_X10_spied]
  simp only [s_X10_spied_0, s_X10_spied_1, s_X10_spied_2, s_X10_spied_5, s_X10_spied_8, s_X10_spied_11, s_X10_spied_12, s_X10_spied_13, s_X10_spied_14, s_X10_spied_15, s_X10_spied_18, s_X10_spied_21, s_X10_spied_24, s_X10_spied_25, s_X10_spied_26, s_X10_spied_29, s_X10_spied_32, s_X10_spied_35, s_X10_spied_36, s_X10_spied_37, s_X10_spied_38, s_X10_spied_41, s_X10_spied_42, s_X10_spied_43, s_X10_spied_46, s_X10_spied_49, s_X10_spied_50, s_X10_spied_53, s_X10_spied_54, s_X10_spied_57, vm_o h53]
  refine sp_isMan2 h53 (by omega) ?_
  simp only [Option.toList_some, Option.toList_none, List.cons_append, List.nil_append, Option.toList, s_X10_spied_0, s_X10_spied_1, s_X10_spied_2, s_X10_spied_5, s_X10_spied_8, s_X10_spied_11, s_X10_spied_12, s_X10_spied_13, s_X10_spied_14, s_X10_spied_15, s_X10_spied_18, s_X10_spied_21, s_X10_spied_24, s_X10_spied_25, s_X10_spied_26, s_X10_spied_29, s_X10_spied_32, s_X10_spied_35, s_X10_spied_36, s_X10_spied_37, s_X10_spied_38, s_X10_spied_41, s_X10_spied_42, s_X10_spied_43, s_X10_spied_46, s_X10_spied_49, s_X10_spied_50, s_X10_spied_53, s_X10_spied_54, s_X10_spied_57, b2_0]
  refine ⟨fun hx => ?_, fun hx => sp_in2 ?_⟩
  · have := hk c frm.rf hM
    rw [spiA, if_neg hx] at this
    exact this
  have hx := Decidable.not_not.mp hx
  simp only [Option.toList_some, Option.toList_none, List.cons_append, List.nil_append, Option.toList, s_X10_spied_0, s_X10_spied_1, s_X10_spied_2, s_X10_spied_5, s_X10_spied_8, s_X10_spied_11, s_X10_spied_12, s_X10_spied_13, s_X10_spied_14, s_X10_spied_15, s_X10_spied_18, s_X10_spied_21, s_X10_spied_24, s_X10_spied_25, s_X10_spied_26, s_X10_spied_29, s_X10_spied_32, s_X10_spied_35, s_X10_spied_36, s_X10_spied_37, s_X10_spied_38, s_X10_spied_41, s_X10_spied_42, s_X10_spied_43, s_X10_spied_46, s_X10_spied_49, s_X10_spied_50, s_X10_spied_53, s_X10_spied_54, s_X10_spied_57, vm_o h53, b2_0]
  refine ⟨fun hz => ?_, fun hz => ml_faultOf hV hs hM ?_⟩
  · have := hk c frm.rf hM
    rw [spiA, if_pos hx, if_neg hz] at this
    exact this
  have hz := Decidable.not_not.mp hz
  simp only [Option.toList_some, Option.toList_none, List.cons_append, List.nil_append, Option.toList, s_X10_spied_0, s_X10_spied_1, s_X10_spied_2, s_X10_spied_5, s_X10_spied_8, s_X10_spied_11, s_X10_spied_12, s_X10_spied_13, s_X10_spied_14, s_X10_spied_15, s_X10_spied_18, s_X10_spied_21, s_X10_spied_24, s_X10_spied_25, s_X10_spied_26, s_X10_spied_29, s_X10_spied_32, s_X10_spied_35, s_X10_spied_36, s_X10_spied_37, s_X10_spied_38, s_X10_spied_41, s_X10_spied_42, s_X10_spied_43, s_X10_spied_46, s_X10_spied_49, s_X10_spied_50, s_X10_spied_53, s_X10_spied_54, s_X10_spied_57, vm_o h53, flt_ge hs]
  refine ⟨fun hf => sp_X10_layTold hV (flt_no hn.1 hs hf).2 hM fun c1 hL => ?_, fun hf => ?_⟩
  · obtain ⟨_, _, _, e53⟩ := id hL.2.1
    simp only [Option.toList_some, Option.toList_none, List.cons_append, List.nil_append, Option.toList, s_X10_spied_0, s_X10_spied_1, s_X10_spied_2, s_X10_spied_5, s_X10_spied_8, s_X10_spied_11, s_X10_spied_12, s_X10_spied_13, s_X10_spied_14, s_X10_spied_15, s_X10_spied_18, s_X10_spied_21, s_X10_spied_24, s_X10_spied_25, s_X10_spied_26, s_X10_spied_29, s_X10_spied_32, s_X10_spied_35, s_X10_spied_36, s_X10_spied_37, s_X10_spied_38, s_X10_spied_41, s_X10_spied_42, s_X10_spied_43, s_X10_spied_46, s_X10_spied_49, s_X10_spied_50, s_X10_spied_53, s_X10_spied_54, s_X10_spied_57, vm_o e53]
    refine sp_X10_bestOf hL.2.2 hvt fun c2 hf2 hM2 => ?_
    have hL2 := hL.go hf2 hM2
    obtain ⟨_, _, _, e53⟩ := id hL2.2.1
    have htm := topF_mem (gnF w v m (pK (n, m, v, w, fo, si, st) pd x) (pB (n, m, v, w, fo, si, st) pd x)) hm.1
    simp only [Option.toList_some, Option.toList_none, List.cons_append, List.nil_append, Option.toList, s_X10_spied_0, s_X10_spied_1, s_X10_spied_2, s_X10_spied_5, s_X10_spied_8, s_X10_spied_11, s_X10_spied_12, s_X10_spied_13, s_X10_spied_14, s_X10_spied_15, s_X10_spied_18, s_X10_spied_21, s_X10_spied_24, s_X10_spied_25, s_X10_spied_26, s_X10_spied_29, s_X10_spied_32, s_X10_spied_35, s_X10_spied_36, s_X10_spied_37, s_X10_spied_38, s_X10_spied_41, s_X10_spied_42, s_X10_spied_43, s_X10_spied_46, s_X10_spied_49, s_X10_spied_50, s_X10_spied_53, s_X10_spied_54, s_X10_spied_57, vm_o e53]
    refine sp_X10_worthOf hM2 hvt (by omega) fun c3 hf3 hM3 => ?_
    have hL3 := hL2.go hf3 hM3
    obtain ⟨_, _, _, e53⟩ := id hL3.2.1
    simp only [Option.toList_some, Option.toList_none, List.cons_append, List.nil_append, Option.toList, s_X10_spied_0, s_X10_spied_1, s_X10_spied_2, s_X10_spied_5, s_X10_spied_8, s_X10_spied_11, s_X10_spied_12, s_X10_spied_13, s_X10_spied_14, s_X10_spied_15, s_X10_spied_18, s_X10_spied_21, s_X10_spied_24, s_X10_spied_25, s_X10_spied_26, s_X10_spied_29, s_X10_spied_32, s_X10_spied_35, s_X10_spied_36, s_X10_spied_37, s_X10_spied_38, s_X10_spied_41, s_X10_spied_42, s_X10_spied_43, s_X10_spied_46, s_X10_spied_49, s_X10_spied_50, s_X10_spied_53, s_X10_spied_54, s_X10_spied_57, vm_o e53]
    refine sp_X10_lowOf hM3 hvt ?_
    simp only [Option.toList_some, Option.toList_none, List.cons_append, List.nil_append, Option.toList, s_X10_spied_0, s_X10_spied_1, s_X10_spied_2, s_X10_spied_5, s_X10_spied_8, s_X10_spied_11, s_X10_spied_12, s_X10_spied_13, s_X10_spied_14, s_X10_spied_15, s_X10_spied_18, s_X10_spied_21, s_X10_spied_24, s_X10_spied_25, s_X10_spied_26, s_X10_spied_29, s_X10_spied_32, s_X10_spied_35, s_X10_spied_36, s_X10_spied_37, s_X10_spied_38, s_X10_spied_41, s_X10_spied_42, s_X10_spied_43, s_X10_spied_46, s_X10_spied_49, s_X10_spied_50, s_X10_spied_53, s_X10_spied_54, s_X10_spied_57]
    have hl := lw2 hW (show pK (n, m, v, w, fo, si, st) pd x ≤ 7 by omega)
    have hg := gn_le (x := topF (gnF w v m (pK (n, m, v, w, fo, si, st) pd x) (pB (n, m, v, w, fo, si, st) pd x)) m) (b := pB (n, m, v, w, fo, si, st) pd x) hvt
    have hsc2 := sc_le v
    refine sp_X10_term (by have := Nat.mul_le_mul hsc2.2 hg; omega) hl.1 hl.2.1 ?_
    simp only [Option.toList_some, Option.toList_none, List.cons_append, List.nil_append, Option.toList, s_X10_spied_0, s_X10_spied_1, s_X10_spied_2, s_X10_spied_5, s_X10_spied_8, s_X10_spied_11, s_X10_spied_12, s_X10_spied_13, s_X10_spied_14, s_X10_spied_15, s_X10_spied_18, s_X10_spied_21, s_X10_spied_24, s_X10_spied_25, s_X10_spied_26, s_X10_spied_29, s_X10_spied_32, s_X10_spied_35, s_X10_spied_36, s_X10_spied_37, s_X10_spied_38, s_X10_spied_41, s_X10_spied_42, s_X10_spied_43, s_X10_spied_46, s_X10_spied_49, s_X10_spied_50, s_X10_spied_53, s_X10_spied_54, s_X10_spied_57]
    have := hk c3 hL3.mm (hL3.ms hM)
    rw [spiA, if_pos hx, if_pos hz, if_pos hf, ← fr_sc] at this
    exact this
  · have := hk c frm.rf hM
    rw [spiA, if_pos hx, if_pos hz, if_neg hf] at this
    exact this
end MN
