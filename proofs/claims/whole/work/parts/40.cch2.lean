/-! ===== the class: mean, nobody, prize, spies, steps ===== -/
theorem fltF_cs {n m sg : Nat} {pd : Nat → Int32} : ∀ r i, fltF n m sg pd r i = - nI 6 ∨ ∃ k, k ≤ sg + (i + r) ∧ fltF n m sg pd r i = nI k
  | 0, i => by
    rw [fltF]
    split
    · exact Or.inr ⟨sg, by omega, rfl⟩
    · exact Or.inl rfl
  | r + 1, i => by
    rw [fltF]
    split
    · exact Or.inr ⟨i, by omega, rfl⟩
    · rcases fltF_cs (n := n) (m := m) (sg := sg) (pd := pd) r (i + 1) with h | ⟨k, h1, h2⟩
      · exact Or.inl h
      · exact Or.inr ⟨k, by omega, h2⟩
theorem fltF_no {n m sg : Nat} {pd : Nat → Int32} (hs : sg ≤ 48) : ∀ r i, i + r = sg → fltF n m sg pd r i = - nI 6 → n ≤ sg ∧ (i < sg → sg ≤ n) ∧ ∀ j, i ≤ j → j < sg → slp m (pd j)
  | 0, i, hi, h => by
    rw [fltF] at h
    split at h
    · exact absurd h (none6 (by omega))
    · exact ⟨by omega, by omega, fun j h1 h2 => by omega⟩
  | r + 1, i, hi, h => by
    rw [fltF] at h
    split at h
    · exact absurd h (none6 (by omega))
    · rename_i hq
      have hq1 : ¬ n ≤ i := fun q => hq (Or.inl q)
      have hq2 : slp m (pd i) := Decidable.not_not.mp (fun q => hq (Or.inr q))
      obtain ⟨h1, h2, h3⟩ := fltF_no hs r (i + 1) (by omega) h
      refine ⟨h1, fun _ => by by_cases h4 : i + 1 < sg; exact h2 h4; omega, fun j h5 h6 => ?_⟩
      by_cases e : j = i
      · rw [e]; exact hq2
      · exact h3 j (by omega) h6
theorem flt_no {T : TS} {sg : Nat} {pd : Nat → Int32} (hn : 2 ≤ T.1) (hs : sg ≤ 48) (h : fltA T sg pd = - nI 6) : sg = T.1 ∧ ∀ j, j < T.1 → slp T.2.1 (pd j) := by
  obtain ⟨h1, h2, h3⟩ := fltF_no hs sg 0 (by omega) h
  have := h2 (by omega)
  exact ⟨by omega, fun j hj => h3 j (by omega) (by omega)⟩
theorem flt_ge {T : TS} {sg : Nat} {pd : Nat → Int32} (hs : sg ≤ 48) : (fltA T sg pd < 0) ↔ fltA T sg pd = - nI 6 := by
  rcases fltF_cs (n := T.1) (m := T.2.1) (sg := sg) (pd := pd) sg 0 with h | ⟨k, h1, h2⟩
  · have h : fltA T sg pd = - nI 6 := h
    rw [h]; exact ⟨fun _ => rfl, fun _ => by decide⟩
  · have h2 : fltA T sg pd = nI k := h2
    rw [h2, sI_lt0 (by omega)]
    exact ⟨False.elim, fun q => absurd q (none6 (by omega))⟩
theorem slp_cs {m : Nat} {s : Int32} (hm : m ≤ 6) (h : slp m s) : s = nI 63 ∨ ∃ k, k ≤ m ∧ s = nI (48 + k) := by
  rcases h with h | h
  · exact Or.inl h
  · obtain ⟨k, h1, h2, rfl⟩ := inR_nI h (by decide) (by omega)
    exact Or.inr ⟨k - 48, by omega, by rw [show 48 + (k - 48) = k by omega]⟩
def padQ (pd : Nat → Int32) (x : Int32) (i : Nat) : Option Nat := if nI i = x then none else if pd i = nI 48 then none else if pd i = nI 63 then some 0 else some ((pd i).toNatClampNeg - 48)
def pB (T : TS) (pd : Nat → Int32) (x : Int32) : Nat → Int32 := jnB (padQ pd x) T.1 0 zrB
def pK (T : TS) (pd : Nat → Int32) (x : Int32) : Nat := jnK (padQ pd x) T.1 0 0
def spyA (T : TS) (sg : Nat) (pd : Nat → Int32) (x : Int32) : Int32 := if inR 0 (T.1 - 1) x then (if fltA T sg pd = - nI 6 then nI (topF (gT T (pK T pd x) (pB T pd x)) T.2.1) else - nI 5) else - nI 1
def spiA (T : TS) (sg : Nat) (pd : Nat → Int32) (x z : Int32) : Int64 := if inR 0 (T.1 - 1) x then (if inR 0 1 z then (if fltA T sg pd = - nI 6 then frF (gT T (pK T pd x) (pB T pd x) (topF (gT T (pK T pd x) (pB T pd x)) T.2.1)) (wT T ^ pK T pd x * tmF T.2.2.1) z else L5) else L2) else L1
def sB (T : TS) (q : Nat) : Nat → Int32 := jnB (fun _ => some q) (T.1 - 1) 1 zrB
def sK (T : TS) (q : Nat) : Nat := jnK (fun _ => some q) (T.1 - 1) 1 0
def stN (T : TS) : Nat → Nat
  | 0 => 0
  | k + 1 => topF (gT T (sK T (stN T k)) (sB T (stN T k))) T.2.1
def stpA (T : TS) (x : Int32) : Int32 := if inR 1 20 x then nI (stN T x.toNatClampNeg) else - nI 2
theorem stN_le {T : TS} (hm : 2 ≤ T.2.1) : ∀ k, stN T k ≤ T.2.1
  | 0 => Nat.zero_le _
  | k + 1 => (topF_mem _ hm).2
section CZ
variable {ro : rQ} {LL : Nat} {xs : Nat → Int32} {d : Nat} {R : rR} {c : Nat → rE} {h : rH} {n m v si sg k t : Nat} {w fo : Nat → Nat} {st pd : Nat → Int32} {im : Nat → Option TS} {x y z : Int32}
theorem mean_lt {o : Nat → Nat} (hm : m ≤ 6) (hW : smF w m 1 ≤ 12) (ho : ∀ j, j < 7 → o j < 2 ^ 31) : smF (fun j => w j * o j) m 1 < 2 ^ 62 := by
  have h1 := smF_wle (w := w) (h := o) (M := 2 ^ 31) m 1 (fun j h1 h2 => by have := ho j (by omega); omega)
  have h2 : smF w m 1 * 2 ^ 31 ≤ 12 * 2 ^ 31 := Nat.mul_le_mul_right _ hW
  omega
theorem cl_mean (hV : VS (n, m, v, w, fo, si, st)) (hC : CS c (n, m, v, w, fo, si, st) sg pd im) (hk : ∀ c', frm CM c c' → CS c' (n, m, v, w, fo, si, st) sg pd im → R (some (.long (meaA (n, m, v, w, fo, si, st) x y z))) (tab c')) : rM (rRo LL xs) (d + 12) 55 0 0 [.ref 0, .int x, .int y, .int z] (tab c) R := by
  have h0 := hC.1.1
  have htt := hC.2.1.1
  have hn := hV.1
  have hm := hV.2.1
  have hW := hV.2.2.2.2.2.2.1.2
  rw [en_X9_mean]
  simp only [s_X9_mean_0, s_X9_mean_1, s_X9_mean_4, s_X9_mean_5, s_X9_mean_8, s_X9_mean_11, s_X9_mean_14, s_X9_mean_15, s_X9_mean_16, s_X9_mean_19, s_X9_mean_22, s_X9_mean_23, s_X9_mean_26, s_X9_mean_29, s_X9_mean_32, s_X9_mean_33, s_X9_mean_34, s_X9_mean_35, s_X9_mean_38, s_X9_mean_39, s_X9_mean_42, s_X9_mean_43, s_X9_mean_46, s_X9_mean_47, s_X9_mean_50, s_X9_mean_53, s_X9_mean_56, s_X9_mean_59, s_X9_mean_60, s_X9_mean_63, s_X9_mean_64, s_X9_mean_67, s_X9_mean_70, s_X9_mean_71, s_X9_mean_74, s_X9_mean_77, s_X9_mean_80, s_X9_mean_82, s_X9_mean_84, s_X9_mean_85, s_X9_mean_86, s_X9_mean_89, s_X9_mean_92, s_X9_mean_93, s_X9_mean_94, s_X9_mean_97, s_X9_mean_98, s_X9_mean_101, gl0 h0, vt_o htt (show 1 < 70 by decide)]
  refine sp_X6_hasMan htt (by decide) (by omega) ?_
  simp only [Option.toList_some, Option.toList_none, List.cons_append, List.nil_append, Option.toList, s_X9_mean_0, s_X9_mean_1, s_X9_mean_4, s_X9_mean_5, s_X9_mean_8, s_X9_mean_11, s_X9_mean_14, s_X9_mean_15, s_X9_mean_16, s_X9_mean_19, s_X9_mean_22, s_X9_mean_23, s_X9_mean_26, s_X9_mean_29, s_X9_mean_32, s_X9_mean_33, s_X9_mean_34, s_X9_mean_35, s_X9_mean_38, s_X9_mean_39, s_X9_mean_42, s_X9_mean_43, s_X9_mean_46, s_X9_mean_47, s_X9_mean_50, s_X9_mean_53, s_X9_mean_56, s_X9_mean_59, s_X9_mean_60, s_X9_mean_63, s_X9_mean_64, s_X9_mean_67, s_X9_mean_70, s_X9_mean_71, s_X9_mean_74, s_X9_mean_77, s_X9_mean_80, s_X9_mean_82, s_X9_mean_84, s_X9_mean_85, s_X9_mean_86, s_X9_mean_89, s_X9_mean_92, s_X9_mean_93, s_X9_mean_94, s_X9_mean_97, s_X9_mean_98, s_X9_mean_101, b2_0]
  refine ⟨fun hx => ?_, fun hx => sp_X9_isBit ?_⟩
  · have := hk c frm.rf hC
    rw [meaA, if_neg hx] at this
    exact this
  have hx := Decidable.not_not.mp hx
  have no : ¬ (inR 0 1 y ∧ inR 0 1 z) → R (some (.long L2)) (tab c) := fun q => by
    have := hk c frm.rf hC
    rw [meaA, if_pos hx, if_neg q] at this
    exact this
  simp only [Option.toList_some, Option.toList_none, List.cons_append, List.nil_append, Option.toList, s_X9_mean_0, s_X9_mean_1, s_X9_mean_4, s_X9_mean_5, s_X9_mean_8, s_X9_mean_11, s_X9_mean_14, s_X9_mean_15, s_X9_mean_16, s_X9_mean_19, s_X9_mean_22, s_X9_mean_23, s_X9_mean_26, s_X9_mean_29, s_X9_mean_32, s_X9_mean_33, s_X9_mean_34, s_X9_mean_35, s_X9_mean_38, s_X9_mean_39, s_X9_mean_42, s_X9_mean_43, s_X9_mean_46, s_X9_mean_47, s_X9_mean_50, s_X9_mean_53, s_X9_mean_56, s_X9_mean_59, s_X9_mean_60, s_X9_mean_63, s_X9_mean_64, s_X9_mean_67, s_X9_mean_70, s_X9_mean_71, s_X9_mean_74, s_X9_mean_77, s_X9_mean_80, s_X9_mean_82, s_X9_mean_84, s_X9_mean_85, s_X9_mean_86, s_X9_mean_89, s_X9_mean_92, s_X9_mean_93, s_X9_mean_94, s_X9_mean_97, s_X9_mean_98, s_X9_mean_101, b2_0]
  refine ⟨fun hy => no (fun q => hy q.1), fun hy => sp_X9_isBit ?_⟩
  have hy := Decidable.not_not.mp hy
  simp only [Option.toList_some, Option.toList_none, List.cons_append, List.nil_append, Option.toList, s_X9_mean_0, s_X9_mean_1, s_X9_mean_4, s_X9_mean_5, s_X9_mean_8, s_X9_mean_11, s_X9_mean_14, s_X9_mean_15, s_X9_mean_16, s_X9_mean_19, s_X9_mean_22, s_X9_mean_23, s_X9_mean_26, s_X9_mean_29, s_X9_mean_32, s_X9_mean_33, s_X9_mean_34, s_X9_mean_35, s_X9_mean_38, s_X9_mean_39, s_X9_mean_42, s_X9_mean_43, s_X9_mean_46, s_X9_mean_47, s_X9_mean_50, s_X9_mean_53, s_X9_mean_56, s_X9_mean_59, s_X9_mean_60, s_X9_mean_63, s_X9_mean_64, s_X9_mean_67, s_X9_mean_70, s_X9_mean_71, s_X9_mean_74, s_X9_mean_77, s_X9_mean_80, s_X9_mean_82, s_X9_mean_84, s_X9_mean_85, s_X9_mean_86, s_X9_mean_89, s_X9_mean_92, s_X9_mean_93, s_X9_mean_94, s_X9_mean_97, s_X9_mean_98, s_X9_mean_101, b2_0, vl_o h0]
  refine ⟨fun hz => no (fun q => hz q.2), fun hz => sp_X9_weighOthers hV hC fun c1 o1 hf1 hC1 hT1 ho1 hb1 => ?_⟩
  have hz := Decidable.not_not.mp hz
  have h01 := hC1.1.1
  have ht1 := hC1.2.1
  have htt1 := ht1.1
  have hko := oK_le (T := (n, m, v, w, fo, si, st)) (x := x) hn.2
  have hw1 := hk c1 (hf1.mono rfl) hC1
  rw [meaA, if_pos hx, if_pos ⟨hy, hz⟩] at hw1
  obtain ⟨wf, hwf, hwv⟩ := id ht1.2.1
  have hs : smF (fun j => w j * o1 j) m 1 = smF (fun j => w j * gT (n, m, v, w, fo, si, st) (oK (n, m, v, w, fo, si, st) x) (oB (n, m, v, w, fo, si, st) x) j) m 1 := smF_cg _ _ (fun j h1 h2 => by rw [ho1 j h1 (by omega)])
  have fin : ∀ u, u < 2 ^ 62 → u = (if y = 0 then smF (fun j => w j * gT (n, m, v, w, fo, si, st) (oK (n, m, v, w, fo, si, st) x) (oB (n, m, v, w, fo, si, st) x) j) m 1 else gpF w v m (oK (n, m, v, w, fo, si, st) x) (oB (n, m, v, w, fo, si, st) x)) → rU (rRo LL xs) (d + 11) tb_X9_mean R 80 [.ref 0, .int x, .int y, .int z, .null, .null] [.long (lN u)] (tab c1) := by
    intro u hu1 hu2
    simp only [s_X9_mean_0, s_X9_mean_1, s_X9_mean_4, s_X9_mean_5, s_X9_mean_8, s_X9_mean_11, s_X9_mean_14, s_X9_mean_15, s_X9_mean_16, s_X9_mean_19, s_X9_mean_22, s_X9_mean_23, s_X9_mean_26, s_X9_mean_29, s_X9_mean_32, s_X9_mean_33, s_X9_mean_34, s_X9_mean_35, s_X9_mean_38, s_X9_mean_39, s_X9_mean_42, s_X9_mean_43, s_X9_mean_46, s_X9_mean_47, s_X9_mean_50, s_X9_mean_53, s_X9_mean_56, s_X9_mean_59, s_X9_mean_60, s_X9_mean_63, s_X9_mean_64, s_X9_mean_67, s_X9_mean_70, s_X9_mean_71, s_X9_mean_74, s_X9_mean_77, s_X9_mean_80, s_X9_mean_82, s_X9_mean_84, s_X9_mean_85, s_X9_mean_86, s_X9_mean_89, s_X9_mean_92, s_X9_mean_93, s_X9_mean_94, s_X9_mean_97, s_X9_mean_98, s_X9_mean_101, gl6 h01, gg4 (cs := [4]) hT1.1 (show 25 < 70 by decide) rfl, vl_o h01, nI_add]
    refine ⟨rfl, sp_X9_lower hV hC1 (by omega) ?_⟩
    simp only [Option.toList_some, Option.toList_none, List.cons_append, List.nil_append, Option.toList, s_X9_mean_0, s_X9_mean_1, s_X9_mean_4, s_X9_mean_5, s_X9_mean_8, s_X9_mean_11, s_X9_mean_14, s_X9_mean_15, s_X9_mean_16, s_X9_mean_19, s_X9_mean_22, s_X9_mean_23, s_X9_mean_26, s_X9_mean_29, s_X9_mean_32, s_X9_mean_33, s_X9_mean_34, s_X9_mean_35, s_X9_mean_38, s_X9_mean_39, s_X9_mean_42, s_X9_mean_43, s_X9_mean_46, s_X9_mean_47, s_X9_mean_50, s_X9_mean_53, s_X9_mean_56, s_X9_mean_59, s_X9_mean_60, s_X9_mean_63, s_X9_mean_64, s_X9_mean_67, s_X9_mean_70, s_X9_mean_71, s_X9_mean_74, s_X9_mean_77, s_X9_mean_80, s_X9_mean_82, s_X9_mean_84, s_X9_mean_85, s_X9_mean_86, s_X9_mean_89, s_X9_mean_92, s_X9_mean_93, s_X9_mean_94, s_X9_mean_97, s_X9_mean_98, s_X9_mean_101]
    refine sp_X9_lowest hu1 (low_lt hW (by omega) (tm_le v).2) (low_pos hV.2.2.2.2.2.2.1.1 (tm_le v).1) ?_
    simp only [Option.toList_some, Option.toList_none, List.cons_append, List.nil_append, Option.toList, s_X9_mean_0, s_X9_mean_1, s_X9_mean_4, s_X9_mean_5, s_X9_mean_8, s_X9_mean_11, s_X9_mean_14, s_X9_mean_15, s_X9_mean_16, s_X9_mean_19, s_X9_mean_22, s_X9_mean_23, s_X9_mean_26, s_X9_mean_29, s_X9_mean_32, s_X9_mean_33, s_X9_mean_34, s_X9_mean_35, s_X9_mean_38, s_X9_mean_39, s_X9_mean_42, s_X9_mean_43, s_X9_mean_46, s_X9_mean_47, s_X9_mean_50, s_X9_mean_53, s_X9_mean_56, s_X9_mean_59, s_X9_mean_60, s_X9_mean_63, s_X9_mean_64, s_X9_mean_67, s_X9_mean_70, s_X9_mean_71, s_X9_mean_74, s_X9_mean_77, s_X9_mean_80, s_X9_mean_82, s_X9_mean_84, s_X9_mean_85, s_X9_mean_86, s_X9_mean_89, s_X9_mean_92, s_X9_mean_93, s_X9_mean_94, s_X9_mean_97, s_X9_mean_98, s_X9_mean_101]
    rw [hu2]
    exact hw1
  simp only [Option.toList_some, Option.toList_none, List.cons_append, List.nil_append, Option.toList, s_X9_mean_0, s_X9_mean_1, s_X9_mean_4, s_X9_mean_5, s_X9_mean_8, s_X9_mean_11, s_X9_mean_14, s_X9_mean_15, s_X9_mean_16, s_X9_mean_19, s_X9_mean_22, s_X9_mean_23, s_X9_mean_26, s_X9_mean_29, s_X9_mean_32, s_X9_mean_33, s_X9_mean_34, s_X9_mean_35, s_X9_mean_38, s_X9_mean_39, s_X9_mean_42, s_X9_mean_43, s_X9_mean_46, s_X9_mean_47, s_X9_mean_50, s_X9_mean_53, s_X9_mean_56, s_X9_mean_59, s_X9_mean_60, s_X9_mean_63, s_X9_mean_64, s_X9_mean_67, s_X9_mean_70, s_X9_mean_71, s_X9_mean_74, s_X9_mean_77, s_X9_mean_82, s_X9_mean_84, s_X9_mean_85, s_X9_mean_86, s_X9_mean_89, s_X9_mean_92, s_X9_mean_93, s_X9_mean_94, s_X9_mean_97, s_X9_mean_98, s_X9_mean_101, gl6 h01, gl0 h01, gt3 htt1 (show 1 < 70 by decide), vg4 hT1.1 (show 25 < 70 by decide), vt_o htt1 (show 1 < 70 by decide)]
  refine ⟨fun hy0 => sp_X4_average hT1 (by decide) hm.2 (fun j hj => by have := hV.2.2.2.2.2.1 j; omega) (gI_o hwf (by decide)) hwv ?_, fun hy0 => sp_X6_allWeights ht1 (by decide) hm.2 ?_⟩
  · simp only [Option.toList_some, Option.toList_none, List.cons_append, List.nil_append, Option.toList, s_X9_mean_0, s_X9_mean_1, s_X9_mean_4, s_X9_mean_5, s_X9_mean_8, s_X9_mean_11, s_X9_mean_14, s_X9_mean_15, s_X9_mean_16, s_X9_mean_19, s_X9_mean_22, s_X9_mean_23, s_X9_mean_26, s_X9_mean_29, s_X9_mean_32, s_X9_mean_33, s_X9_mean_34, s_X9_mean_35, s_X9_mean_38, s_X9_mean_39, s_X9_mean_42, s_X9_mean_43, s_X9_mean_46, s_X9_mean_47, s_X9_mean_50, s_X9_mean_53, s_X9_mean_56, s_X9_mean_59, s_X9_mean_60, s_X9_mean_63, s_X9_mean_64, s_X9_mean_67, s_X9_mean_70, s_X9_mean_71, s_X9_mean_74, s_X9_mean_77, s_X9_mean_82, s_X9_mean_84, s_X9_mean_85, s_X9_mean_86, s_X9_mean_89, s_X9_mean_92, s_X9_mean_93, s_X9_mean_94, s_X9_mean_97, s_X9_mean_98, s_X9_mean_101]
    exact fin _ (mean_lt hm.2 hW hb1) (by rw [if_pos hy0, hs])
  · simp only [Option.toList_some, Option.toList_none, List.cons_append, List.nil_append, Option.toList, s_X9_mean_0, s_X9_mean_1, s_X9_mean_4, s_X9_mean_5, s_X9_mean_8, s_X9_mean_11, s_X9_mean_14, s_X9_mean_15, s_X9_mean_16, s_X9_mean_19, s_X9_mean_22, s_X9_mean_23, s_X9_mean_26, s_X9_mean_29, s_X9_mean_32, s_X9_mean_33, s_X9_mean_34, s_X9_mean_35, s_X9_mean_38, s_X9_mean_39, s_X9_mean_42, s_X9_mean_43, s_X9_mean_46, s_X9_mean_47, s_X9_mean_50, s_X9_mean_53, s_X9_mean_56, s_X9_mean_59, s_X9_mean_60, s_X9_mean_63, s_X9_mean_64, s_X9_mean_67, s_X9_mean_70, s_X9_mean_71, s_X9_mean_74, s_X9_mean_77, s_X9_mean_82, s_X9_mean_84, s_X9_mean_85, s_X9_mean_86, s_X9_mean_89, s_X9_mean_92, s_X9_mean_93, s_X9_mean_94, s_X9_mean_97, s_X9_mean_98, s_X9_mean_101, vg4 hT1.1 (show 25 < 70 by decide)]
    refine sp_X4_surplus hT1 (by decide) hm (fun j hj => by have := hV.2.2.2.2.2.1 j; omega) hb1 rfl hW (gI_o hwf (by decide)) hwv ?_
    simp only [Option.toList_some, Option.toList_none, List.cons_append, List.nil_append, Option.toList, s_X9_mean_0, s_X9_mean_1, s_X9_mean_4, s_X9_mean_5, s_X9_mean_8, s_X9_mean_11, s_X9_mean_14, s_X9_mean_15, s_X9_mean_16, s_X9_mean_19, s_X9_mean_22, s_X9_mean_23, s_X9_mean_26, s_X9_mean_29, s_X9_mean_32, s_X9_mean_33, s_X9_mean_34, s_X9_mean_35, s_X9_mean_38, s_X9_mean_39, s_X9_mean_42, s_X9_mean_43, s_X9_mean_46, s_X9_mean_47, s_X9_mean_50, s_X9_mean_53, s_X9_mean_56, s_X9_mean_59, s_X9_mean_60, s_X9_mean_63, s_X9_mean_64, s_X9_mean_67, s_X9_mean_70, s_X9_mean_71, s_X9_mean_74, s_X9_mean_77, s_X9_mean_82, s_X9_mean_84, s_X9_mean_85, s_X9_mean_86, s_X9_mean_89, s_X9_mean_92, s_X9_mean_93, s_X9_mean_94, s_X9_mean_97, s_X9_mean_98, s_X9_mean_101]
    have htm := topF_mem o1 hm.1
    refine fin _ ?_ ?_
    · have h1 := hb1 (topF o1 m) (by omega)
      have h2 : smF w m 1 * o1 (topF o1 m) ≤ 12 * 2 ^ 31 := Nat.mul_le_mul hW (by omega)
      omega
    · rw [if_neg hy0, hs, gpF, ho1 _ htm.1 htm.2, topF_cg (fun j h1 h2 => ho1 j h1 h2)]
      rfl
theorem n0_le {T : TS} : n0T T ≤ wT T ^ oK T (- nI 6) := tl_le
theorem cl_nobody (hV : VS (n, m, v, w, fo, si, st)) (hC : CS c (n, m, v, w, fo, si, st) sg pd im) (hk : ∀ c', frm CM c c' → CS c' (n, m, v, w, fo, si, st) sg pd im → R (some (.long (nobA (n, m, v, w, fo, si, st) x))) (tab c')) : rM (rRo LL xs) (d + 12) 56 0 0 [.ref 0, .int x] (tab c) R := by
  have h0 := hC.1.1
  have hn := hV.1
  have hm := hV.2.1
  have hW := hV.2.2.2.2.2.2.1
  rw [en_X9_nobody]
  simp only [s_X9_nobody_0, s_X9_nobody_1, s_X9_nobody_4, s_X9_nobody_7, s_X9_nobody_10, s_X9_nobody_11, s_X9_nobody_12, s_X9_nobody_15, s_X9_nobody_16, s_X9_nobody_19, s_X9_nobody_22, s_X9_nobody_23, s_X9_nobody_24, s_X9_nobody_25, s_X9_nobody_28, s_X9_nobody_31, s_X9_nobody_32, s_X9_nobody_33, s_X9_nobody_36, s_X9_nobody_39, s_X9_nobody_42, s_X9_nobody_43, s_X9_nobody_46]
  refine sp_X9_isBit ?_
  simp only [Option.toList_some, Option.toList_none, List.cons_append, List.nil_append, Option.toList, s_X9_nobody_0, s_X9_nobody_1, s_X9_nobody_4, s_X9_nobody_7, s_X9_nobody_10, s_X9_nobody_11, s_X9_nobody_12, s_X9_nobody_15, s_X9_nobody_16, s_X9_nobody_19, s_X9_nobody_22, s_X9_nobody_23, s_X9_nobody_24, s_X9_nobody_25, s_X9_nobody_28, s_X9_nobody_31, s_X9_nobody_32, s_X9_nobody_33, s_X9_nobody_36, s_X9_nobody_39, s_X9_nobody_42, s_X9_nobody_43, s_X9_nobody_46, b2_0, vl_o h0]
  refine ⟨fun hx => ?_, fun hx => sp_X9_weighAll hV hC fun c1 o1 hf1 hC1 hT1 ho1 => ?_⟩
  · have := hk c frm.rf hC
    rw [nobA, if_neg hx] at this
    exact this
  have hx := Decidable.not_not.mp hx
  have h01 := hC1.1.1
  have htt1 := hC1.2.1.1
  have hko := oK_le (T := (n, m, v, w, fo, si, st)) (x := - nI 6) hn.2
  have hw1 := hk c1 (hf1.mono rfl) hC1
  rw [nobA, if_pos hx] at hw1
  have hle := n0_le (T := (n, m, v, w, fo, si, st))
  have hlt := low_lt (t := 1) hW.2 (show oK (n, m, v, w, fo, si, st) (- nI 6) ≤ 7 by omega) (by decide)
  have hps := low_pos (t := 1) (k := oK (n, m, v, w, fo, si, st) (- nI 6)) hW.1 (by decide)
  rw [Nat.mul_one] at hlt hps
  simp only [Option.toList_some, Option.toList_none, List.cons_append, List.nil_append, Option.toList, s_X9_nobody_0, s_X9_nobody_1, s_X9_nobody_4, s_X9_nobody_7, s_X9_nobody_10, s_X9_nobody_11, s_X9_nobody_12, s_X9_nobody_15, s_X9_nobody_16, s_X9_nobody_19, s_X9_nobody_22, s_X9_nobody_23, s_X9_nobody_24, s_X9_nobody_25, s_X9_nobody_28, s_X9_nobody_31, s_X9_nobody_32, s_X9_nobody_33, s_X9_nobody_36, s_X9_nobody_39, s_X9_nobody_42, s_X9_nobody_43, s_X9_nobody_46, gl7 h01, gl0 h01, gg1 (cs := [7]) hT1.1 (show 28 < 70 by decide) rfl, al_i hT1.2.2 (show 28 + 2 < 70 by decide) (show 0 < 7 by decide) (by decide), vt_o htt1 (show 1 < 70 by decide)]
  refine sp_X6_allWeights hC1.2.1 (by decide) hm.2 ?_
  simp only [Option.toList_some, Option.toList_none, List.cons_append, List.nil_append, Option.toList, s_X9_nobody_0, s_X9_nobody_1, s_X9_nobody_4, s_X9_nobody_7, s_X9_nobody_10, s_X9_nobody_11, s_X9_nobody_12, s_X9_nobody_15, s_X9_nobody_16, s_X9_nobody_19, s_X9_nobody_22, s_X9_nobody_23, s_X9_nobody_24, s_X9_nobody_25, s_X9_nobody_28, s_X9_nobody_31, s_X9_nobody_32, s_X9_nobody_33, s_X9_nobody_36, s_X9_nobody_39, s_X9_nobody_42, s_X9_nobody_43, s_X9_nobody_46, gl7 h01, gg4 (cs := [7]) hT1.1 (show 28 < 70 by decide) rfl, nI_l (show smF w m 1 < 2 ^ 31 by omega)]
  refine sp_X9_power (by omega) ?_
  simp only [Option.toList_some, Option.toList_none, List.cons_append, List.nil_append, Option.toList, s_X9_nobody_0, s_X9_nobody_1, s_X9_nobody_4, s_X9_nobody_7, s_X9_nobody_10, s_X9_nobody_11, s_X9_nobody_12, s_X9_nobody_15, s_X9_nobody_16, s_X9_nobody_19, s_X9_nobody_22, s_X9_nobody_23, s_X9_nobody_24, s_X9_nobody_25, s_X9_nobody_28, s_X9_nobody_31, s_X9_nobody_32, s_X9_nobody_33, s_X9_nobody_36, s_X9_nobody_39, s_X9_nobody_42, s_X9_nobody_43, s_X9_nobody_46, pwL_lN]
  refine sp_X9_lowest (by rw [ho1]; exact Nat.lt_of_le_of_lt hle hlt) hlt hps ?_
  simp only [Option.toList_some, Option.toList_none, List.cons_append, List.nil_append, Option.toList, s_X9_nobody_0, s_X9_nobody_1, s_X9_nobody_4, s_X9_nobody_7, s_X9_nobody_10, s_X9_nobody_11, s_X9_nobody_12, s_X9_nobody_15, s_X9_nobody_16, s_X9_nobody_19, s_X9_nobody_22, s_X9_nobody_23, s_X9_nobody_24, s_X9_nobody_25, s_X9_nobody_28, s_X9_nobody_31, s_X9_nobody_32, s_X9_nobody_33, s_X9_nobody_36, s_X9_nobody_39, s_X9_nobody_42, s_X9_nobody_43, s_X9_nobody_46]
  rw [ho1]
  exact hw1
theorem lcgt0 {a : Nat} (ha : a < 2 ^ 62) : (0 < lg_cmp (lN a) (lN 0)) ↔ ¬ a = 0 := by
  rw [← lcle0 ha]
  exact ⟨fun q => Int32.not_le.mpr q, fun q => Int32.not_le.mp q⟩
theorem pri_lt {a b W : Nat} (ha : a ≤ 98901) (hb : b ≤ W ^ k) (hW : W ≤ 12) (hk : k ≤ 6) : a * b < 2 ^ 62 := by
  have h1 := pow12 hW hk
  have h2 : a * b ≤ 98901 * 2985984 := Nat.mul_le_mul ha (Nat.le_trans hb h1)
  omega
theorem cl_prize (hV : VS (n, m, v, w, fo, si, st)) (hC : CS c (n, m, v, w, fo, si, st) sg pd im) (hk : ∀ c', frm CM c c' → CS c' (n, m, v, w, fo, si, st) sg pd im → R (some (.long (priA (n, m, v, w, fo, si, st) x y z))) (tab c')) : rM (rRo LL xs) (d + 12) 65 0 0 [.ref 0, .int x, .int y, .int z] (tab c) R := by
  have h0 := hC.1.1
  have hn := hV.1
  have hm := hV.2.1
  have hW := hV.2.2.2.2.2.2.1
  have no : ¬ (inR 1 999 x ∧ inR 0 99 y ∧ inR 0 1 z) → R (some (.long L2)) (tab c) := fun q => by
    have := hk c frm.rf hC
    rw [priA, if_neg q] at this
    exact this
  rw [en_X9_prize]
  simp only [s_X9_prize_0, s_X9_prize_1, s_X9_prize_2, s_X9_prize_5, s_X9_prize_6, s_X9_prize_9, s_X9_prize_12, s_X9_prize_13, s_X9_prize_16, s_X9_prize_17, s_X9_prize_19, s_X9_prize_22, s_X9_prize_23, s_X9_prize_26, s_X9_prize_29, s_X9_prize_32, s_X9_prize_33, s_X9_prize_34, s_X9_prize_37, s_X9_prize_38, s_X9_prize_41, s_X9_prize_44, s_X9_prize_45, s_X9_prize_46, s_X9_prize_49, s_X9_prize_52, s_X9_prize_55, s_X9_prize_57, s_X9_prize_59, s_X9_prize_60, s_X9_prize_63, s_X9_prize_66, s_X9_prize_67, s_X9_prize_68, s_X9_prize_69, s_X9_prize_71, s_X9_prize_73, s_X9_prize_74, s_X9_prize_75, s_X9_prize_78, s_X9_prize_81, s_X9_prize_82, s_X9_prize_83, s_X9_prize_86, s_X9_prize_87, s_X9_prize_88, s_X9_prize_90, s_X9_prize_91, s_X9_prize_93, s_X9_prize_94, s_X9_prize_97, s_X9_prize_98, s_X9_prize_99, s_X9_prize_100, s_X9_prize_101, s_X9_prize_102, s_X9_prize_104, s_X9_prize_105, s_X9_prize_107, s_X9_prize_110, s_X9_prize_111, s_X9_prize_112, s_X9_prize_115]
  refine ⟨fun hx1 => no (fun q => absurd q.1.1 (Int32.not_le.mpr hx1)), fun hx1 => ⟨fun hx2 => no (fun q => absurd q.1.2 (Int32.not_le.mpr hx2)), fun hx2 => ⟨fun hy1 => no (fun q => absurd q.2.1.1 (by rw [nI_0]; exact Int32.not_le.mpr hy1)), fun hy1 => ⟨fun hy2 => no (fun q => ?_), fun hy2 => sp_X9_isBit ?_⟩⟩⟩⟩
  · obtain ⟨a, h1, h2, rfl⟩ := inR_nI q.2.1 (by decide) (by decide)
    have := (sI_le (by decide) (by omega)).mp hy2
    omega
  have hx : inR 1 999 x := ⟨Int32.not_lt.mp hx1, Int32.not_lt.mp hx2⟩
  have hy : inR 0 99 y := by
    refine ⟨by rw [nI_0]; exact Int32.not_lt.mp hy1, ?_⟩
    have h3 := Int32.not_le.mp hy2
    rw [Int32.lt_iff_toInt_lt, nI_toInt (by omega)] at h3
    rw [Int32.le_iff_toInt_le, nI_toInt (by omega)]
    omega
  simp only [Option.toList_some, Option.toList_none, List.cons_append, List.nil_append, Option.toList, s_X9_prize_0, s_X9_prize_1, s_X9_prize_2, s_X9_prize_5, s_X9_prize_6, s_X9_prize_9, s_X9_prize_12, s_X9_prize_13, s_X9_prize_16, s_X9_prize_17, s_X9_prize_19, s_X9_prize_22, s_X9_prize_23, s_X9_prize_26, s_X9_prize_29, s_X9_prize_32, s_X9_prize_33, s_X9_prize_34, s_X9_prize_37, s_X9_prize_38, s_X9_prize_41, s_X9_prize_44, s_X9_prize_45, s_X9_prize_46, s_X9_prize_49, s_X9_prize_52, s_X9_prize_55, s_X9_prize_57, s_X9_prize_59, s_X9_prize_60, s_X9_prize_63, s_X9_prize_66, s_X9_prize_67, s_X9_prize_68, s_X9_prize_69, s_X9_prize_71, s_X9_prize_73, s_X9_prize_74, s_X9_prize_75, s_X9_prize_78, s_X9_prize_81, s_X9_prize_82, s_X9_prize_83, s_X9_prize_86, s_X9_prize_87, s_X9_prize_88, s_X9_prize_90, s_X9_prize_91, s_X9_prize_93, s_X9_prize_94, s_X9_prize_97, s_X9_prize_98, s_X9_prize_99, s_X9_prize_100, s_X9_prize_101, s_X9_prize_102, s_X9_prize_104, s_X9_prize_105, s_X9_prize_107, s_X9_prize_110, s_X9_prize_111, s_X9_prize_112, s_X9_prize_115, b2_0, vl_o h0]
  refine ⟨fun hz => no (fun q => hz q.2.2), fun hz => sp_X9_weighAll hV hC fun c1 o1 hf1 hC1 hT1 ho1 => ?_⟩
  have hz := Decidable.not_not.mp hz
  obtain ⟨a, ha1, ha2, rfl⟩ := inR_nI hx (by decide) (by decide)
  obtain ⟨b, hb1, hb2, rfl⟩ := inR_nI hy (by decide) (by decide)
  have h01 := hC1.1.1
  have htt1 := hC1.2.1.1
  have hko := oK_le (T := (n, m, v, w, fo, si, st)) (x := - nI 6) hn.2
  have hw1 := hk c1 (hf1.mono rfl) hC1
  rw [priA, if_pos ⟨hx, hy, hz⟩, nI_c (show a < 100000 by omega), nI_c (show b < 100000 by omega)] at hw1
  have hle := n0_le (T := (n, m, v, w, fo, si, st))
  have hlt := pow12 hW.2 hko
  have hle' : o1 0 ≤ smF w m 1 ^ oK (n, m, v, w, fo, si, st) (- nI 6) := by rw [ho1]; exact hle
  simp only [Option.toList_some, Option.toList_none, List.cons_append, List.nil_append, Option.toList, s_X9_prize_0, s_X9_prize_1, s_X9_prize_2, s_X9_prize_5, s_X9_prize_6, s_X9_prize_9, s_X9_prize_12, s_X9_prize_13, s_X9_prize_16, s_X9_prize_17, s_X9_prize_19, s_X9_prize_22, s_X9_prize_23, s_X9_prize_26, s_X9_prize_29, s_X9_prize_32, s_X9_prize_33, s_X9_prize_34, s_X9_prize_37, s_X9_prize_38, s_X9_prize_41, s_X9_prize_44, s_X9_prize_45, s_X9_prize_46, s_X9_prize_49, s_X9_prize_52, s_X9_prize_55, s_X9_prize_57, s_X9_prize_59, s_X9_prize_60, s_X9_prize_63, s_X9_prize_66, s_X9_prize_67, s_X9_prize_68, s_X9_prize_69, s_X9_prize_71, s_X9_prize_73, s_X9_prize_74, s_X9_prize_75, s_X9_prize_78, s_X9_prize_81, s_X9_prize_82, s_X9_prize_83, s_X9_prize_86, s_X9_prize_87, s_X9_prize_88, s_X9_prize_90, s_X9_prize_91, s_X9_prize_93, s_X9_prize_94, s_X9_prize_97, s_X9_prize_98, s_X9_prize_99, s_X9_prize_100, s_X9_prize_101, s_X9_prize_102, s_X9_prize_104, s_X9_prize_105, s_X9_prize_107, s_X9_prize_110, s_X9_prize_111, s_X9_prize_112, s_X9_prize_115, gl7 h01, gl0 h01, vt_o htt1 (show 1 < 70 by decide)]
  refine sp_X6_allWeights hC1.2.1 (by decide) hm.2 ?_
  simp only [Option.toList_some, Option.toList_none, List.cons_append, List.nil_append, Option.toList, s_X9_prize_0, s_X9_prize_1, s_X9_prize_2, s_X9_prize_5, s_X9_prize_6, s_X9_prize_9, s_X9_prize_12, s_X9_prize_13, s_X9_prize_16, s_X9_prize_17, s_X9_prize_19, s_X9_prize_22, s_X9_prize_23, s_X9_prize_26, s_X9_prize_29, s_X9_prize_32, s_X9_prize_33, s_X9_prize_34, s_X9_prize_37, s_X9_prize_38, s_X9_prize_41, s_X9_prize_44, s_X9_prize_45, s_X9_prize_46, s_X9_prize_49, s_X9_prize_52, s_X9_prize_55, s_X9_prize_57, s_X9_prize_59, s_X9_prize_60, s_X9_prize_63, s_X9_prize_66, s_X9_prize_67, s_X9_prize_68, s_X9_prize_69, s_X9_prize_71, s_X9_prize_73, s_X9_prize_74, s_X9_prize_75, s_X9_prize_78, s_X9_prize_81, s_X9_prize_82, s_X9_prize_83, s_X9_prize_86, s_X9_prize_87, s_X9_prize_88, s_X9_prize_90, s_X9_prize_91, s_X9_prize_93, s_X9_prize_94, s_X9_prize_97, s_X9_prize_98, s_X9_prize_99, s_X9_prize_100, s_X9_prize_101, s_X9_prize_102, s_X9_prize_104, s_X9_prize_105, s_X9_prize_107, s_X9_prize_110, s_X9_prize_111, s_X9_prize_112, s_X9_prize_115, gl7 h01, gg4 (cs := [7]) hT1.1 (show 28 < 70 by decide) rfl, nI_l (show smF w m 1 < 2 ^ 31 by omega)]
  refine sp_X9_power (by omega) ?_
  have hab : b * a ≤ 98901 := Nat.mul_le_mul hb2 ha2
  simp only [Option.toList_some, Option.toList_none, List.cons_append, List.nil_append, Option.toList, s_X9_prize_0, s_X9_prize_1, s_X9_prize_2, s_X9_prize_5, s_X9_prize_6, s_X9_prize_9, s_X9_prize_12, s_X9_prize_13, s_X9_prize_16, s_X9_prize_17, s_X9_prize_19, s_X9_prize_22, s_X9_prize_23, s_X9_prize_26, s_X9_prize_29, s_X9_prize_32, s_X9_prize_33, s_X9_prize_34, s_X9_prize_37, s_X9_prize_38, s_X9_prize_41, s_X9_prize_44, s_X9_prize_45, s_X9_prize_46, s_X9_prize_49, s_X9_prize_52, s_X9_prize_55, s_X9_prize_57, s_X9_prize_59, s_X9_prize_60, s_X9_prize_63, s_X9_prize_66, s_X9_prize_67, s_X9_prize_68, s_X9_prize_69, s_X9_prize_71, s_X9_prize_73, s_X9_prize_74, s_X9_prize_75, s_X9_prize_78, s_X9_prize_81, s_X9_prize_82, s_X9_prize_83, s_X9_prize_86, s_X9_prize_87, s_X9_prize_88, s_X9_prize_90, s_X9_prize_91, s_X9_prize_93, s_X9_prize_94, s_X9_prize_97, s_X9_prize_98, s_X9_prize_99, s_X9_prize_100, s_X9_prize_101, s_X9_prize_102, s_X9_prize_104, s_X9_prize_105, s_X9_prize_107, s_X9_prize_110, s_X9_prize_111, s_X9_prize_112, s_X9_prize_115, pwL_lN, gl7 h01, gg1 (cs := [7]) hT1.1 (show 28 < 70 by decide) rfl, al_i hT1.2.2 (show 28 + 2 < 70 by decide) (show 0 < 7 by decide) (by decide), lN_sub hle', lcgt0 (show smF w m 1 ^ oK (n, m, v, w, fo, si, st) (- nI 6) - o1 0 < 2 ^ 62 by omega), nI_l (show a < 2 ^ 31 by omega), nI_mul, nI_l (show b * a < 2 ^ 31 by omega), lN_mul]
  rw [ho1] at hle' ⊢
  rw [show wT (n, m, v, w, fo, si, st) = smF w m 1 from rfl] at hw1
  refine ⟨rfl, rfl, fun hq => ⟨fun hb0 => ?_, fun hb0 => ?_⟩, fun hq => ?_⟩
  · rw [if_neg (by omega), if_pos hb0] at hw1
    refine sp_X9_lowest (pri_lt (by omega) (Nat.le_refl _) hW.2 hko) (by omega) (by omega) ?_
    simp only [Option.toList_some, Option.toList_none, List.cons_append, List.nil_append, Option.toList, s_X9_prize_0, s_X9_prize_1, s_X9_prize_2, s_X9_prize_5, s_X9_prize_6, s_X9_prize_9, s_X9_prize_12, s_X9_prize_13, s_X9_prize_16, s_X9_prize_17, s_X9_prize_19, s_X9_prize_22, s_X9_prize_23, s_X9_prize_26, s_X9_prize_29, s_X9_prize_32, s_X9_prize_33, s_X9_prize_34, s_X9_prize_37, s_X9_prize_38, s_X9_prize_41, s_X9_prize_44, s_X9_prize_45, s_X9_prize_46, s_X9_prize_49, s_X9_prize_52, s_X9_prize_55, s_X9_prize_57, s_X9_prize_59, s_X9_prize_60, s_X9_prize_63, s_X9_prize_66, s_X9_prize_67, s_X9_prize_68, s_X9_prize_69, s_X9_prize_71, s_X9_prize_73, s_X9_prize_74, s_X9_prize_75, s_X9_prize_78, s_X9_prize_81, s_X9_prize_82, s_X9_prize_83, s_X9_prize_86, s_X9_prize_87, s_X9_prize_88, s_X9_prize_90, s_X9_prize_91, s_X9_prize_93, s_X9_prize_94, s_X9_prize_97, s_X9_prize_98, s_X9_prize_99, s_X9_prize_100, s_X9_prize_101, s_X9_prize_102, s_X9_prize_104, s_X9_prize_105, s_X9_prize_107, s_X9_prize_110, s_X9_prize_111, s_X9_prize_112, s_X9_prize_115]
    exact hw1
  · rw [if_neg (by omega), if_neg hb0] at hw1
    refine sp_X9_lowest (pri_lt hab (Nat.le_refl _) hW.2 hko) (by omega) (by omega) ?_
    simp only [Option.toList_some, Option.toList_none, List.cons_append, List.nil_append, Option.toList, s_X9_prize_0, s_X9_prize_1, s_X9_prize_2, s_X9_prize_5, s_X9_prize_6, s_X9_prize_9, s_X9_prize_12, s_X9_prize_13, s_X9_prize_16, s_X9_prize_17, s_X9_prize_19, s_X9_prize_22, s_X9_prize_23, s_X9_prize_26, s_X9_prize_29, s_X9_prize_32, s_X9_prize_33, s_X9_prize_34, s_X9_prize_37, s_X9_prize_38, s_X9_prize_41, s_X9_prize_44, s_X9_prize_45, s_X9_prize_46, s_X9_prize_49, s_X9_prize_52, s_X9_prize_55, s_X9_prize_57, s_X9_prize_59, s_X9_prize_60, s_X9_prize_63, s_X9_prize_66, s_X9_prize_67, s_X9_prize_68, s_X9_prize_69, s_X9_prize_71, s_X9_prize_73, s_X9_prize_74, s_X9_prize_75, s_X9_prize_78, s_X9_prize_81, s_X9_prize_82, s_X9_prize_83, s_X9_prize_86, s_X9_prize_87, s_X9_prize_88, s_X9_prize_90, s_X9_prize_91, s_X9_prize_93, s_X9_prize_94, s_X9_prize_97, s_X9_prize_98, s_X9_prize_99, s_X9_prize_100, s_X9_prize_101, s_X9_prize_102, s_X9_prize_104, s_X9_prize_105, s_X9_prize_107, s_X9_prize_110, s_X9_prize_111, s_X9_prize_112, s_X9_prize_115]
    exact hw1
  · rw [if_pos (by omega)] at hw1
    exact hw1
end CZ
