/-! ===== the class: chances ===== -/
def frF (u l : Nat) (pt : Int32) : Int64 := lN ((if pt = 0 then u else l) / Nat.gcd u l)
theorem frF_sc {a u l : Nat} {pt : Int32} (ha : 0 < a) : frF (a * u) (a * l) pt = frF u l pt := by
  unfold frF
  rw [Nat.gcd_mul_left]
  congr 1
  split
  · exact Nat.mul_div_mul_left _ _ ha
  · exact Nat.mul_div_mul_left _ _ ha
abbrev L1 : Int64 := - lN 1000000000000000001
abbrev L2 : Int64 := - lN 1000000000000000002
abbrev L3 : Int64 := - lN 1000000000000000003
abbrev L5 : Int64 := - lN 1000000000000000005
def oB (T : TS) (x : Int32) : Nat → Int32 := jnB (othQ T.2.2.2.2.1 x) T.1 0 zrB
def oK (T : TS) (x : Int32) : Nat := jnK (othQ T.2.2.2.2.1 x) T.1 0 0
def gT (T : TS) (k : Nat) (b : Nat → Int32) (j : Nat) : Nat := gnF T.2.2.2.1 T.2.2.1 T.2.1 k b j
def wT (T : TS) : Nat := smF T.2.2.2.1 T.2.1 1
def worA (T : TS) (x y z : Int32) : Int64 := if inR 0 (T.1 - 1) x ∧ inR 1 T.2.1 y then (if inR 0 1 z then frF (gT T (oK T x) (oB T x) y.toNatClampNeg) (wT T ^ oK T x * tmF T.2.2.1) z else L2) else L1
def besA (T : TS) (x : Int32) : Int32 := if inR 0 (T.1 - 1) x then nI (topF (gT T (oK T x) (oB T x)) T.2.1) else - nI 1
def meaA (T : TS) (x y z : Int32) : Int64 := if inR 0 (T.1 - 1) x then (if inR 0 1 y ∧ inR 0 1 z then frF (if y = 0 then smF (fun j => T.2.2.2.1 j * gT T (oK T x) (oB T x) j) T.2.1 1 else gpF T.2.2.2.1 T.2.2.1 T.2.1 (oK T x) (oB T x)) (wT T ^ (oK T x + 1) * tmF T.2.2.1) z else L2) else L1
def n0T (T : TS) : Nat := tlF T.2.2.2.1 T.2.2.1 T.2.1 (oK T (- nI 6)) (oB T (- nI 6)) 0
def nobA (T : TS) (z : Int32) : Int64 := if inR 0 1 z then frF (n0T T) (wT T ^ oK T (- nI 6)) z else L2
def priA (T : TS) (x y z : Int32) : Int64 := if inR 1 999 x ∧ inR 0 99 y ∧ inR 0 1 z then (if n0T T = wT T ^ oK T (- nI 6) then L3 else if y = 0 then frF (x.toNatClampNeg * wT T ^ oK T (- nI 6)) (wT T ^ oK T (- nI 6) - n0T T) z else frF (y.toNatClampNeg * x.toNatClampNeg * wT T ^ oK T (- nI 6)) ((wT T ^ oK T (- nI 6) - n0T T) * 100) z) else L2
theorem tm_le (v : Nat) : 1 ≤ tmF v ∧ tmF v ≤ 2 := by unfold tmF; split <;> omega
theorem none6 {i : Nat} (hi : i < 100000) : ¬ nI i = - nI 6 := by
  intro e
  have := nI_toInt (n := i) (by omega)
  rw [e] at this
  have h2 : (- nI 6 : Int32).toInt = -6 := by decide
  omega
theorem VS.vt {n m v si k : Nat} {w fo : Nat → Nat} {st : Nat → Int32} (h : VS (n, m, v, w, fo, si, st)) (hk : k ≤ 6) : VT m v k w := ⟨h.2.1, h.2.2.1, hk, fun j _ => by have := h.2.2.2.2.2.1 j; omega, h.2.2.2.2.2.2.1.2⟩
theorem tpF_cg {h g : Nat → Nat} : ∀ r x t, h t = g t → (∀ j, x ≤ j → j < x + r → h j = g j) → tpF h r x t = tpF g r x t
  | 0, _, _, _, _ => rfl
  | r + 1, x, t, ht, hj => by
    rw [tpF, tpF, ht, hj x (Nat.le_refl _) (by omega), tpF_cg r (x + 1) x (hj x (Nat.le_refl _) (by omega)) (fun j h1 h2 => hj j (by omega) (by omega)), tpF_cg r (x + 1) t ht (fun j h1 h2 => hj j (by omega) (by omega))]
theorem topF_cg {h g : Nat → Nat} {m : Nat} (hj : ∀ j, 1 ≤ j → j ≤ m → h j = g j) : topF h m = topF g m := by
  unfold topF
  by_cases hm : m = 0
  · subst hm; rfl
  · exact tpF_cg _ _ _ (hj 1 (by omega) (by omega)) (fun j h1 h2 => hj j (by omega) (by omega))
section CZ
variable {ro : rQ} {LL : Nat} {xs : Nat → Int32} {d : Nat} {R : rR} {c : Nat → rE} {h : rH} {n m v si sg k t : Nat} {w fo : Nat → Nat} {st pd : Nat → Int32} {im : Nat → Option TS} {x y z : Int32}
theorem inF_le {ci v m : Nat} {f : Nat → Int32} {x : Nat} : inF ci v m f x ≤ 1 := by
  unfold inF
  split
  · split <;> omega
  · split <;> omega
theorem TG.gsc {ci g v m k : Nat} {b : Nat → Int32} {o : Nat → Nat} (h : TG c ci g v m k b o) : gsc c ci g := ⟨⟨_, _, _, h.1⟩, h.2.1.ty, h.2.2.ty⟩
theorem FFb {ci v m k j : Nat} {b : Nat → Int32} (hW : smF w m 1 ≤ 12) (hk : k ≤ 6) : FF w (fun f => inF ci v m f j) m 1 k b < 2 ^ 31 := by
  have h1 := FF_le (w := w) (g := fun f => inF ci v m f j) (m := m) (x := 1) (fun f => inF_le) k b
  have h2 := pow12 hW hk
  omega
/-- the class' gains (at 25), all joined: run -/
theorem run25 {b : Nat → Int32} (hV : VS (n, m, v, w, fo, si, st)) (hC : CS c (n, m, v, w, fo, si, st) sg pd im) {c2 : Nat → rE} (hk6 : k ≤ 6) (hf : frm [25, 26] c c2) (e0 : c2 25 = gobj 4 25 (nI v) (nI m) (nI k)) (e1 : isI c2 26 7 b)
    (hk : ∀ c' o', frm [25, 26, 27] c c' → CS c' (n, m, v, w, fo, si, st) sg pd im → TG c' 4 25 v m k b o' → (∀ j, 1 ≤ j → j ≤ m → o' j = gnF w v m k b j) → (∀ j, j < 7 → o' j < 2 ^ 31) → R none (tab c')) : rM (rRo LL xs) (d + 10) 41 0 0 [.ref 25, .ref 2] (tab c2) R := by
  have ht := hC.2.1
  obtain ⟨-, -, hg2⟩ := hC.2.2.2.2.2.1
  refine sp_X7_run (Or.inl rfl) (by decide) hV.2.1 hV.2.2.1 hk6 (fun j _ => by have := hV.2.2.2.2.2.1 j; omega) e0 e1 (hg2.fr hf rfl) (Or.inl ⟨by decide, by decide, by decide, by decide, ht.2.1.fr hf rfl⟩) fun c3 o3 hf3 hT3 ho3 => ?_
  have hff : frm [25, 26, 27] c c3 := (hf.mono rfl).trans (hf3.mono rfl)
  refine hk c3 o3 hff (hC.ga hff hT3.gsc) hT3 (fun j h1 h2 => ?_) (fun j hj => ?_)
  · rw [ho3 j (by have := hV.2.1; omega), inF_gn ⟨h1, h2⟩]
  · rw [ho3 j hj]; exact FFb hV.2.2.2.2.2.2.1.2 hk6
theorem sp_X9_weighOthers (hV : VS (n, m, v, w, fo, si, st)) (hC : CS c (n, m, v, w, fo, si, st) sg pd im) (hk : ∀ c' o', frm [25, 26, 27] c c' → CS c' (n, m, v, w, fo, si, st) sg pd im → TG c' 4 25 v m (oK (n, m, v, w, fo, si, st) x) (oB (n, m, v, w, fo, si, st) x) o' → (∀ j, 1 ≤ j → j ≤ m → o' j = gT (n, m, v, w, fo, si, st) (oK (n, m, v, w, fo, si, st) x) (oB (n, m, v, w, fo, si, st) x) j) → (∀ j, j < 7 → o' j < 2 ^ 31) → R none (tab c')) : rM (rRo LL xs) (d + 11) 82 0 0 [.ref 0, .int x] (tab c) R := by
  have h0 := hC.1.1
  have ht := hC.2.1
  have htt := ht.1
  obtain ⟨⟨a0, a1, a2, hg⟩, hg1, hg2⟩ := hC.2.2.2.2.2.1
  have hn := hV.1
  have hm := hV.2.1
  rw [en_X9_weighOthers]
  simp only [s_X9_weighOthers_0, s_X9_weighOthers_1, s_X9_weighOthers_4, s_X9_weighOthers_5, s_X9_weighOthers_8, s_X9_weighOthers_11, s_X9_weighOthers_12, s_X9_weighOthers_15, s_X9_weighOthers_18, s_X9_weighOthers_21, s_X9_weighOthers_22, s_X9_weighOthers_24, s_X9_weighOthers_25, s_X9_weighOthers_28, s_X9_weighOthers_31, s_X9_weighOthers_34, s_X9_weighOthers_35, s_X9_weighOthers_36, s_X9_weighOthers_39, s_X9_weighOthers_40, s_X9_weighOthers_43, s_X9_weighOthers_44, s_X9_weighOthers_47, s_X9_weighOthers_50, s_X9_weighOthers_51, s_X9_weighOthers_52, s_X9_weighOthers_55, s_X9_weighOthers_58, s_X9_weighOthers_61, s_X9_weighOthers_62, s_X9_weighOthers_65, s_X9_weighOthers_66, s_X9_weighOthers_69, s_X9_weighOthers_72, s_X9_weighOthers_75, gl6 h0, gl0 h0, gt2 htt (show 1 < 70 by decide), gt1 htt (show 1 < 70 by decide), vg4 hg (show 25 < 70 by decide)]
  refine sp_X7_clear hg (Or.inl rfl) (by decide) hg1 fun c1 hf1 e1 b1 => ?_
  simp only [Option.toList_some, Option.toList_none, List.cons_append, List.nil_append, Option.toList, s_X9_weighOthers_0, s_X9_weighOthers_1, s_X9_weighOthers_4, s_X9_weighOthers_5, s_X9_weighOthers_8, s_X9_weighOthers_11, s_X9_weighOthers_12, s_X9_weighOthers_15, s_X9_weighOthers_18, s_X9_weighOthers_21, s_X9_weighOthers_22, s_X9_weighOthers_24, s_X9_weighOthers_25, s_X9_weighOthers_28, s_X9_weighOthers_31, s_X9_weighOthers_34, s_X9_weighOthers_35, s_X9_weighOthers_36, s_X9_weighOthers_39, s_X9_weighOthers_40, s_X9_weighOthers_43, s_X9_weighOthers_44, s_X9_weighOthers_47, s_X9_weighOthers_50, s_X9_weighOthers_51, s_X9_weighOthers_52, s_X9_weighOthers_55, s_X9_weighOthers_58, s_X9_weighOthers_61, s_X9_weighOthers_62, s_X9_weighOthers_65, s_X9_weighOthers_66, s_X9_weighOthers_69, s_X9_weighOthers_72, s_X9_weighOthers_75]
  refine ⟨rfl, ?_⟩
  have lp : ∀ rem i c2 b k, i + rem = n → k ≤ i → frm [25, 26] c c2 → c2 25 = gobj 4 25 (nI v) (nI m) (nI k) → isI c2 26 7 b → jnB (othQ fo x) rem i b = oB (n, m, v, w, fo, si, st) x → jnK (othQ fo x) rem i k = oK (n, m, v, w, fo, si, st) x → rU (rRo LL xs) (d + 10) tb_X9_weighOthers R 23 [.ref 0, .int x, .int (nI i)] [] (tab c2) := by
    intro rem
    induction rem with
    | zero =>
      intro i c2 b k hi hki hf e0 e1 hB hK
      have : i = n := by omega
      subst this
      rw [jnB] at hB
      rw [jnK] at hK
      subst hB
      subst hK
      have h0' := (hf 0 rfl).trans h0
      have htt' := (hf 1 rfl).trans htt
      rw [s_X9_weighOthers_23]
      simp only [s_X9_weighOthers_0, s_X9_weighOthers_1, s_X9_weighOthers_4, s_X9_weighOthers_5, s_X9_weighOthers_8, s_X9_weighOthers_11, s_X9_weighOthers_12, s_X9_weighOthers_15, s_X9_weighOthers_18, s_X9_weighOthers_21, s_X9_weighOthers_22, s_X9_weighOthers_24, s_X9_weighOthers_25, s_X9_weighOthers_28, s_X9_weighOthers_31, s_X9_weighOthers_34, s_X9_weighOthers_35, s_X9_weighOthers_36, s_X9_weighOthers_39, s_X9_weighOthers_40, s_X9_weighOthers_43, s_X9_weighOthers_44, s_X9_weighOthers_47, s_X9_weighOthers_50, s_X9_weighOthers_51, s_X9_weighOthers_52, s_X9_weighOthers_55, s_X9_weighOthers_58, s_X9_weighOthers_61, s_X9_weighOthers_62, s_X9_weighOthers_65, s_X9_weighOthers_66, s_X9_weighOthers_69, s_X9_weighOthers_72, s_X9_weighOthers_75, gl6 h0', gl0 h0', gt0 htt' (show 1 < 70 by decide), gt3 htt' (show 1 < 70 by decide), vg4 e0 (show 25 < 70 by decide)]
      refine ⟨fun _ => run25 hV hC (by omega) hf e0 e1 fun c3 o3 hf3 hC3 hT3 ho3 hb3 => ?_, fun hc => absurd ((sI_le (by omega) (by omega)).mpr (Nat.le_refl _)) hc⟩
      simp only [Option.toList_some, Option.toList_none, List.cons_append, List.nil_append, Option.toList, s_X9_weighOthers_0, s_X9_weighOthers_1, s_X9_weighOthers_4, s_X9_weighOthers_5, s_X9_weighOthers_8, s_X9_weighOthers_11, s_X9_weighOthers_12, s_X9_weighOthers_15, s_X9_weighOthers_18, s_X9_weighOthers_21, s_X9_weighOthers_22, s_X9_weighOthers_24, s_X9_weighOthers_25, s_X9_weighOthers_28, s_X9_weighOthers_31, s_X9_weighOthers_34, s_X9_weighOthers_35, s_X9_weighOthers_36, s_X9_weighOthers_39, s_X9_weighOthers_40, s_X9_weighOthers_43, s_X9_weighOthers_44, s_X9_weighOthers_47, s_X9_weighOthers_50, s_X9_weighOthers_51, s_X9_weighOthers_52, s_X9_weighOthers_55, s_X9_weighOthers_58, s_X9_weighOthers_61, s_X9_weighOthers_62, s_X9_weighOthers_65, s_X9_weighOthers_66, s_X9_weighOthers_69, s_X9_weighOthers_72, s_X9_weighOthers_75]
      exact hk c3 o3 hf3 hC3 hT3 ho3 hb3
    | succ rem ih =>
      intro i c2 b k hi hki hf e0 e1 hB hK
      rw [jnB] at hB
      rw [jnK] at hK
      have h0' := (hf 0 rfl).trans h0
      have htt' := (hf 1 rfl).trans htt
      have hfi := hV.2.2.2.2.2.2.2.1 i
      rw [s_X9_weighOthers_23]
      simp only [s_X9_weighOthers_0, s_X9_weighOthers_1, s_X9_weighOthers_4, s_X9_weighOthers_5, s_X9_weighOthers_8, s_X9_weighOthers_11, s_X9_weighOthers_12, s_X9_weighOthers_15, s_X9_weighOthers_18, s_X9_weighOthers_21, s_X9_weighOthers_22, s_X9_weighOthers_24, s_X9_weighOthers_25, s_X9_weighOthers_28, s_X9_weighOthers_31, s_X9_weighOthers_34, s_X9_weighOthers_35, s_X9_weighOthers_36, s_X9_weighOthers_39, s_X9_weighOthers_40, s_X9_weighOthers_43, s_X9_weighOthers_44, s_X9_weighOthers_47, s_X9_weighOthers_50, s_X9_weighOthers_51, s_X9_weighOthers_52, s_X9_weighOthers_55, s_X9_weighOthers_58, s_X9_weighOthers_61, s_X9_weighOthers_62, s_X9_weighOthers_65, s_X9_weighOthers_66, s_X9_weighOthers_69, s_X9_weighOthers_72, s_X9_weighOthers_75, gl6 h0', gl0 h0', gt0 htt' (show 1 < 70 by decide), gt4 htt' (show 1 < 70 by decide), vg4 e0 (show 25 < 70 by decide), sI_le (show n < 100000 by omega) (show i < 100000 by omega), ai_i (ht.2.2.1.fr hf rfl) (show 1 + 2 < 70 by decide) (show i < 6 by omega) (by decide), nI_add]
      refine ⟨fun hc => absurd hc (by omega), fun _ => ⟨fun hx => ⟨rfl, ?_⟩, fun hx => ?_⟩⟩
      · rw [show othQ fo x i = none by rw [othQ, if_pos hx]] at hB hK
        exact ih (i + 1) c2 b k (by omega) (by omega) hf e0 e1 hB hK
      · rw [show othQ fo x i = some (fo i) by rw [othQ, if_neg hx]] at hB hK
        refine sp_X7_join e0 (Or.inl rfl) (by decide) e1 hm.2 hfi fun c3 hf3 e03 e13 => ?_
        simp only [Option.toList_some, Option.toList_none, List.cons_append, List.nil_append, Option.toList, s_X9_weighOthers_0, s_X9_weighOthers_1, s_X9_weighOthers_4, s_X9_weighOthers_5, s_X9_weighOthers_8, s_X9_weighOthers_11, s_X9_weighOthers_12, s_X9_weighOthers_15, s_X9_weighOthers_18, s_X9_weighOthers_21, s_X9_weighOthers_22, s_X9_weighOthers_24, s_X9_weighOthers_25, s_X9_weighOthers_28, s_X9_weighOthers_31, s_X9_weighOthers_34, s_X9_weighOthers_35, s_X9_weighOthers_36, s_X9_weighOthers_39, s_X9_weighOthers_40, s_X9_weighOthers_43, s_X9_weighOthers_44, s_X9_weighOthers_47, s_X9_weighOthers_50, s_X9_weighOthers_51, s_X9_weighOthers_52, s_X9_weighOthers_55, s_X9_weighOthers_58, s_X9_weighOthers_61, s_X9_weighOthers_62, s_X9_weighOthers_65, s_X9_weighOthers_66, s_X9_weighOthers_69, s_X9_weighOthers_72, s_X9_weighOthers_75, nI_add]
        refine ⟨rfl, ?_⟩
        by_cases hz : fo i = 0
        · rw [hz] at hB hK
          rw [if_pos hz] at e03 e13
          exact ih (i + 1) c3 b (k + 1) (by omega) (by omega) (hf.trans hf3) e03 e13 hB hK
        · obtain ⟨y, hy⟩ : ∃ y, fo i = y + 1 := ⟨fo i - 1, by omega⟩
          rw [if_neg hz] at e03 e13
          rw [hy] at hB hK e13
          exact ih (i + 1) c3 _ k (by omega) (by omega) (hf.trans hf3) e03 e13 hB hK
  exact lp n 0 c1 zrB 0 (by omega) (Nat.le_refl _) hf1 e1 b1 rfl rfl
theorem sp_X9_weighAll (hV : VS (n, m, v, w, fo, si, st)) (hC : CS c (n, m, v, w, fo, si, st) sg pd im) (hk : ∀ c' o', frm [28, 29, 30] c c' → CS c' (n, m, v, w, fo, si, st) sg pd im → TG c' 7 28 v m (oK (n, m, v, w, fo, si, st) (- nI 6)) (oB (n, m, v, w, fo, si, st) (- nI 6)) o' → o' 0 = n0T (n, m, v, w, fo, si, st) → R none (tab c')) : rM (rRo LL xs) (d + 11) 84 0 0 [.ref 0] (tab c) R := by
  have h0 := hC.1.1
  have ht := hC.2.1
  have htt := ht.1
  obtain ⟨⟨a0, a1, a2, hg⟩, hg1, hg2⟩ := hC.2.2.2.2.2.2.1
  have hn := hV.1
  have hm := hV.2.1
  rw [en_X9_weighAll]
  simp only [s_X9_weighAll_0, s_X9_weighAll_1, s_X9_weighAll_4, s_X9_weighAll_5, s_X9_weighAll_8, s_X9_weighAll_11, s_X9_weighAll_12, s_X9_weighAll_15, s_X9_weighAll_18, s_X9_weighAll_21, s_X9_weighAll_22, s_X9_weighAll_24, s_X9_weighAll_25, s_X9_weighAll_28, s_X9_weighAll_31, s_X9_weighAll_34, s_X9_weighAll_35, s_X9_weighAll_38, s_X9_weighAll_39, s_X9_weighAll_42, s_X9_weighAll_45, s_X9_weighAll_46, s_X9_weighAll_47, s_X9_weighAll_50, s_X9_weighAll_53, s_X9_weighAll_56, s_X9_weighAll_57, s_X9_weighAll_60, s_X9_weighAll_61, s_X9_weighAll_64, s_X9_weighAll_67, s_X9_weighAll_70, gl7 h0, gl0 h0, gt2 htt (show 1 < 70 by decide), gt1 htt (show 1 < 70 by decide), vg7 hg (show 28 < 70 by decide)]
  refine sp_X7_clear hg (Or.inr rfl) (by decide) hg1 fun c1 hf1 e1 b1 => ?_
  simp only [Option.toList_some, Option.toList_none, List.cons_append, List.nil_append, Option.toList, s_X9_weighAll_0, s_X9_weighAll_1, s_X9_weighAll_4, s_X9_weighAll_5, s_X9_weighAll_8, s_X9_weighAll_11, s_X9_weighAll_12, s_X9_weighAll_15, s_X9_weighAll_18, s_X9_weighAll_21, s_X9_weighAll_22, s_X9_weighAll_24, s_X9_weighAll_25, s_X9_weighAll_28, s_X9_weighAll_31, s_X9_weighAll_34, s_X9_weighAll_35, s_X9_weighAll_38, s_X9_weighAll_39, s_X9_weighAll_42, s_X9_weighAll_45, s_X9_weighAll_46, s_X9_weighAll_47, s_X9_weighAll_50, s_X9_weighAll_53, s_X9_weighAll_56, s_X9_weighAll_57, s_X9_weighAll_60, s_X9_weighAll_61, s_X9_weighAll_64, s_X9_weighAll_67, s_X9_weighAll_70]
  refine ⟨rfl, ?_⟩
  have lp : ∀ rem i c2 b k, i + rem = n → k ≤ i → frm [28, 29] c c2 → c2 28 = gobj 7 28 (nI v) (nI m) (nI k) → isI c2 29 7 b → jnB (othQ fo (- nI 6)) rem i b = oB (n, m, v, w, fo, si, st) (- nI 6) → jnK (othQ fo (- nI 6)) rem i k = oK (n, m, v, w, fo, si, st) (- nI 6) → rU (rRo LL xs) (d + 10) tb_X9_weighAll R 23 [.ref 0, .int (nI i)] [] (tab c2) := by
    intro rem
    induction rem with
    | zero =>
      intro i c2 b k hi hki hf e0 e1 hB hK
      have : i = n := by omega
      subst this
      rw [jnB] at hB
      rw [jnK] at hK
      subst hB
      subst hK
      have h0' := (hf 0 rfl).trans h0
      have htt' := (hf 1 rfl).trans htt
      rw [s_X9_weighAll_23]
      simp only [s_X9_weighAll_0, s_X9_weighAll_1, s_X9_weighAll_4, s_X9_weighAll_5, s_X9_weighAll_8, s_X9_weighAll_11, s_X9_weighAll_12, s_X9_weighAll_15, s_X9_weighAll_18, s_X9_weighAll_21, s_X9_weighAll_22, s_X9_weighAll_24, s_X9_weighAll_25, s_X9_weighAll_28, s_X9_weighAll_31, s_X9_weighAll_34, s_X9_weighAll_35, s_X9_weighAll_38, s_X9_weighAll_39, s_X9_weighAll_42, s_X9_weighAll_45, s_X9_weighAll_46, s_X9_weighAll_47, s_X9_weighAll_50, s_X9_weighAll_53, s_X9_weighAll_56, s_X9_weighAll_57, s_X9_weighAll_60, s_X9_weighAll_61, s_X9_weighAll_64, s_X9_weighAll_67, s_X9_weighAll_70, gl7 h0', gl0 h0', gt0 htt' (show 1 < 70 by decide), gt3 htt' (show 1 < 70 by decide), vg7 e0 (show 28 < 70 by decide)]
      refine ⟨fun _ => sp_X7_run (Or.inr rfl) (by decide) hm hV.2.2.1 (by omega) (fun j _ => by have := hV.2.2.2.2.2.1 j; omega) e0 e1 (hg2.fr hf rfl) (Or.inl ⟨by decide, by decide, by decide, by decide, ht.2.1.fr hf rfl⟩) fun c3 o3 hf3 hT3 ho3 => ?_, fun hc => absurd ((sI_le (by omega) (by omega)).mpr (Nat.le_refl _)) hc⟩
      have hff : frm [28, 29, 30] c c3 := (hf.mono rfl).trans (hf3.mono rfl)
      simp only [Option.toList_some, Option.toList_none, List.cons_append, List.nil_append, Option.toList, s_X9_weighAll_0, s_X9_weighAll_1, s_X9_weighAll_4, s_X9_weighAll_5, s_X9_weighAll_8, s_X9_weighAll_11, s_X9_weighAll_12, s_X9_weighAll_15, s_X9_weighAll_18, s_X9_weighAll_21, s_X9_weighAll_22, s_X9_weighAll_24, s_X9_weighAll_25, s_X9_weighAll_28, s_X9_weighAll_31, s_X9_weighAll_34, s_X9_weighAll_35, s_X9_weighAll_38, s_X9_weighAll_39, s_X9_weighAll_42, s_X9_weighAll_45, s_X9_weighAll_46, s_X9_weighAll_47, s_X9_weighAll_50, s_X9_weighAll_53, s_X9_weighAll_56, s_X9_weighAll_57, s_X9_weighAll_60, s_X9_weighAll_61, s_X9_weighAll_64, s_X9_weighAll_67, s_X9_weighAll_70]
      refine hk c3 o3 hff (hC.wi hff hT3.gsc) hT3 ?_
      rw [ho3 0 (by decide), inF_tl]
      rfl
    | succ rem ih =>
      intro i c2 b k hi hki hf e0 e1 hB hK
      rw [jnB] at hB
      rw [jnK] at hK
      have h0' := (hf 0 rfl).trans h0
      have htt' := (hf 1 rfl).trans htt
      have hfi := hV.2.2.2.2.2.2.2.1 i
      rw [show othQ fo (- nI 6) i = some (fo i) by rw [othQ, if_neg (none6 (by omega))]] at hB hK
      rw [s_X9_weighAll_23]
      simp only [s_X9_weighAll_0, s_X9_weighAll_1, s_X9_weighAll_4, s_X9_weighAll_5, s_X9_weighAll_8, s_X9_weighAll_11, s_X9_weighAll_12, s_X9_weighAll_15, s_X9_weighAll_18, s_X9_weighAll_21, s_X9_weighAll_22, s_X9_weighAll_24, s_X9_weighAll_25, s_X9_weighAll_28, s_X9_weighAll_31, s_X9_weighAll_34, s_X9_weighAll_35, s_X9_weighAll_38, s_X9_weighAll_39, s_X9_weighAll_42, s_X9_weighAll_45, s_X9_weighAll_46, s_X9_weighAll_47, s_X9_weighAll_50, s_X9_weighAll_53, s_X9_weighAll_56, s_X9_weighAll_57, s_X9_weighAll_60, s_X9_weighAll_61, s_X9_weighAll_64, s_X9_weighAll_67, s_X9_weighAll_70, gl7 h0', gl0 h0', gt0 htt' (show 1 < 70 by decide), gt4 htt' (show 1 < 70 by decide), vg7 e0 (show 28 < 70 by decide), sI_le (show n < 100000 by omega) (show i < 100000 by omega), ai_i (ht.2.2.1.fr hf rfl) (show 1 + 2 < 70 by decide) (show i < 6 by omega) (by decide), nI_add]
      refine ⟨fun hc => absurd hc (by omega), fun _ => sp_X7_join e0 (Or.inr rfl) (by decide) e1 hm.2 hfi fun c3 hf3 e03 e13 => ?_⟩
      simp only [Option.toList_some, Option.toList_none, List.cons_append, List.nil_append, Option.toList, s_X9_weighAll_0, s_X9_weighAll_1, s_X9_weighAll_4, s_X9_weighAll_5, s_X9_weighAll_8, s_X9_weighAll_11, s_X9_weighAll_12, s_X9_weighAll_15, s_X9_weighAll_18, s_X9_weighAll_21, s_X9_weighAll_22, s_X9_weighAll_24, s_X9_weighAll_25, s_X9_weighAll_28, s_X9_weighAll_31, s_X9_weighAll_34, s_X9_weighAll_35, s_X9_weighAll_38, s_X9_weighAll_39, s_X9_weighAll_42, s_X9_weighAll_45, s_X9_weighAll_46, s_X9_weighAll_47, s_X9_weighAll_50, s_X9_weighAll_53, s_X9_weighAll_56, s_X9_weighAll_57, s_X9_weighAll_60, s_X9_weighAll_61, s_X9_weighAll_64, s_X9_weighAll_67, s_X9_weighAll_70, nI_add]
      refine ⟨rfl, ?_⟩
      by_cases hz : fo i = 0
      · rw [hz] at hB hK
        rw [if_pos hz] at e03 e13
        exact ih (i + 1) c3 b (k + 1) (by omega) (by omega) (hf.trans hf3) e03 e13 hB hK
      · obtain ⟨y, hy⟩ : ∃ y, fo i = y + 1 := ⟨fo i - 1, by omega⟩
        rw [if_neg hz] at e03 e13
        rw [hy] at hB hK e13
        exact ih (i + 1) c3 _ k (by omega) (by omega) (hf.trans hf3) e03 e13 hB hK
  exact lp n 0 c1 zrB 0 (by omega) (Nat.le_refl _) hf1 e1 b1 rfl rfl
theorem sp_X9_lower (hV : VS (n, m, v, w, fo, si, st)) (hC : CS c (n, m, v, w, fo, si, st) sg pd im) (hk6 : k ≤ 7) (hk : R (some (.long (lN (wT (n, m, v, w, fo, si, st) ^ k * tmF v)))) (tab c)) : rM ro (d + 3) 81 0 0 [.ref 0, .int (nI k)] (tab c) R := by
  have h0 := hC.1.1
  have ht := hC.2.1
  have htt := ht.1
  have hW := hV.2.2.2.2.2.2.1.2
  have htm := tm_le v
  rw [en_X9_lower]
  simp only [s_X9_lower_0, s_X9_lower_1, s_X9_lower_4, s_X9_lower_7, s_X9_lower_8, s_X9_lower_9, s_X9_lower_12, s_X9_lower_13, s_X9_lower_16, s_X9_lower_19, s_X9_lower_20, s_X9_lower_21, gl0 h0, vt_o htt (show 1 < 70 by decide)]
  refine sp_X6_allWeights ht (by decide) hV.2.1.2 ?_
  simp only [Option.toList_some, Option.toList_none, List.cons_append, List.nil_append, Option.toList, s_X9_lower_0, s_X9_lower_1, s_X9_lower_4, s_X9_lower_7, s_X9_lower_8, s_X9_lower_9, s_X9_lower_12, s_X9_lower_13, s_X9_lower_16, s_X9_lower_19, s_X9_lower_20, s_X9_lower_21, nI_l (show smF w m 1 < 2 ^ 31 by omega)]
  refine sp_X9_power (by omega) ?_
  simp only [Option.toList_some, Option.toList_none, List.cons_append, List.nil_append, Option.toList, s_X9_lower_0, s_X9_lower_1, s_X9_lower_4, s_X9_lower_7, s_X9_lower_8, s_X9_lower_9, s_X9_lower_12, s_X9_lower_13, s_X9_lower_16, s_X9_lower_19, s_X9_lower_20, s_X9_lower_21, gl0 h0, vt_o htt (show 1 < 70 by decide)]
  refine sp_X6_shares htt (by decide) hV.2.2.1 ?_
  simp only [Option.toList_some, Option.toList_none, List.cons_append, List.nil_append, Option.toList, s_X9_lower_0, s_X9_lower_1, s_X9_lower_4, s_X9_lower_7, s_X9_lower_8, s_X9_lower_9, s_X9_lower_12, s_X9_lower_13, s_X9_lower_16, s_X9_lower_19, s_X9_lower_20, s_X9_lower_21, nI_l (show tmF v < 2 ^ 31 by omega), pwL_lN, lN_mul]
  exact hk
theorem oK_le {T : TS} (h : T.1 ≤ 6) : oK T x ≤ 6 := by
  have := jnK_le (othQ T.2.2.2.2.1 x) T.1 0 0
  unfold oK
  omega
theorem low_pos {W k t : Nat} (hW : 1 ≤ W) (ht : 1 ≤ t) : 0 < W ^ k * t := Nat.mul_pos (Nat.pow_pos (by omega)) (by omega)
theorem low_lt {W k t : Nat} (hW : W ≤ 12) (hk : k ≤ 7) (ht : t ≤ 2) : W ^ k * t < 2 ^ 62 := by
  have h1 : W ^ k ≤ 12 ^ k := Nat.pow_le_pow_left hW k
  have h2 : 12 ^ k ≤ 12 ^ 7 := Nat.pow_le_pow_right (by omega) hk
  have h3 : W ^ k * t ≤ 12 ^ 7 * 2 := Nat.mul_le_mul (Nat.le_trans h1 h2) ht
  have h4 : 12 ^ 7 * 2 < 2 ^ 62 := by decide
  omega
theorem cl_worth (hV : VS (n, m, v, w, fo, si, st)) (hC : CS c (n, m, v, w, fo, si, st) sg pd im) (hk : ∀ c', frm CM c c' → CS c' (n, m, v, w, fo, si, st) sg pd im → R (some (.long (worA (n, m, v, w, fo, si, st) x y z))) (tab c')) : rM (rRo LL xs) (d + 12) 53 0 0 [.ref 0, .int x, .int y, .int z] (tab c) R := by
  have h0 := hC.1.1
  have htt := hC.2.1.1
  have hn := hV.1
  have hm := hV.2.1
  have no : ¬ (inR 0 (n - 1) x ∧ inR 1 m y) → R (some (.long L1)) (tab c) := fun q => by
    have := hk c frm.rf hC
    rw [worA, if_neg q] at this
    exact this
  rw [en_X9_worth]
  simp only [s_X9_worth_0, s_X9_worth_1, s_X9_worth_4, s_X9_worth_5, s_X9_worth_8, s_X9_worth_11, s_X9_worth_12, s_X9_worth_15, s_X9_worth_16, s_X9_worth_19, s_X9_worth_22, s_X9_worth_25, s_X9_worth_26, s_X9_worth_27, s_X9_worth_30, s_X9_worth_33, s_X9_worth_36, s_X9_worth_37, s_X9_worth_38, s_X9_worth_39, s_X9_worth_42, s_X9_worth_43, s_X9_worth_46, s_X9_worth_49, s_X9_worth_50, s_X9_worth_51, s_X9_worth_52, s_X9_worth_53, s_X9_worth_56, s_X9_worth_59, s_X9_worth_62, s_X9_worth_63, s_X9_worth_66, gl0 h0, vt_o htt (show 1 < 70 by decide)]
  refine sp_X6_hasMan htt (by decide) (by omega) ?_
  simp only [Option.toList_some, Option.toList_none, List.cons_append, List.nil_append, Option.toList, s_X9_worth_0, s_X9_worth_1, s_X9_worth_4, s_X9_worth_5, s_X9_worth_8, s_X9_worth_11, s_X9_worth_12, s_X9_worth_15, s_X9_worth_16, s_X9_worth_19, s_X9_worth_22, s_X9_worth_25, s_X9_worth_26, s_X9_worth_27, s_X9_worth_30, s_X9_worth_33, s_X9_worth_36, s_X9_worth_37, s_X9_worth_38, s_X9_worth_39, s_X9_worth_42, s_X9_worth_43, s_X9_worth_46, s_X9_worth_49, s_X9_worth_50, s_X9_worth_51, s_X9_worth_52, s_X9_worth_53, s_X9_worth_56, s_X9_worth_59, s_X9_worth_62, s_X9_worth_63, s_X9_worth_66, gl0 h0, vt_o htt (show 1 < 70 by decide), b2_0]
  refine ⟨fun hx => no (fun q => hx q.1), fun hx => sp_X6_hasNumber htt (by decide) ?_⟩
  simp only [Option.toList_some, Option.toList_none, List.cons_append, List.nil_append, Option.toList, s_X9_worth_0, s_X9_worth_1, s_X9_worth_4, s_X9_worth_5, s_X9_worth_8, s_X9_worth_11, s_X9_worth_12, s_X9_worth_15, s_X9_worth_16, s_X9_worth_19, s_X9_worth_22, s_X9_worth_25, s_X9_worth_26, s_X9_worth_27, s_X9_worth_30, s_X9_worth_33, s_X9_worth_36, s_X9_worth_37, s_X9_worth_38, s_X9_worth_39, s_X9_worth_42, s_X9_worth_43, s_X9_worth_46, s_X9_worth_49, s_X9_worth_50, s_X9_worth_51, s_X9_worth_52, s_X9_worth_53, s_X9_worth_56, s_X9_worth_59, s_X9_worth_62, s_X9_worth_63, s_X9_worth_66, b2_0]
  refine ⟨fun hy => no (fun q => hy q.2), fun hy => sp_X9_isBit ?_⟩
  have hx := Decidable.not_not.mp hx
  have hy := Decidable.not_not.mp hy
  simp only [Option.toList_some, Option.toList_none, List.cons_append, List.nil_append, Option.toList, s_X9_worth_0, s_X9_worth_1, s_X9_worth_4, s_X9_worth_5, s_X9_worth_8, s_X9_worth_11, s_X9_worth_12, s_X9_worth_15, s_X9_worth_16, s_X9_worth_19, s_X9_worth_22, s_X9_worth_25, s_X9_worth_26, s_X9_worth_27, s_X9_worth_30, s_X9_worth_33, s_X9_worth_36, s_X9_worth_37, s_X9_worth_38, s_X9_worth_39, s_X9_worth_42, s_X9_worth_43, s_X9_worth_46, s_X9_worth_49, s_X9_worth_50, s_X9_worth_51, s_X9_worth_52, s_X9_worth_53, s_X9_worth_56, s_X9_worth_59, s_X9_worth_62, s_X9_worth_63, s_X9_worth_66, b2_0, vl_o h0]
  refine ⟨fun hz => ?_, fun hz => sp_X9_weighOthers hV hC fun c1 o1 hf1 hC1 hT1 ho1 hb1 => ?_⟩
  · have := hk c frm.rf hC
    rw [worA, if_pos ⟨hx, hy⟩, if_neg hz] at this
    exact this
  · have hz := Decidable.not_not.mp hz
    have h01 := hC1.1.1
    have hw1 := hk c1 (hf1.mono rfl) hC1
    rw [worA, if_pos ⟨hx, hy⟩, if_pos hz] at hw1
    obtain ⟨b, hb2, hb3, rfl⟩ := inR_nI hy (by decide) (by omega)
    rw [nI_c (show b < 100000 by omega)] at hw1
    have hko := oK_le (T := (n, m, v, w, fo, si, st)) (x := x) hn.2
    simp only [Option.toList_some, Option.toList_none, List.cons_append, List.nil_append, Option.toList, s_X9_worth_0, s_X9_worth_1, s_X9_worth_4, s_X9_worth_5, s_X9_worth_8, s_X9_worth_11, s_X9_worth_12, s_X9_worth_15, s_X9_worth_16, s_X9_worth_19, s_X9_worth_22, s_X9_worth_25, s_X9_worth_26, s_X9_worth_27, s_X9_worth_30, s_X9_worth_33, s_X9_worth_36, s_X9_worth_37, s_X9_worth_38, s_X9_worth_39, s_X9_worth_42, s_X9_worth_43, s_X9_worth_46, s_X9_worth_49, s_X9_worth_50, s_X9_worth_51, s_X9_worth_52, s_X9_worth_53, s_X9_worth_56, s_X9_worth_59, s_X9_worth_62, s_X9_worth_63, s_X9_worth_66, gl6 h01, gg1 (cs := [4]) hT1.1 (show 25 < 70 by decide) rfl, gg4 (cs := [4]) hT1.1 (show 25 < 70 by decide) rfl, al_i hT1.2.2 (show 25 + 2 < 70 by decide) (show b < 7 by omega) (by decide), vl_o h01]
    refine sp_X9_lower hV hC1 (by omega) ?_
    simp only [Option.toList_some, Option.toList_none, List.cons_append, List.nil_append, Option.toList, s_X9_worth_0, s_X9_worth_1, s_X9_worth_4, s_X9_worth_5, s_X9_worth_8, s_X9_worth_11, s_X9_worth_12, s_X9_worth_15, s_X9_worth_16, s_X9_worth_19, s_X9_worth_22, s_X9_worth_25, s_X9_worth_26, s_X9_worth_27, s_X9_worth_30, s_X9_worth_33, s_X9_worth_36, s_X9_worth_37, s_X9_worth_38, s_X9_worth_39, s_X9_worth_42, s_X9_worth_43, s_X9_worth_46, s_X9_worth_49, s_X9_worth_50, s_X9_worth_51, s_X9_worth_52, s_X9_worth_53, s_X9_worth_56, s_X9_worth_59, s_X9_worth_62, s_X9_worth_63, s_X9_worth_66]
    refine sp_X9_lowest (by have := hb1 b (by omega); omega) (low_lt hV.2.2.2.2.2.2.1.2 (by omega) (tm_le v).2) (low_pos hV.2.2.2.2.2.2.1.1 (tm_le v).1) ?_
    simp only [Option.toList_some, Option.toList_none, List.cons_append, List.nil_append, Option.toList, s_X9_worth_0, s_X9_worth_1, s_X9_worth_4, s_X9_worth_5, s_X9_worth_8, s_X9_worth_11, s_X9_worth_12, s_X9_worth_15, s_X9_worth_16, s_X9_worth_19, s_X9_worth_22, s_X9_worth_25, s_X9_worth_26, s_X9_worth_27, s_X9_worth_30, s_X9_worth_33, s_X9_worth_36, s_X9_worth_37, s_X9_worth_38, s_X9_worth_39, s_X9_worth_42, s_X9_worth_43, s_X9_worth_46, s_X9_worth_49, s_X9_worth_50, s_X9_worth_51, s_X9_worth_52, s_X9_worth_53, s_X9_worth_56, s_X9_worth_59, s_X9_worth_62, s_X9_worth_63, s_X9_worth_66]
    rw [ho1 b hb2 hb3]
    exact hw1
theorem cl_best (hV : VS (n, m, v, w, fo, si, st)) (hC : CS c (n, m, v, w, fo, si, st) sg pd im) (hk : ∀ c', frm CM c c' → CS c' (n, m, v, w, fo, si, st) sg pd im → R (some (.int (besA (n, m, v, w, fo, si, st) x))) (tab c')) : rM (rRo LL xs) (d + 12) 54 0 0 [.ref 0, .int x] (tab c) R := by
  have h0 := hC.1.1
  have htt := hC.2.1.1
  have hn := hV.1
  rw [en_X9_best]
  simp only [s_X9_best_0, s_X9_best_1, s_X9_best_4, s_X9_best_5, s_X9_best_8, s_X9_best_11, s_X9_best_12, s_X9_best_13, s_X9_best_14, s_X9_best_15, s_X9_best_18, s_X9_best_19, s_X9_best_22, s_X9_best_25, gl0 h0, vt_o htt (show 1 < 70 by decide)]
  refine sp_X6_hasMan htt (by decide) (by omega) ?_
  simp only [Option.toList_some, Option.toList_none, List.cons_append, List.nil_append, Option.toList, s_X9_best_0, s_X9_best_1, s_X9_best_4, s_X9_best_5, s_X9_best_8, s_X9_best_11, s_X9_best_12, s_X9_best_13, s_X9_best_14, s_X9_best_15, s_X9_best_18, s_X9_best_19, s_X9_best_22, s_X9_best_25, b2_0, vl_o h0]
  refine ⟨fun hx => ?_, fun hx => sp_X9_weighOthers hV hC fun c1 o1 hf1 hC1 hT1 ho1 hb1 => ?_⟩
  · have := hk c frm.rf hC
    rw [besA, if_neg hx] at this
    exact this
  · have hx := Decidable.not_not.mp hx
    have h01 := hC1.1.1
    have hw1 := hk c1 (hf1.mono rfl) hC1
    rw [besA, if_pos hx] at hw1
    simp only [Option.toList_some, Option.toList_none, List.cons_append, List.nil_append, Option.toList, s_X9_best_0, s_X9_best_1, s_X9_best_4, s_X9_best_5, s_X9_best_8, s_X9_best_11, s_X9_best_12, s_X9_best_13, s_X9_best_14, s_X9_best_15, s_X9_best_18, s_X9_best_19, s_X9_best_22, s_X9_best_25, gl6 h01, vg4 hT1.1 (show 25 < 70 by decide)]
    refine sp_X4_top hT1 (by decide) hV.2.1 hb1 ?_
    simp only [Option.toList_some, Option.toList_none, List.cons_append, List.nil_append, Option.toList, s_X9_best_0, s_X9_best_1, s_X9_best_4, s_X9_best_5, s_X9_best_8, s_X9_best_11, s_X9_best_12, s_X9_best_13, s_X9_best_14, s_X9_best_15, s_X9_best_18, s_X9_best_19, s_X9_best_22, s_X9_best_25]
    rw [topF_cg (fun j h1 h2 => ho1 j h1 h2)]
    exact hw1
end CZ
