/-! ===== frames, rows as far as they go ===== -/
def frm (M : List Nat) (c c' : Nat → rE) : Prop := ∀ j, M.contains j = false → c' j = c j
theorem frm.rf {M : List Nat} {c : Nat → rE} : frm M c c := fun _ _ => rfl
theorem frm.trans {M : List Nat} {c c1 c2 : Nat → rE} (h1 : frm M c c1) (h2 : frm M c1 c2) : frm M c c2 := fun j hj => (h2 j hj).trans (h1 j hj)
theorem frm.mono {M M' : List Nat} {c c' : Nat → rE} (h : frm M c c') (hM : M.all (fun j => M'.contains j) = true) : frm M' c c' := fun j hj => h j (by
  cases hc : M.contains j
  · rfl
  · have := List.all_eq_true.mp hM j (by simpa using hc)
    rw [hj] at this
    cases this)
theorem frm.fup {M : List Nat} {c c1 : Nat → rE} {k : Nat} {e : rE} (h : frm M c c1) (hk : M.contains k = true) : frm M c (fup c1 k e) := fun j hj => by
  rw [fup_ne (fun q => by rw [q, hk] at hj; cases hj)]
  exact h j hj
/-- the row of N ints at r holds val -/
def isI (c : Nat → rE) (r N : Nat) (val : Nat → Int32) : Prop := ∃ g, c r = ints N g ∧ ∀ j, j < N → g j = val j
def isL (c : Nat → rE) (r N : Nat) (val : Nat → Int64) : Prop := ∃ g, c r = lngs N g ∧ ∀ j, j < N → g j = val j
def tyI (c : Nat → rE) (r N : Nat) : Prop := ∃ g, c r = ints N g
def tyL (c : Nat → rE) (r N : Nat) : Prop := ∃ g, c r = lngs N g
theorem isI.ty {c : Nat → rE} {r N : Nat} {val : Nat → Int32} (h : isI c r N val) : tyI c r N := h.elim fun g hg => ⟨g, hg.1⟩
theorem isL.ty {c : Nat → rE} {r N : Nat} {val : Nat → Int64} (h : isL c r N val) : tyL c r N := h.elim fun g hg => ⟨g, hg.1⟩
theorem isI.cg {c : Nat → rE} {r N : Nat} {val val' : Nat → Int32} (h : isI c r N val) (e : ∀ j, j < N → val j = val' j) : isI c r N val' := h.elim fun g hg => ⟨g, hg.1, fun j hj => (hg.2 j hj).trans (e j hj)⟩
theorem isL.cg {c : Nat → rE} {r N : Nat} {val val' : Nat → Int64} (h : isL c r N val) (e : ∀ j, j < N → val j = val' j) : isL c r N val' := h.elim fun g hg => ⟨g, hg.1, fun j hj => (hg.2 j hj).trans (e j hj)⟩
theorem isI.fr {M : List Nat} {c c' : Nat → rE} {r N : Nat} {val : Nat → Int32} (h : isI c r N val) (hf : frm M c c') (hr : M.contains r = false) : isI c' r N val := h.elim fun g hg => ⟨g, (hf r hr).trans hg.1, hg.2⟩
theorem isL.fr {M : List Nat} {c c' : Nat → rE} {r N : Nat} {val : Nat → Int64} (h : isL c r N val) (hf : frm M c c') (hr : M.contains r = false) : isL c' r N val := h.elim fun g hg => ⟨g, (hf r hr).trans hg.1, hg.2⟩
theorem tyI.fr {M : List Nat} {c c' : Nat → rE} {r N : Nat} (h : tyI c r N) (hf : frm M c c') (hr : M.contains r = false) : tyI c' r N := h.elim fun g hg => ⟨g, (hf r hr).trans hg⟩
theorem tyL.fr {M : List Nat} {c c' : Nat → rE} {r N : Nat} (h : tyL c r N) (hf : frm M c c') (hr : M.contains r = false) : tyL c' r N := h.elim fun g hg => ⟨g, (hf r hr).trans hg⟩
theorem isI_fup {c : Nat → rE} {r N : Nat} {g val : Nat → Int32} (h : ∀ j, j < N → g j = val j) : isI (fup c r (ints N g)) r N val := ⟨g, fup_self, h⟩
theorem isL_fup {c : Nat → rE} {r N : Nat} {g val : Nat → Int64} (h : ∀ j, j < N → g j = val j) : isL (fup c r (lngs N g)) r N val := ⟨g, fup_self, h⟩
/-- a place of a row, read -/
theorem ai_i {c : Nat → rE} {r N x : Nat} {val : Nat → Int32} {ro : rQ} {K : Int32 → Prop} (h : isI c r N val) (hr : r < 70) (hx : x < N) (hN : N < 100000) : rAi ro (tab c) r (nI x) K ↔ K (val x) := by
  obtain ⟨g, h1, h2⟩ := h
  rw [ai_o h1 hr, nI_c (by omega), h2 x hx]
  exact ⟨fun h => h.2, fun h => ⟨vp_n hx hN, h⟩⟩
theorem al_i {c : Nat → rE} {r N x : Nat} {val : Nat → Int64} {K : Int64 → Prop} (h : isL c r N val) (hr : r < 70) (hx : x < N) (hN : N < 100000) : rAl (tab c) r (nI x) K ↔ K (val x) := by
  obtain ⟨g, h1, h2⟩ := h
  rw [al_o h1 hr, nI_c (by omega), h2 x hx]
  exact ⟨fun h => h.2, fun h => ⟨vp_n hx hN, h⟩⟩
/-- a place of a row, written: what is known of the row then -/
theorem si_i {c : Nat → rE} {r N x : Nat} {val : Nat → Int32} {y : Int32} {K : rH → Prop} (h : isI c r N val) (hr : r < 70) (hx : x < N) (hN : N < 100000) (kk : ∀ c', frm [r] c c' → isI c' r N (upd val x y) → K (tab c')) : rSi (tab c) r (nI x) y K := by
  obtain ⟨g, h1, h2⟩ := h
  rw [si_o h1 hr, nI_c (by omega)]
  refine ⟨vp_n hx hN, kk _ (frm.rf.fup (by simp)) (isI_fup fun j hj => ?_)⟩
  by_cases hjx : j = x
  · rw [hjx, upd_self, upd_self]
  · rw [upd_ne hjx, upd_ne hjx, h2 j hj]
theorem sl_i {c : Nat → rE} {r N x : Nat} {val : Nat → Int64} {y : Int64} {K : rH → Prop} (h : isL c r N val) (hr : r < 70) (hx : x < N) (hN : N < 100000) (kk : ∀ c', frm [r] c c' → isL c' r N (vp_updL val x y) → K (tab c')) : rSl (tab c) r (nI x) y K := by
  obtain ⟨g, h1, h2⟩ := h
  rw [sl_o h1 hr, nI_c (by omega)]
  refine ⟨vp_n hx hN, kk _ (frm.rf.fup (by simp)) (isL_fup fun j hj => ?_)⟩
  by_cases hjx : j = x
  · rw [hjx, updL_self, updL_self]
  · rw [updL_ne hjx, updL_ne hjx, h2 j hj]
/-- a row that is being filled from the left -/
theorem fillI {val new : Nat → Int32} {x : Nat} {y : Int32} (h : ∀ j, j < x → val j = new j) (hy : y = new x) : ∀ j, j < x + 1 → upd val x y j = new j := by
  intro j hj
  by_cases hjx : j = x
  · rw [hjx, upd_self]; exact hy
  · rw [upd_ne hjx]; exact h j (by omega)
def pwL (v : Int64) : Nat → Int64
  | 0 => lN 1
  | k + 1 => pwL v k * v
theorem pwL_lN (a : Nat) : ∀ k, pwL (lN a) k = lN (a ^ k)
  | 0 => rfl
  | k + 1 => by rw [pwL, pwL_lN a k, lN_mul, Nat.pow_succ]
def chF : Nat → Nat → Nat
  | _, 0 => 1
  | 0, _ + 1 => 0
  | n + 1, k + 1 => chF n k + chF n (k + 1)
theorem chF_step : ∀ n, n < 7 → ∀ i, i < n → chF n i * (n - i) / (i + 1) = chF n (i + 1) ∧ chF n i * (n - i) < 1000 := by decide
theorem nI_mul (a b : Nat) : nI a * nI b = nI (a * b) := (Int32.ofNat_mul a b).symm
section ML
variable {ro : rQ} {d : Nat} {R : rR} {c : Nat → rE} {men num law si sg fr : Int32} {ru lu : Int64} {n m v r : Nat}
theorem sp_X10_in {x a b : Int32} {h : rH} (hk : R (some (.int (if a ≤ x ∧ x ≤ b then nI 1 else nI 0))) h) : rM ro (d + 1) 100 0 0 [.int x, .int a, .int b] h R := by
  rw [en_X10_in]
  simp only [s_X10_in_0, s_X10_in_1, s_X10_in_2, s_X10_in_5, s_X10_in_6, s_X10_in_7, s_X10_in_10, s_X10_in_11, s_X10_in_14, s_X10_in_15]
  refine ⟨fun h1 => ⟨Or.inl nI_0, ?_⟩, fun h1 => ⟨fun h2 => ⟨Or.inl nI_0, ?_⟩, fun h2 => ⟨Or.inr rfl, ?_⟩⟩⟩
  · rw [if_neg (fun q => absurd q.1 (Int32.not_le.mpr h1))] at hk; exact hk
  · rw [if_neg (fun q => absurd q.2 (Int32.not_le.mpr h2))] at hk; exact hk
  · rw [if_pos ⟨Int32.not_lt.mp h1, Int32.not_lt.mp h2⟩] at hk; exact hk
theorem sp_X10_isMan {x : Int32} (h53 : c 53 = mobj (nI n) num law si sg fr ru lu) (hn : 1 ≤ n) (hk : R (some (.int (if nI 0 ≤ x ∧ x ≤ nI (n - 1) then nI 1 else nI 0))) (tab c)) : rM ro (d + 2) 102 0 0 [.ref 53, .int x] (tab c) R := by
  rw [en_X10_isMan]
  simp only [s_X10_isMan_0, s_X10_isMan_1, s_X10_isMan_2, s_X10_isMan_3, s_X10_isMan_6, s_X10_isMan_7, s_X10_isMan_8, s_X10_isMan_11, gm0 h53, sI_sub hn]
  refine sp_X10_in ?_
  simp only [Option.toList_some, Option.toList_none, List.cons_append, List.nil_append, Option.toList, s_X10_isMan_0, s_X10_isMan_1, s_X10_isMan_2, s_X10_isMan_3, s_X10_isMan_6, s_X10_isMan_7, s_X10_isMan_8, s_X10_isMan_11]
  refine ⟨?_, hk⟩
  split
  · exact Or.inr rfl
  · exact Or.inl nI_0
theorem sp_X10_isNumber {x : Int32} (h53 : c 53 = mobj men (nI m) law si sg fr ru lu) (hk : R (some (.int (if nI 1 ≤ x ∧ x ≤ nI m then nI 1 else nI 0))) (tab c)) : rM ro (d + 2) 103 0 0 [.ref 53, .int x] (tab c) R := by
  rw [en_X10_isNumber]
  simp only [s_X10_isNumber_0, s_X10_isNumber_1, s_X10_isNumber_2, s_X10_isNumber_3, s_X10_isNumber_6, s_X10_isNumber_9, gm1 h53]
  refine sp_X10_in ?_
  simp only [Option.toList_some, Option.toList_none, List.cons_append, List.nil_append, Option.toList, s_X10_isNumber_0, s_X10_isNumber_1, s_X10_isNumber_2, s_X10_isNumber_3, s_X10_isNumber_6, s_X10_isNumber_9]
  refine ⟨?_, hk⟩
  split
  · exact Or.inr rfl
  · exact Or.inl nI_0
theorem sp_X10_power {b : Int64} {k : Nat} {h : rH} (hkk : k < 100000) (hk : R (some (.long (pwL b k))) h) : rM ro (d + 1) 117 0 0 [.long b, .int (nI k)] h R := by
  rw [en_X10_power]
  simp only [s_X10_power_0, s_X10_power_1, s_X10_power_2, s_X10_power_3, s_X10_power_7, s_X10_power_8, s_X10_power_11, s_X10_power_12, s_X10_power_13, s_X10_power_14, s_X10_power_15, s_X10_power_18, s_X10_power_21, s_X10_power_22]
  refine ⟨rfl, rfl, ?_⟩
  have lp : ∀ rem i, i + rem = k → rU ro d tb_X10_power R 5 [.long b, .null, .int (nI k), .long (pwL b i), .null, .int (nI i)] [] h := by
    intro rem
    induction rem with
    | zero =>
      intro i hi
      have : i = k := by omega
      subst this
      rw [s_X10_power_5]
      simp only [s_X10_power_0, s_X10_power_1, s_X10_power_2, s_X10_power_3, s_X10_power_7, s_X10_power_8, s_X10_power_11, s_X10_power_12, s_X10_power_13, s_X10_power_14, s_X10_power_15, s_X10_power_18, s_X10_power_21, s_X10_power_22]
      exact ⟨fun _ => hk, fun hc => absurd ((sI_le hkk hkk).mpr (Nat.le_refl _)) hc⟩
    | succ rem ih =>
      intro i hi
      rw [s_X10_power_5]
      simp only [s_X10_power_0, s_X10_power_1, s_X10_power_2, s_X10_power_3, s_X10_power_7, s_X10_power_8, s_X10_power_11, s_X10_power_12, s_X10_power_13, s_X10_power_14, s_X10_power_15, s_X10_power_18, s_X10_power_21, s_X10_power_22, nI_add, sI_le hkk (show i < 100000 by omega)]
      exact ⟨fun hc => absurd hc (by omega), fun _ => ⟨rfl, rfl, ih (i + 1) (by omega)⟩⟩
  exact lp k 0 (by omega)
theorem sp_X10_choose {a b : Nat} {h : rH} (ha : a ≤ 6) (hb : b ≤ a) (hk : R (some (.int (nI (chF a b)))) h) : rM ro (d + 1) 118 0 0 [.int (nI a), .int (nI b)] h R := by
  rw [en_X10_choose]
  simp only [s_X10_choose_0, s_X10_choose_1, s_X10_choose_2, s_X10_choose_3, s_X10_choose_5, s_X10_choose_6, s_X10_choose_9, s_X10_choose_10, s_X10_choose_11, s_X10_choose_12, s_X10_choose_13, s_X10_choose_14, s_X10_choose_15, s_X10_choose_16, s_X10_choose_17, s_X10_choose_18, s_X10_choose_19, s_X10_choose_22, s_X10_choose_25, s_X10_choose_26]
  refine ⟨rfl, rfl, ?_⟩
  have lp : ∀ rem i, i + rem = b → rU ro d tb_X10_choose R 4 [.int (nI a), .int (nI b), .int (nI (chF a i)), .int (nI i)] [] h := by
    intro rem
    induction rem with
    | zero =>
      intro i hi
      have : i = b := by omega
      subst this
      rw [s_X10_choose_4]
      simp only [s_X10_choose_0, s_X10_choose_1, s_X10_choose_2, s_X10_choose_3, s_X10_choose_5, s_X10_choose_6, s_X10_choose_9, s_X10_choose_10, s_X10_choose_11, s_X10_choose_12, s_X10_choose_13, s_X10_choose_14, s_X10_choose_15, s_X10_choose_16, s_X10_choose_17, s_X10_choose_18, s_X10_choose_19, s_X10_choose_22, s_X10_choose_25, s_X10_choose_26]
      exact ⟨fun _ => hk, fun hc => absurd ((sI_le (show i < 100000 by omega) (show i < 100000 by omega)).mpr (Nat.le_refl _)) hc⟩
    | succ rem ih =>
      intro i hi
      have hst := chF_step a (by omega) i (by omega)
      rw [s_X10_choose_4]
      simp only [s_X10_choose_0, s_X10_choose_1, s_X10_choose_2, s_X10_choose_3, s_X10_choose_5, s_X10_choose_6, s_X10_choose_9, s_X10_choose_10, s_X10_choose_11, s_X10_choose_12, s_X10_choose_13, s_X10_choose_14, s_X10_choose_15, s_X10_choose_16, s_X10_choose_17, s_X10_choose_18, s_X10_choose_19, s_X10_choose_22, s_X10_choose_25, s_X10_choose_26, nI_add, sI_le (show b < 100000 by omega) (show i < 100000 by omega), sI_sub (show i ≤ a by omega)]
      refine ⟨fun hc => absurd hc (by omega), fun _ => ⟨fun hz => ?_, rfl, rfl, ?_⟩⟩
      · exact absurd ((sI_eq (b := 0) (by omega) (by decide)).mp (hz.trans nI_0.symm)) (by omega)
      · rw [nI_mul, nI_div (by omega) (by omega), hst.1]
        exact ih (i + 1) (by omega)
  have h0 : chF a 0 = 1 := by cases a <;> rfl
  have := lp b 0 (by omega)
  rw [h0] at this
  exact this
theorem sp_X10_nobodyWrote (h53 : c 53 = mobj men num law si sg fr ru lu) (h58 : tyI c 58 7) (hk : ∀ c', frm [58] c c' → isI c' 58 7 (fun _ => nI 0) → R none (tab c')) : rM ro (d + 1) 111 0 0 [.ref 53] (tab c) R := by
  rw [en_X10_nobodyWrote]
  simp only [s_X10_nobodyWrote_0, s_X10_nobodyWrote_1, s_X10_nobodyWrote_3, s_X10_nobodyWrote_5, s_X10_nobodyWrote_8, s_X10_nobodyWrote_9, s_X10_nobodyWrote_12, s_X10_nobodyWrote_13, s_X10_nobodyWrote_14, s_X10_nobodyWrote_15, s_X10_nobodyWrote_18, s_X10_nobodyWrote_21]
  refine ⟨rfl, ?_⟩
  have lp : ∀ rem x c1 val, x + rem = 7 → frm [58] c c1 → isI c1 58 7 val → (∀ j, j < x → val j = nI 0) → rU ro d tb_X10_nobodyWrote R 2 [.ref 53, .int (nI x)] [] (tab c1) := by
    intro rem
    induction rem with
    | zero =>
      intro x c1 val hx hf hi hv
      have hx7 : x = 7 := by omega
      subst hx7
      rw [s_X10_nobodyWrote_2]
      simp only [s_X10_nobodyWrote_0, s_X10_nobodyWrote_1, s_X10_nobodyWrote_3, s_X10_nobodyWrote_5, s_X10_nobodyWrote_8, s_X10_nobodyWrote_9, s_X10_nobodyWrote_12, s_X10_nobodyWrote_13, s_X10_nobodyWrote_14, s_X10_nobodyWrote_15, s_X10_nobodyWrote_18, s_X10_nobodyWrote_21]
      exact ⟨fun _ => hk c1 hf (hi.cg hv), fun hc => absurd ((sI_le (by decide) (by decide)).mpr (Nat.le_refl _)) hc⟩
    | succ rem ih =>
      intro x c1 val hx hf hi hv
      rw [s_X10_nobodyWrote_2]
      simp only [s_X10_nobodyWrote_0, s_X10_nobodyWrote_1, s_X10_nobodyWrote_3, s_X10_nobodyWrote_5, s_X10_nobodyWrote_8, s_X10_nobodyWrote_9, s_X10_nobodyWrote_12, s_X10_nobodyWrote_13, s_X10_nobodyWrote_14, s_X10_nobodyWrote_15, s_X10_nobodyWrote_18, s_X10_nobodyWrote_21, gm9 ((hf 53 rfl).trans h53), nI_add, sI_le (show 7 < 100000 by omega) (show x < 100000 by omega)]
      refine ⟨fun hc => absurd hc (by omega), fun _ => si_i hi (by decide) (by omega) (by decide) fun c2 hf2 hi2 => ?_⟩
      exact ⟨rfl, ih (x + 1) c2 _ (by omega) (hf.trans hf2) hi2 (fillI hv rfl)⟩
  obtain ⟨g, hg⟩ := h58
  exact lp 7 0 c g (by omega) frm.rf ⟨g, hg, fun _ _ => rfl⟩ (fun j hj => absurd hj (by omega))
end ML
