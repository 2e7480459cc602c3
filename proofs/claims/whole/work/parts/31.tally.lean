/-! ===== the class: tallies ===== -/
theorem cnt_step {t : Int32} {f : Nat → Int32} {x y : Nat} (h : x < y) : cntF t f (y - x) x = (if f x = t then 1 else 0) + cntF t f (y - (x + 1)) (x + 1) := by
  rw [show y - x = (y - (x + 1)) + 1 by omega, cntF]
theorem nthF_iff {t : Int32} {f : Nat → Int32} {y : Nat} (hy : 1 ≤ y) : ∀ r x k, 1 ≤ x → (nthF t f r x k = y ↔ (f y = t ∧ x ≤ y ∧ y < x + r ∧ cntF t f (y - x) x = k)) := by
  intro r
  induction r with
  | zero =>
    intro x k hx
    rw [nthF]
    exact ⟨fun h => by omega, fun h => by omega⟩
  | succ r ih =>
    intro x k hx
    rw [nthF]
    by_cases hf : f x = t
    · rw [if_pos hf]
      by_cases hk : k = 0
      · rw [if_pos hk]
        constructor
        · intro e
          subst e
          exact ⟨hf, Nat.le_refl _, by omega, by rw [Nat.sub_self, hk]; rfl⟩
        · rintro ⟨h1, h2, h3, h4⟩
          by_cases e : x = y
          · exact e
          · rw [cnt_step (by omega), if_pos hf] at h4
            omega
      · rw [if_neg hk, ih (x + 1) (k - 1) (by omega)]
        constructor
        · rintro ⟨h1, h2, h3, h4⟩
          refine ⟨h1, by omega, by omega, ?_⟩
          rw [cnt_step (by omega), if_pos hf, h4]
          omega
        · rintro ⟨h1, h2, h3, h4⟩
          have hne : x ≠ y := fun e => by
            subst e
            rw [Nat.sub_self, cntF] at h4
            exact hk h4.symm
          rw [cnt_step (by omega), if_pos hf] at h4
          exact ⟨h1, by omega, by omega, by omega⟩
    · rw [if_neg hf, ih (x + 1) k (by omega)]
      constructor
      · rintro ⟨h1, h2, h3, h4⟩
        refine ⟨h1, by omega, by omega, ?_⟩
        rw [cnt_step (by omega), if_neg hf, h4]
        omega
      · rintro ⟨h1, h2, h3, h4⟩
        have hne : x ≠ y := fun e => by subst e; exact hf h1
        rw [cnt_step (by omega), if_neg hf] at h4
        exact ⟨h1, by omega, by omega, by omega⟩
theorem cnt_split {t : Int32} {f : Nat → Int32} : ∀ (a b x : Nat), cntF t f (a + b) x = cntF t f a x + cntF t f b (x + a)
  | 0, b, x => by rw [Nat.zero_add, cntF, Nat.zero_add, Nat.add_zero]
  | a + 1, b, x => by
    rw [show a + 1 + b = (a + b) + 1 by omega, cntF, cntF, cnt_split a b (x + 1), show x + 1 + a = x + (a + 1) by omega, Nat.add_assoc]
/-- one man more who writes x wins by it, just where his is the place that the law wants -/
theorem win_more {v m x : Nat} {f : Nat → Int32} (hv : v ≤ 3) (hx : 1 ≤ x ∧ x ≤ m) : winF v m (ad1 f x 1) = x ↔ (f x + nI 1 = nI (tmF v) ∧ idF v (cntF (nI (tmF v)) f m 1 + 1) = cntF (nI (tmF v)) f (x - 1) 1) := by
  have hbef : cntF (nI (tmF v)) (ad1 f x 1) (x - 1) 1 = cntF (nI (tmF v)) f (x - 1) 1 := cntF_cg _ _ (fun j h1 h2 => by unfold ad1; rw [upd_ne (by omega)])
  have hxx : ad1 f x 1 x = f x + nI 1 := upd_self
  have haft : cntF (nI (tmF v)) (ad1 f x 1) (m - x) (x + 1) = cntF (nI (tmF v)) f (m - x) (x + 1) := cntF_cg _ _ (fun j h1 h2 => by unfold ad1; rw [upd_ne (by omega)])
  have key : ∀ f' : Nat → Int32, cntF (nI (tmF v)) f' m 1 = cntF (nI (tmF v)) f' (x - 1) 1 + ((if f' x = nI (tmF v) then 1 else 0) + cntF (nI (tmF v)) f' (m - x) (x + 1)) := by
    intro f'
    rw [show m = (x - 1) + ((m - x) + 1) by omega, cnt_split, show 1 + (x - 1) = x by omega, cntF, show (x - 1) + ((m - x) + 1) - x = m - x by omega]
  by_cases hfx : f x + nI 1 = nI (tmF v)
  · have hne : ¬ f x = nI (tmF v) := by
      intro e
      rw [e] at hfx
      have : nI (tmF v) + nI 1 = nI (tmF v + 1) := nI_add _ _
      rw [this] at hfx
      have h2 : tmF v ≤ 2 := by unfold tmF; split <;> omega
      have := (sI_eq (by omega) (by omega)).mp hfx
      omega
    have hc : cntF (nI (tmF v)) (ad1 f x 1) m 1 = cntF (nI (tmF v)) f m 1 + 1 := by
      rw [key, key f, hbef, haft, hxx, if_pos hfx, if_neg hne]
      omega
    rw [winF, if_neg (by rw [hc]; omega), nthF_iff hx.1 m 1 _ (by omega), hc, hxx, hbef]
    exact ⟨fun h => ⟨h.1, h.2.2.2.symm⟩, fun h => ⟨h.1, hx.1, by omega, h.2.symm⟩⟩
  · refine ⟨fun e => ?_, fun h => absurd h.1 hfx⟩
    rw [winF] at e
    split at e
    · omega
    · rw [nthF_iff hx.1 m 1 _ (by omega), hxx] at e
      exact absurd e.1 hfx
/-- what one row of counts adds: class 7 the number that wins, class 4 those with which one more would win -/
def inF (ci v m : Nat) (f : Nat → Int32) (x : Nat) : Nat := if ci = 7 then (if winF v m f = x then 1 else 0) else (if 1 ≤ x ∧ x ≤ m ∧ winF v m (ad1 f x 1) = x then 1 else 0)
def TG (c : Nat → rE) (ci g v m k : Nat) (b : Nat → Int32) (o : Nat → Nat) : Prop := c g = gobj ci g (nI v) (nI m) (nI k) ∧ isI c (g + 1) 7 b ∧ isL c (g + 2) 7 (fun j => lN (o j))
section CT
variable {ro : rQ} {LL : Nat} {xs : Nat → Int32} {d : Nat} {R : rR} {c : Nat → rE} {h : rH} {n m v r k x g ci W : Nat} {w fo fl o : Nat → Nat} {b f : Nat → Int32} {a0 a1 a2 : Int32}
theorem frg {g j : Nat} (h : j ≠ g ∧ j ≠ g + 1 ∧ j ≠ g + 2) : ([g, g + 1, g + 2] : List Nat).contains j = false := by
  simp [h.1, h.2.1, h.2.2]
theorem cs47 (h : ci = 4 ∨ ci = 7) : ([4, 7] : List Nat).contains ci = true := by rcases h with rfl | rfl <;> rfl
theorem sp_X7_clear (hg : c g = gobj ci g a0 a1 a2) (hci : ci = 4 ∨ ci = 7) (hg7 : g + 2 < 70) (h1 : tyI c (g + 1) 7) {y0 y1 : Int32}
    (hk : ∀ c', frm [g, g + 1] c c' → c' g = gobj ci g y0 y1 (nI 0) → isI c' (g + 1) 7 zrB → R none (tab c')) : rM ro (d + 1) 39 0 0 [.ref g, .int y0, .int y1] (tab c) R := by
  have hgg : g < 70 := by omega
  rw [en_X7_clear]
  rw [s_X7_clear_0, s_X7_clear_1, s_X7_clear_2, pg2 hg hgg (cs47 hci), s_X7_clear_5, s_X7_clear_6, s_X7_clear_7, pg3 fup_self hgg (cs47 hci), s_X7_clear_10, s_X7_clear_11, s_X7_clear_12, pg4 fup_self hgg (cs47 hci), s_X7_clear_15, s_X7_clear_16]
  refine ⟨rfl, ?_⟩
  have lp : ∀ rem x c1 val, x + rem = 7 → frm [g, g + 1] c c1 → c1 g = gobj ci g y0 y1 (nI 0) → isI c1 (g + 1) 7 val → (∀ j, j < x → val j = nI 0) → rU ro d tb_X7_clear R 17 [.ref g, .int y0, .int y1, .int (nI x)] [] (tab c1) := by
    intro rem
    induction rem with
    | zero =>
      intro x c1 val hx hf hg1 hi hv
      have hx7 : x = 7 := by omega
      subst hx7
      rw [s_X7_clear_17]
      simp only [s_X7_clear_0, s_X7_clear_1, s_X7_clear_2, s_X7_clear_5, s_X7_clear_6, s_X7_clear_7, s_X7_clear_10, s_X7_clear_11, s_X7_clear_12, s_X7_clear_15, s_X7_clear_16, s_X7_clear_18, s_X7_clear_20, s_X7_clear_23, s_X7_clear_24, s_X7_clear_27, s_X7_clear_28, s_X7_clear_29, s_X7_clear_30, s_X7_clear_33, s_X7_clear_36]
      exact ⟨fun _ => hk c1 hf hg1 (hi.cg hv), fun hc => absurd ((sI_le (by decide) (by decide)).mpr (Nat.le_refl _)) hc⟩
    | succ rem ih =>
      intro x c1 val hx hf hg1 hi hv
      rw [s_X7_clear_17]
      simp only [s_X7_clear_0, s_X7_clear_1, s_X7_clear_2, s_X7_clear_5, s_X7_clear_6, s_X7_clear_7, s_X7_clear_10, s_X7_clear_11, s_X7_clear_12, s_X7_clear_15, s_X7_clear_16, s_X7_clear_18, s_X7_clear_20, s_X7_clear_23, s_X7_clear_24, s_X7_clear_27, s_X7_clear_28, s_X7_clear_29, s_X7_clear_30, s_X7_clear_33, s_X7_clear_36, gg0 hg1 hgg (cs47 hci), nI_add, sI_le (show 7 < 100000 by omega) (show x < 100000 by omega)]
      refine ⟨fun hc => absurd hc (by omega), fun _ => si_i hi (by omega) (by omega) (by decide) fun c2 hf2 hi2 => ?_⟩
      exact ⟨rfl, ih (x + 1) c2 _ (by omega) (hf.trans (hf2.mono (by simp))) ((hf2 g (by simp)).trans hg1) hi2 (fillI hv rfl)⟩
  obtain ⟨f1, hf1⟩ := h1
  refine lp 7 0 _ f1 (by omega) (((frm.rf.fup (by simp)).fup (by simp)).fup (by simp)) fup_self ⟨f1, ?_, fun _ _ => rfl⟩ (fun j hj => absurd hj (by omega))
  rw [fup_ne (by omega), fup_ne (by omega), fup_ne (by omega)]
  exact hf1
theorem sp_X7_join (hg : c g = gobj ci g (nI v) (nI m) (nI k)) (hci : ci = 4 ∨ ci = 7) (hg7 : g + 2 < 70) (h1 : isI c (g + 1) 7 b) (hm : m ≤ 6) (hx : x ≤ m)
    (hk : ∀ c', frm [g, g + 1] c c' → c' g = gobj ci g (nI v) (nI m) (nI (if x = 0 then k + 1 else k)) → isI c' (g + 1) 7 (if x = 0 then b else ad1 b x 1) → R none (tab c')) : rM ro (d + 1) 40 0 0 [.ref g, .int (nI x)] (tab c) R := by
  have hgg : g < 70 := by omega
  rw [en_X7_join]
  simp only [s_X7_join_0, s_X7_join_1, s_X7_join_4, s_X7_join_5, s_X7_join_6, s_X7_join_9, s_X7_join_10, s_X7_join_11, s_X7_join_14, s_X7_join_17, s_X7_join_18, s_X7_join_19, s_X7_join_22, s_X7_join_23, s_X7_join_24, s_X7_join_27, s_X7_join_30, s_X7_join_31, s_X7_join_34, s_X7_join_35, s_X7_join_36, s_X7_join_37, s_X7_join_38, s_X7_join_39, s_X7_join_40, gg4 hg hgg (cs47 hci), gg3 hg hgg (cs47 hci), gg0 hg hgg (cs47 hci), pg4 hg hgg (cs47 hci), nI_add, sI_lt (show x < 100000 by omega) (show 1 < 100000 by decide), sI_lt (show m < 100000 by omega) (show x < 100000 by omega), ai_i h1 (show g + 1 < 70 by omega) (show x < 7 by omega) (by decide)]
  refine ⟨fun h0 => ?_, fun h0 => ⟨fun hc => ?_, fun _ => ⟨fun hc => absurd hc (by omega), fun _ => ?_⟩⟩⟩
  · have h0 : x = 0 := (sI_eq (by omega) (by decide)).mp (h0.trans nI_0.symm)
    rw [if_pos h0, if_pos h0] at hk
    refine hk _ (frm.rf.fup (by simp)) fup_self ?_
    obtain ⟨f1, g1, g2⟩ := h1
    exact ⟨f1, (fup_ne (by omega)).trans g1, g2⟩
  · exact absurd (by rw [show x = 0 by omega]; exact nI_0) h0
  · have h0 : x ≠ 0 := fun e => h0 (by rw [e]; exact nI_0)
    rw [if_neg h0, if_neg h0] at hk
    refine si_i h1 (by omega) (by omega) (by decide) fun c2 hf2 hi2 => ?_
    exact hk c2 (hf2.mono (by simp)) ((hf2 g (by simp)).trans hg) hi2
theorem updL_lN {o : Nat → Nat} {x a : Nat} (j : Nat) : vp_updL (fun j => lN (o j)) x (lN (o x) + lN a) j = lN (updN o x (o x + a) j) := by
  unfold vp_updL updN
  split
  · rw [lN_add]
  · rfl
theorem sp_X8_meet (hT : TG c 7 g v m k b o) (hg7 : g + 2 < 70) (hm : m ≤ 6) (hv : v ≤ 3)
    (hk : ∀ c' o', frm [g, g + 1, g + 2] c c' → TG c' 7 g v m k b o' → (∀ j, j < 7 → o' j = o j + W * inF 7 v m b j) → R none (tab c')) : rM (rRo LL xs) (d + 3) 43 0 0 [.ref g, .long (lN W)] (tab c) R := by
  obtain ⟨hg, h1, h2⟩ := hT
  have hgg : g < 70 := by omega
  rw [en_X8_meet]
  simp only [s_X8_meet_0, s_X8_meet_1, s_X8_meet_4, s_X8_meet_5, s_X8_meet_8, s_X8_meet_9, s_X8_meet_12, s_X8_meet_15, s_X8_meet_16, s_X8_meet_17, s_X8_meet_20, s_X8_meet_21, s_X8_meet_23, s_X8_meet_26, s_X8_meet_27, s_X8_meet_30, s_X8_meet_31, s_X8_meet_32, s_X8_meet_33, s_X8_meet_34, s_X8_meet_35, s_X8_meet_36, gg2 (cs := [7]) hg hgg rfl, gg0 (cs := [7]) hg hgg rfl, gg3 (cs := [7]) hg hgg rfl]
  refine sp_X9_winner' h1 (by omega) hm hv ?_
  have hw := winF_le (v := v) (m := m) (f := b)
  simp only [Option.toList_some, Option.toList_none, List.cons_append, List.nil_append, Option.toList, s_X8_meet_0, s_X8_meet_1, s_X8_meet_4, s_X8_meet_5, s_X8_meet_8, s_X8_meet_9, s_X8_meet_12, s_X8_meet_15, s_X8_meet_16, s_X8_meet_17, s_X8_meet_20, s_X8_meet_21, s_X8_meet_23, s_X8_meet_26, s_X8_meet_27, s_X8_meet_30, s_X8_meet_31, s_X8_meet_32, s_X8_meet_33, s_X8_meet_34, s_X8_meet_35, s_X8_meet_36, gg1 (cs := [7]) hg hgg rfl, sI_lt0 (show winF v m b < 100000 by omega), sI_le (show 7 < 100000 by decide) (show winF v m b < 100000 by omega), al_i h2 (show g + 2 < 70 by omega) (show winF v m b < 7 by omega) (by decide)]
  refine ⟨rfl, False.elim, fun _ => ⟨fun hc => absurd hc (by omega), fun _ => sl_i h2 (by omega) (by omega) (by decide) fun c2 hf2 hi2 => ?_⟩⟩
  refine hk c2 (updN o (winF v m b) (o (winF v m b) + W)) (hf2.mono (by simp)) ⟨(hf2 g (by simp)).trans hg, h1.fr hf2 (by simp), hi2.cg (fun j _ => updL_lN j)⟩ (fun j _ => ?_)
  unfold updN inF
  by_cases hj : j = winF v m b
  · subst hj; simp
  · rw [if_neg hj, if_pos rfl, if_neg (fun e => hj e.symm)]; omega
theorem sp_X4_meet (hT : TG c 4 g v m k b o) (hg7 : g + 2 < 70) (hm : m ≤ 6) (hv : v ≤ 3)
    (hk : ∀ c' o', frm [g, g + 1, g + 2] c c' → TG c' 4 g v m k b o' → (∀ j, j < 7 → o' j = o j + W * inF 4 v m b j) → R none (tab c')) : rM (rRo LL xs) (d + 2) 21 0 0 [.ref g, .long (lN W)] (tab c) R := by
  obtain ⟨hg, h1, h2⟩ := hT
  have hgg : g < 70 := by omega
  obtain ⟨f1, hf1, hfv⟩ := id h1
  have hcl := cntF_le (t := nI (tmF v)) (f := f1) m 1
  have ecnt : ∀ r, r ≤ m → cntF (nI (tmF v)) f1 r 1 = cntF (nI (tmF v)) b r 1 := fun r hr => cntF_cg _ _ (fun j h1 h2 => hfv j (by omega))
  have htm : tmF v ≤ 2 ∧ 1 ≤ tmF v := by unfold tmF; split <;> omega
  rw [en_X4_meet]
  simp only [s_X4_meet_0, s_X4_meet_1, s_X4_meet_4, s_X4_meet_7, s_X4_meet_8, s_X4_meet_9, s_X4_meet_12, s_X4_meet_13, s_X4_meet_14, s_X4_meet_17, s_X4_meet_18, s_X4_meet_21, s_X4_meet_24, s_X4_meet_25, s_X4_meet_26, s_X4_meet_29, s_X4_meet_31, s_X4_meet_32, s_X4_meet_34, s_X4_meet_35, s_X4_meet_39, s_X4_meet_40, s_X4_meet_43, s_X4_meet_46, s_X4_meet_48, s_X4_meet_50, s_X4_meet_53, s_X4_meet_54, s_X4_meet_57, s_X4_meet_59, s_X4_meet_60, s_X4_meet_61, s_X4_meet_64, s_X4_meet_67, s_X4_meet_70, s_X4_meet_71, s_X4_meet_74, s_X4_meet_76, s_X4_meet_77, s_X4_meet_78, s_X4_meet_79, s_X4_meet_80, s_X4_meet_83, s_X4_meet_85, s_X4_meet_87, s_X4_meet_90, s_X4_meet_91, s_X4_meet_94, s_X4_meet_96, s_X4_meet_97, s_X4_meet_98, s_X4_meet_99, s_X4_meet_100, s_X4_meet_101, s_X4_meet_104, s_X4_meet_107, gg2 (cs := [4]) hg hgg rfl]
  refine sp_X9_writersToWin hv ?_
  simp only [Option.toList_some, Option.toList_none, List.cons_append, List.nil_append, Option.toList, s_X4_meet_0, s_X4_meet_1, s_X4_meet_4, s_X4_meet_7, s_X4_meet_8, s_X4_meet_9, s_X4_meet_12, s_X4_meet_13, s_X4_meet_14, s_X4_meet_17, s_X4_meet_18, s_X4_meet_21, s_X4_meet_24, s_X4_meet_25, s_X4_meet_26, s_X4_meet_29, s_X4_meet_31, s_X4_meet_32, s_X4_meet_34, s_X4_meet_35, s_X4_meet_39, s_X4_meet_40, s_X4_meet_43, s_X4_meet_46, s_X4_meet_48, s_X4_meet_50, s_X4_meet_53, s_X4_meet_54, s_X4_meet_57, s_X4_meet_59, s_X4_meet_60, s_X4_meet_61, s_X4_meet_64, s_X4_meet_67, s_X4_meet_70, s_X4_meet_71, s_X4_meet_74, s_X4_meet_76, s_X4_meet_77, s_X4_meet_78, s_X4_meet_79, s_X4_meet_80, s_X4_meet_83, s_X4_meet_85, s_X4_meet_87, s_X4_meet_90, s_X4_meet_91, s_X4_meet_94, s_X4_meet_96, s_X4_meet_97, s_X4_meet_98, s_X4_meet_99, s_X4_meet_100, s_X4_meet_101, s_X4_meet_104, s_X4_meet_107, gg2 (cs := [4]) hg hgg rfl, gg0 (cs := [4]) hg hgg rfl, gg3 (cs := [4]) hg hgg rfl]
  refine ⟨rfl, sp_X9_numbersWritten (gI_o hf1 (by omega)) hm ?_⟩
  simp only [Option.toList_some, Option.toList_none, List.cons_append, List.nil_append, Option.toList, s_X4_meet_0, s_X4_meet_1, s_X4_meet_4, s_X4_meet_7, s_X4_meet_8, s_X4_meet_9, s_X4_meet_12, s_X4_meet_13, s_X4_meet_14, s_X4_meet_17, s_X4_meet_18, s_X4_meet_21, s_X4_meet_24, s_X4_meet_25, s_X4_meet_26, s_X4_meet_29, s_X4_meet_31, s_X4_meet_32, s_X4_meet_34, s_X4_meet_35, s_X4_meet_39, s_X4_meet_40, s_X4_meet_43, s_X4_meet_46, s_X4_meet_48, s_X4_meet_50, s_X4_meet_53, s_X4_meet_54, s_X4_meet_57, s_X4_meet_59, s_X4_meet_60, s_X4_meet_61, s_X4_meet_64, s_X4_meet_67, s_X4_meet_70, s_X4_meet_71, s_X4_meet_74, s_X4_meet_76, s_X4_meet_77, s_X4_meet_78, s_X4_meet_79, s_X4_meet_80, s_X4_meet_83, s_X4_meet_85, s_X4_meet_87, s_X4_meet_90, s_X4_meet_91, s_X4_meet_94, s_X4_meet_96, s_X4_meet_97, s_X4_meet_98, s_X4_meet_99, s_X4_meet_100, s_X4_meet_101, s_X4_meet_104, s_X4_meet_107, nI_add]
  refine sp_X9_winning hv (by omega) ?_
  simp only [Option.toList_some, Option.toList_none, List.cons_append, List.nil_append, Option.toList, s_X4_meet_0, s_X4_meet_1, s_X4_meet_4, s_X4_meet_7, s_X4_meet_8, s_X4_meet_9, s_X4_meet_12, s_X4_meet_13, s_X4_meet_14, s_X4_meet_17, s_X4_meet_18, s_X4_meet_21, s_X4_meet_24, s_X4_meet_25, s_X4_meet_26, s_X4_meet_29, s_X4_meet_31, s_X4_meet_32, s_X4_meet_34, s_X4_meet_35, s_X4_meet_39, s_X4_meet_40, s_X4_meet_43, s_X4_meet_46, s_X4_meet_48, s_X4_meet_50, s_X4_meet_53, s_X4_meet_54, s_X4_meet_57, s_X4_meet_59, s_X4_meet_60, s_X4_meet_61, s_X4_meet_64, s_X4_meet_67, s_X4_meet_70, s_X4_meet_71, s_X4_meet_74, s_X4_meet_76, s_X4_meet_77, s_X4_meet_78, s_X4_meet_79, s_X4_meet_80, s_X4_meet_83, s_X4_meet_85, s_X4_meet_87, s_X4_meet_90, s_X4_meet_91, s_X4_meet_94, s_X4_meet_96, s_X4_meet_97, s_X4_meet_98, s_X4_meet_99, s_X4_meet_100, s_X4_meet_101, s_X4_meet_104, s_X4_meet_107]
  refine ⟨rfl, rfl, rfl, ?_⟩
  rw [if_neg (by omega), ecnt m (Nat.le_refl _)]
  have hid : idF v (cntF (nI (tmF v)) b m 1 + 1) < 10 := by rw [← ecnt m (Nat.le_refl _)]; unfold idF; split; omega; split <;> omega
  have lp : ∀ rem x c1 o1, x + rem = m + 1 → 1 ≤ x → frm [g, g + 1, g + 2] c c1 → TG c1 4 g v m k b o1 → (∀ j, j < 7 → o1 j = o j + W * (if j < x then inF 4 v m b j else 0)) →
      rU (rRo LL xs) (d + 1) tb_X4_meet R 37 [.ref g, .long (lN W), .null, .int (nI (tmF v)), .int (nI (idF v (cntF (nI (tmF v)) b m 1 + 1) + 1)), .int (nI (1 + cntF (nI (tmF v)) b (x - 1) 1)), .int (nI x)] [] (tab c1) := by
    intro rem
    induction rem with
    | zero =>
      intro x c1 o1 hx h1 hf hT1 ho
      have : x = m + 1 := by omega
      subst this
      rw [s_X4_meet_37]
      simp only [s_X4_meet_0, s_X4_meet_1, s_X4_meet_4, s_X4_meet_7, s_X4_meet_8, s_X4_meet_9, s_X4_meet_12, s_X4_meet_13, s_X4_meet_14, s_X4_meet_17, s_X4_meet_18, s_X4_meet_21, s_X4_meet_24, s_X4_meet_25, s_X4_meet_26, s_X4_meet_29, s_X4_meet_31, s_X4_meet_32, s_X4_meet_34, s_X4_meet_35, s_X4_meet_39, s_X4_meet_40, s_X4_meet_43, s_X4_meet_46, s_X4_meet_48, s_X4_meet_50, s_X4_meet_53, s_X4_meet_54, s_X4_meet_57, s_X4_meet_59, s_X4_meet_60, s_X4_meet_61, s_X4_meet_64, s_X4_meet_67, s_X4_meet_70, s_X4_meet_71, s_X4_meet_74, s_X4_meet_76, s_X4_meet_77, s_X4_meet_78, s_X4_meet_79, s_X4_meet_80, s_X4_meet_83, s_X4_meet_85, s_X4_meet_87, s_X4_meet_90, s_X4_meet_91, s_X4_meet_94, s_X4_meet_96, s_X4_meet_97, s_X4_meet_98, s_X4_meet_99, s_X4_meet_100, s_X4_meet_101, s_X4_meet_104, s_X4_meet_107, gg3 (cs := [4]) hT1.1 hgg rfl]
      refine ⟨fun _ => hk c1 o1 hf hT1 (fun j hj => ?_), fun hc => absurd ((sI_lt (by omega) (by omega)).mpr (Nat.lt_succ_self m)) hc⟩
      rw [ho j hj]
      by_cases hjm : j < m + 1
      · rw [if_pos hjm]
      · rw [if_neg hjm]
        unfold inF
        rw [if_neg (by decide), if_neg (by omega)]
    | succ rem ih =>
      intro x c1 o1 hx h1' hf hT1 ho
      obtain ⟨e0, e1, e2⟩ := hT1
      have hb1 : (nI (tmF v) - nI 1 : Int32) = nI (tmF v - 1) := sI_sub htm.2
      have hcx := cntF_le (t := nI (tmF v)) (f := b) (x - 1) 1
      have hcs : cntF (nI (tmF v)) b (x + 1 - 1) 1 = cntF (nI (tmF v)) b (x - 1) 1 + (if b x = nI (tmF v) then 1 else 0) := by
        rw [show x + 1 - 1 = (x - 1) + 1 by omega, cnt_split, show 1 + (x - 1) = x by omega, cntF, cntF, Nat.add_zero]
      have hwm := win_more (f := b) hv (show 1 ≤ x ∧ x ≤ m by omega)
      have hback : (b x = nI (tmF v - 1)) ↔ (b x + nI 1 = nI (tmF v)) := by
        rw [← hb1]
        constructor
        · intro e; rw [e, Int32.sub_add_cancel]
        · intro e; rw [← e, Int32.add_sub_cancel]
      rw [s_X4_meet_37]
      simp only [s_X4_meet_0, s_X4_meet_1, s_X4_meet_4, s_X4_meet_7, s_X4_meet_8, s_X4_meet_9, s_X4_meet_12, s_X4_meet_13, s_X4_meet_14, s_X4_meet_17, s_X4_meet_18, s_X4_meet_21, s_X4_meet_24, s_X4_meet_25, s_X4_meet_26, s_X4_meet_29, s_X4_meet_31, s_X4_meet_32, s_X4_meet_34, s_X4_meet_35, s_X4_meet_39, s_X4_meet_40, s_X4_meet_43, s_X4_meet_46, s_X4_meet_48, s_X4_meet_50, s_X4_meet_53, s_X4_meet_54, s_X4_meet_57, s_X4_meet_59, s_X4_meet_60, s_X4_meet_61, s_X4_meet_64, s_X4_meet_67, s_X4_meet_70, s_X4_meet_71, s_X4_meet_74, s_X4_meet_76, s_X4_meet_77, s_X4_meet_78, s_X4_meet_79, s_X4_meet_80, s_X4_meet_83, s_X4_meet_85, s_X4_meet_87, s_X4_meet_90, s_X4_meet_91, s_X4_meet_94, s_X4_meet_96, s_X4_meet_97, s_X4_meet_98, s_X4_meet_99, s_X4_meet_100, s_X4_meet_104, s_X4_meet_107, gg3 (cs := [4]) e0 hgg rfl, gg0 (cs := [4]) e0 hgg rfl, gg1 (cs := [4]) e0 hgg rfl, hb1, nI_add, sI_lt (show m < 100000 by omega) (show x < 100000 by omega), sI_le (show 7 < 100000 by decide) (show x < 100000 by omega), ai_i e1 (show g + 1 < 70 by omega) (show x < 7 by omega) (by decide), sI_eq (show 1 + cntF (nI (tmF v)) b (x - 1) 1 < 100000 by omega) (show idF v (cntF (nI (tmF v)) b m 1 + 1) + 1 < 100000 by omega), al_i e2 (show g + 2 < 70 by omega) (show x < 7 by omega) (by decide)]
      have step0 : ∀ (y : Nat), y = 1 + cntF (nI (tmF v)) b (x + 1 - 1) 1 → inF 4 v m b x = 0 → rU (rRo LL xs) (d + 1) tb_X4_meet R 101 [.ref g, .long (lN W), .null, .int (nI (tmF v)), .int (nI (idF v (cntF (nI (tmF v)) b m 1 + 1) + 1)), .int (nI y), .int (nI x)] [] (tab c1) := by
        intro y hy hi0
        simp only [s_X4_meet_0, s_X4_meet_1, s_X4_meet_4, s_X4_meet_7, s_X4_meet_8, s_X4_meet_9, s_X4_meet_12, s_X4_meet_13, s_X4_meet_14, s_X4_meet_17, s_X4_meet_18, s_X4_meet_21, s_X4_meet_24, s_X4_meet_25, s_X4_meet_26, s_X4_meet_29, s_X4_meet_31, s_X4_meet_32, s_X4_meet_34, s_X4_meet_35, s_X4_meet_39, s_X4_meet_40, s_X4_meet_43, s_X4_meet_46, s_X4_meet_48, s_X4_meet_50, s_X4_meet_53, s_X4_meet_54, s_X4_meet_57, s_X4_meet_59, s_X4_meet_60, s_X4_meet_61, s_X4_meet_64, s_X4_meet_67, s_X4_meet_70, s_X4_meet_71, s_X4_meet_74, s_X4_meet_76, s_X4_meet_77, s_X4_meet_78, s_X4_meet_79, s_X4_meet_80, s_X4_meet_83, s_X4_meet_85, s_X4_meet_87, s_X4_meet_90, s_X4_meet_91, s_X4_meet_94, s_X4_meet_96, s_X4_meet_97, s_X4_meet_98, s_X4_meet_99, s_X4_meet_100, s_X4_meet_101, s_X4_meet_104, s_X4_meet_107, nI_add]
        subst hy
        refine ⟨rfl, ih (x + 1) c1 o1 (by omega) (by omega) hf ⟨e0, e1, e2⟩ (fun j hj => ?_)⟩
        rw [ho j hj]
        by_cases hjx : j = x
        · subst hjx
          rw [if_neg (by omega), if_pos (by omega), hi0]
        · by_cases hj2 : j < x
          · rw [if_pos hj2, if_pos (by omega)]
          · rw [if_neg hj2, if_neg (by omega)]
      have hnin : ¬ winF v m (ad1 b x 1) = x → inF 4 v m b x = 0 := fun hh => by
        unfold inF
        rw [if_neg (by decide), if_neg (fun q => hh q.2.2)]
      refine ⟨fun hc => absurd hc (by omega), fun _ => ⟨fun hc => absurd hc (by omega), fun _ => ⟨fun heq => ⟨rfl, ?_⟩, fun hne => ⟨fun hm1 => ⟨fun hpl => ?_, fun hpl => ?_⟩, fun hm1 => ?_⟩⟩⟩⟩
      · refine step0 _ (by rw [hcs, if_pos heq]; omega) (hnin fun q => ?_)
        have := (hwm.mp q).1
        rw [heq, nI_add] at this
        have := (sI_eq (by omega) (by omega)).mp this
        omega
      · refine sl_i e2 (by omega) (by omega) (by decide) fun c2 hf2 hi2 => ?_
        simp only [s_X4_meet_0, s_X4_meet_1, s_X4_meet_4, s_X4_meet_7, s_X4_meet_8, s_X4_meet_9, s_X4_meet_12, s_X4_meet_13, s_X4_meet_14, s_X4_meet_17, s_X4_meet_18, s_X4_meet_21, s_X4_meet_24, s_X4_meet_25, s_X4_meet_26, s_X4_meet_29, s_X4_meet_31, s_X4_meet_32, s_X4_meet_34, s_X4_meet_35, s_X4_meet_39, s_X4_meet_40, s_X4_meet_43, s_X4_meet_46, s_X4_meet_48, s_X4_meet_50, s_X4_meet_53, s_X4_meet_54, s_X4_meet_57, s_X4_meet_59, s_X4_meet_60, s_X4_meet_61, s_X4_meet_64, s_X4_meet_67, s_X4_meet_70, s_X4_meet_71, s_X4_meet_74, s_X4_meet_76, s_X4_meet_77, s_X4_meet_78, s_X4_meet_79, s_X4_meet_80, s_X4_meet_83, s_X4_meet_85, s_X4_meet_87, s_X4_meet_90, s_X4_meet_91, s_X4_meet_94, s_X4_meet_96, s_X4_meet_97, s_X4_meet_98, s_X4_meet_99, s_X4_meet_100, s_X4_meet_101, s_X4_meet_104, s_X4_meet_107, nI_add]
        have hyes : winF v m (ad1 b x 1) = x := hwm.mpr ⟨hback.mp hm1, by omega⟩
        have hcnt : 1 + cntF (nI (tmF v)) b (x - 1) 1 = 1 + cntF (nI (tmF v)) b (x + 1 - 1) 1 := by rw [hcs, if_neg hne, Nat.add_zero]
        rw [hcnt]
        refine ⟨rfl, ih (x + 1) c2 (updN o1 x (o1 x + W)) (by omega) (by omega) (hf.trans (hf2.mono (by simp))) ⟨(hf2 g (by simp)).trans e0, e1.fr hf2 (by simp), hi2.cg (fun j _ => updL_lN j)⟩ (fun j hj => ?_)⟩
        unfold updN
        by_cases hjx : j = x
        · subst hjx
          rw [if_pos rfl, ho j hj, if_neg (by omega), if_pos (by omega)]
          unfold inF
          rw [if_neg (by decide), if_pos ⟨by omega, by omega, hyes⟩]
          omega
        · rw [if_neg hjx, ho j hj]
          by_cases hj2 : j < x
          · rw [if_pos hj2, if_pos (by omega)]
          · rw [if_neg hj2, if_neg (by omega)]
      · refine step0 _ (by rw [hcs, if_neg hne]; omega) (hnin fun q => ?_)
        have := (hwm.mp q).2
        omega
      · refine step0 _ (by rw [hcs, if_neg hne]; omega) (hnin fun q => ?_)
        exact hm1 (hback.mpr (hwm.mp q).1)
  refine lp m 1 c o (by omega) (by omega) frm.rf ⟨hg, h1, h2⟩ (fun j hj => ?_)
  by_cases hj0 : j < 1
  · rw [if_pos hj0]
    unfold inF
    rw [if_neg (by decide), if_neg (by omega)]
    rfl
  · rw [if_neg hj0]; rfl
theorem sp_meet (hci : ci = 4 ∨ ci = 7) (hT : TG c ci g v m k b o) (hg7 : g + 2 < 70) (hm : m ≤ 6) (hv : v ≤ 3)
    (hk : ∀ c' o', frm [g, g + 1, g + 2] c c' → TG c' ci g v m k b o' → (∀ j, j < 7 → o' j = o j + W * inF ci v m b j) → R none (tab c')) : rVc (rRo LL xs) (d + 3) [4, 21, 7, 43] g [.long (lN W)] (tab c) R := by
  rcases hci with rfl | rfl
  · rw [vgT4 hT.1 (by omega)]
    exact sp_X4_meet hT hg7 hm hv hk
  · rw [vgT7 hT.1 (by omega)]
    exact sp_X8_meet hT hg7 hm hv hk
end CT
