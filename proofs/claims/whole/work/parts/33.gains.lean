/-! ===== the class: the best number, the mean, the surplus ===== -/
section CG
variable {ro : rQ} {LL : Nat} {xs : Nat → Int32} {d : Nat} {R : rR} {c : Nat → rE} {n m v k g wr W : Nat} {w fo fl o : Nat → Nat} {b f : Nat → Int32}
theorem inF_gn {w : Nat → Nat} {v m k x : Nat} {b : Nat → Int32} (hx : 1 ≤ x ∧ x ≤ m) : FF w (fun f => inF 4 v m f x) m 1 k b = gnF w v m k b x := by
  have key : ∀ (k : Nat) (b : Nat → Int32), FF w (fun f => inF 4 v m f x) m 1 k b = FF w (fun f => if winF v m f = x then 1 else 0) m 1 k (ad1 b x 1) := by
    intro k
    induction k with
    | zero =>
      intro b
      rw [FF, FF]
      unfold inF
      rw [if_neg (by decide)]
      by_cases h : winF v m (ad1 b x 1) = x
      · rw [if_pos ⟨hx.1, hx.2, h⟩, if_pos h]
      · rw [if_neg (fun q => h q.2.2), if_neg h]
    | succ k ih =>
      intro b
      rw [FF, FF]
      apply smF_cg
      intro y _ _
      rw [ih]
      by_cases hy : y = x
      · rw [hy]
      · rw [ad1_comm b 1 1 hy]
  exact key k b
theorem inF_tl {w : Nat → Nat} {v m k x : Nat} {b : Nat → Int32} : FF w (fun f => inF 7 v m f x) m 1 k b = tlF w v m k b x := FF_cg (fun f => by unfold inF; rw [if_pos rfl]) k b
theorem sp_X4_top (hT : TG c 4 g v m k b o) (hg7 : g + 2 < 70) (hm : 2 ≤ m ∧ m ≤ 6) (ho : ∀ j, j < 7 → o j < 2 ^ 31) (hk : R (some (.int (nI (topF o m)))) (tab c)) : rM ro (d + 1) 22 0 0 [.ref g] (tab c) R := by
  obtain ⟨hg, -, h2⟩ := hT
  have hgg : g < 70 := by omega
  rw [en_X4_top]
  simp only [s_X4_top_0, s_X4_top_1, s_X4_top_2, s_X4_top_3, s_X4_top_5, s_X4_top_6, s_X4_top_9, s_X4_top_12, s_X4_top_13, s_X4_top_15, s_X4_top_18, s_X4_top_19, s_X4_top_22, s_X4_top_23, s_X4_top_24, s_X4_top_25, s_X4_top_28, s_X4_top_29, s_X4_top_30, s_X4_top_31, s_X4_top_34, s_X4_top_35, s_X4_top_36, s_X4_top_39, s_X4_top_42, s_X4_top_43]
  refine ⟨rfl, rfl, ?_⟩
  have lp : ∀ rem x t, x + rem = m + 1 → 2 ≤ x → 1 ≤ t → t ≤ m → tpF o rem x t = topF o m → rU ro d tb_X4_top R 4 [.ref g, .int (nI t), .int (nI x)] [] (tab c) := by
    intro rem
    induction rem with
    | zero =>
      intro x t hx h2 ht1 ht2 htp
      have : x = m + 1 := by omega
      subst this
      rw [tpF] at htp
      rw [s_X4_top_4]
      simp only [s_X4_top_0, s_X4_top_1, s_X4_top_2, s_X4_top_3, s_X4_top_5, s_X4_top_6, s_X4_top_9, s_X4_top_12, s_X4_top_13, s_X4_top_15, s_X4_top_18, s_X4_top_19, s_X4_top_22, s_X4_top_23, s_X4_top_24, s_X4_top_25, s_X4_top_28, s_X4_top_29, s_X4_top_30, s_X4_top_31, s_X4_top_34, s_X4_top_35, s_X4_top_36, s_X4_top_39, s_X4_top_42, s_X4_top_43, gg3 (cs := [4]) hg hgg rfl]
      exact ⟨fun _ => by rw [htp]; exact hk, fun hc => absurd ((sI_lt (by omega) (by omega)).mpr (Nat.lt_succ_self m)) hc⟩
    | succ rem ih =>
      intro x t hx hx2 ht1 ht2 htp
      rw [tpF] at htp
      rw [s_X4_top_4]
      simp only [s_X4_top_0, s_X4_top_1, s_X4_top_2, s_X4_top_3, s_X4_top_5, s_X4_top_6, s_X4_top_9, s_X4_top_12, s_X4_top_13, s_X4_top_15, s_X4_top_18, s_X4_top_19, s_X4_top_22, s_X4_top_23, s_X4_top_24, s_X4_top_25, s_X4_top_28, s_X4_top_29, s_X4_top_30, s_X4_top_31, s_X4_top_34, s_X4_top_35, s_X4_top_36, s_X4_top_39, s_X4_top_42, s_X4_top_43, gg3 (cs := [4]) hg hgg rfl, gg1 (cs := [4]) hg hgg rfl, sI_lt (show m < 100000 by omega) (show x < 100000 by omega), sI_le (show 7 < 100000 by decide) (show x < 100000 by omega), al_i h2 (show g + 2 < 70 by omega) (show x < 7 by omega) (by decide), al_i h2 (show g + 2 < 70 by omega) (show t < 7 by omega) (by decide), lgt (ho x (by omega)) (ho t (by omega)), nI_add]
      refine ⟨fun hc => absurd hc (by omega), fun _ => ⟨fun hc => absurd hc (by omega), fun _ => ⟨fun hc => ⟨rfl, ?_⟩, fun hc => ⟨rfl, rfl, ?_⟩⟩⟩⟩
      · rw [if_neg hc] at htp
        exact ih (x + 1) t (by omega) (by omega) ht1 ht2 htp
      · have hc : o t < o x := Decidable.not_not.mp hc
        rw [if_pos hc] at htp
        exact ih (x + 1) x (by omega) (by omega) (by omega) (by omega) htp
  exact lp (m - 1) 2 1 (by omega) (by omega) (by omega) (by omega) rfl
theorem sp_X4_average {wf : Nat → Int32} (hT : TG c 4 g v m k b o) (hg7 : g + 2 < 70) (hm : m ≤ 6) (hw : ∀ j, j < 7 → w j ≤ 12) (hwf : rgetI ro (tab c) wr = some (7, wf)) (hwv : ∀ j, j < 7 → wf j = nI (w j)) (hk : R (some (.long (lN (smF (fun x => w x * o x) m 1)))) (tab c)) : rM ro (d + 1) 23 0 0 [.ref g, .ref wr] (tab c) R := by
  obtain ⟨hg, -, h2⟩ := hT
  have hgg : g < 70 := by omega
  rw [en_X4_average]
  simp only [s_X4_average_0, s_X4_average_1, s_X4_average_2, s_X4_average_3, s_X4_average_7, s_X4_average_8, s_X4_average_11, s_X4_average_14, s_X4_average_16, s_X4_average_18, s_X4_average_21, s_X4_average_23, s_X4_average_24, s_X4_average_25, s_X4_average_28, s_X4_average_29, s_X4_average_30, s_X4_average_32, s_X4_average_33, s_X4_average_34, s_X4_average_35, s_X4_average_38, s_X4_average_40, s_X4_average_41, s_X4_average_42, s_X4_average_43, s_X4_average_44, s_X4_average_47, s_X4_average_50, s_X4_average_51]
  refine ⟨rfl, rfl, ?_⟩
  have lp : ∀ rem x s, x + rem = m + 1 → 1 ≤ x → s + smF (fun x => w x * o x) rem x = smF (fun x => w x * o x) m 1 → rU ro d tb_X4_average R 5 [.ref g, .ref wr, .long (lN s), .null, .int (nI x)] [] (tab c) := by
    intro rem
    induction rem with
    | zero =>
      intro x s hx h1 hs
      have : x = m + 1 := by omega
      subst this
      rw [smF, Nat.add_zero] at hs
      rw [s_X4_average_5]
      simp only [s_X4_average_0, s_X4_average_1, s_X4_average_2, s_X4_average_3, s_X4_average_7, s_X4_average_8, s_X4_average_11, s_X4_average_14, s_X4_average_16, s_X4_average_18, s_X4_average_21, s_X4_average_23, s_X4_average_24, s_X4_average_25, s_X4_average_28, s_X4_average_29, s_X4_average_30, s_X4_average_32, s_X4_average_33, s_X4_average_34, s_X4_average_35, s_X4_average_38, s_X4_average_40, s_X4_average_41, s_X4_average_42, s_X4_average_43, s_X4_average_44, s_X4_average_47, s_X4_average_50, s_X4_average_51, gg3 (cs := [4]) hg hgg rfl]
      exact ⟨fun _ => by rw [hs]; exact hk, fun hc => absurd ((sI_lt (by omega) (by omega)).mpr (Nat.lt_succ_self m)) hc⟩
    | succ rem ih =>
      intro x s hx h1 hs
      rw [smF, ← Nat.add_assoc] at hs
      have hwx := hw x (by omega)
      rw [s_X4_average_5]
      simp only [s_X4_average_0, s_X4_average_1, s_X4_average_2, s_X4_average_3, s_X4_average_7, s_X4_average_8, s_X4_average_11, s_X4_average_14, s_X4_average_16, s_X4_average_18, s_X4_average_21, s_X4_average_23, s_X4_average_24, s_X4_average_25, s_X4_average_28, s_X4_average_29, s_X4_average_30, s_X4_average_32, s_X4_average_33, s_X4_average_34, s_X4_average_35, s_X4_average_38, s_X4_average_40, s_X4_average_41, s_X4_average_42, s_X4_average_43, s_X4_average_44, s_X4_average_47, s_X4_average_50, s_X4_average_51, gg3 (cs := [4]) hg hgg rfl, gg1 (cs := [4]) hg hgg rfl, ln_g hwf, ai_g hwf, sI_lt (show m < 100000 by omega) (show x < 100000 by omega), sI_le (show 7 < 100000 by decide) (show x < 100000 by omega), al_i h2 (show g + 2 < 70 by omega) (show x < 7 by omega) (by decide), nI_c (show x < 100000 by omega), hwv x (by omega), nI_l (show w x < 2 ^ 31 by omega), lN_mul, lN_add, nI_add]
      refine ⟨fun hc => absurd hc (by omega), fun _ => ⟨fun hc => absurd hc (by omega), fun _ => ⟨fun hc => absurd hc (by omega), fun _ => ⟨vp_n (by omega) (by decide), rfl, rfl, ih (x + 1) _ (by omega) (by omega) hs⟩⟩⟩⟩
  exact lp m 1 0 (by omega) (by omega) (Nat.zero_add _)
theorem sp_X4_surplus {wf : Nat → Int32} (hT : TG c 4 g v m k b o) (hg7 : g + 2 < 70) (hm : 2 ≤ m ∧ m ≤ 6) (hw : ∀ j, j < 7 → w j ≤ 12) (ho : ∀ j, j < 7 → o j < 2 ^ 31) (hW : smF w m 1 = W) (hW12 : W ≤ 12) (hwf : rgetI ro (tab c) wr = some (7, wf)) (hwv : ∀ j, j < 7 → wf j = nI (w j))
    (hk : R (some (.long (lN (W * o (topF o m) - smF (fun x => w x * o x) m 1)))) (tab c)) : rM ro (d + 2) 24 0 0 [.ref g, .ref wr, .int (nI W)] (tab c) R := by
  obtain ⟨hg, h1, h2⟩ := id hT
  have hgg : g < 70 := by omega
  have htm := topF_mem o hm.1
  rw [en_X4_surplus]
  simp only [s_X4_surplus_0, s_X4_surplus_1, s_X4_surplus_2, s_X4_surplus_3, s_X4_surplus_6, s_X4_surplus_7, s_X4_surplus_10, s_X4_surplus_11, s_X4_surplus_12, s_X4_surplus_13, s_X4_surplus_14, s_X4_surplus_17, s_X4_surplus_18, gg1 (cs := [4]) hg hgg rfl, vg4 hg hgg, nI_l (show W < 2 ^ 31 by omega)]
  refine sp_X4_top hT hg7 hm ho ?_
  simp only [Option.toList_some, Option.toList_none, List.cons_append, List.nil_append, Option.toList, s_X4_surplus_0, s_X4_surplus_1, s_X4_surplus_2, s_X4_surplus_3, s_X4_surplus_6, s_X4_surplus_7, s_X4_surplus_10, s_X4_surplus_11, s_X4_surplus_12, s_X4_surplus_13, s_X4_surplus_14, s_X4_surplus_17, s_X4_surplus_18, al_i h2 (show g + 2 < 70 by omega) (show topF o m < 7 by omega) (by decide), vg4 hg hgg, lN_mul]
  refine sp_X4_average hT hg7 hm.2 hw hwf hwv ?_
  have hle : smF (fun x => w x * o x) m 1 ≤ W * o (topF o m) := by rw [← hW]; exact smF_wle m 1 (fun j h1 h2 => topF_max _ h1 (by omega))
  simp only [Option.toList_some, Option.toList_none, List.cons_append, List.nil_append, Option.toList, s_X4_surplus_0, s_X4_surplus_1, s_X4_surplus_2, s_X4_surplus_3, s_X4_surplus_6, s_X4_surplus_7, s_X4_surplus_10, s_X4_surplus_11, s_X4_surplus_12, s_X4_surplus_13, s_X4_surplus_14, s_X4_surplus_17, s_X4_surplus_18, lN_sub hle]
  exact hk
end CG
