/-! ===== the class: evenings ===== -/
def sh1 (i : Nat) : Int32 := nI 1 <<< (nI i &&& 31)
def orS (p : Nat → Bool) : Nat → Nat → Int32 → Int32
  | 0, _, a => a
  | r + 1, i, a => orS p r (i + 1) (if p i then a ||| sh1 i else a)
theorem orS_cg {p q : Nat → Bool} : ∀ r i a, (∀ j, i ≤ j → j < i + r → p j = q j) → orS p r i a = orS q r i a
  | 0, _, _, _ => rfl
  | r + 1, i, a, h => by rw [orS, orS, h i (Nat.le_refl _) (by omega), orS_cg r (i + 1) _ (fun j h1 h2 => h j (by omega) (by omega))]
theorem orS_app {p : Nat → Bool} : ∀ r s i a, orS p (r + s) i a = orS p s (i + r) (orS p r i a)
  | 0, s, i, a => by rw [Nat.zero_add, Nat.add_zero, orS]
  | r + 1, s, i, a => by rw [show r + 1 + s = (r + s) + 1 by omega, orS, orS, orS_app r s (i + 1), show i + 1 + r = i + (r + 1) by omega]
theorem orS_no {p : Nat → Bool} : ∀ r i a, (∀ j, i ≤ j → j < i + r → p j = false) → orS p r i a = a
  | 0, _, _, _ => rfl
  | r + 1, i, a, h => by rw [orS, h i (Nat.le_refl _) (by omega), if_neg (by decide), orS_no r (i + 1) a (fun j h1 h2 => h j (by omega) (by omega))]
theorem orS_6 {p : Nat → Bool} {n : Nat} (hn : n ≤ 6) (h : ∀ j, n ≤ j → j < 6 → p j = false) : orS p 6 0 (nI 0) = orS p n 0 (nI 0) := by
  rw [show 6 = n + (6 - n) by omega, orS_app, orS_no _ _ _ (fun j h1 h2 => h j (by omega) (by omega))]
/-- slips counted, one after another -/
def slB (s : Nat → Nat) : Nat → Nat → (Nat → Int32) → Nat → Int32
  | 0, _, b => b
  | r + 1, i, b => slB s r (i + 1) (ad1 b (s i) 1)
theorem slB_cg {s s' : Nat → Nat} : ∀ r i b, (∀ j, i ≤ j → j < i + r → s j = s' j) → slB s r i b = slB s' r i b
  | 0, _, _, _ => rfl
  | r + 1, i, b, h => by rw [slB, slB, h i (Nat.le_refl _) (by omega), slB_cg r (i + 1) _ (fun j h1 h2 => h j (by omega) (by omega))]
def untB (pd : Nat → Int32) : Nat → Nat → Bool
  | 0, _ => false
  | r + 1, i => if pd i = nI 63 then true else untB pd r (i + 1)
theorem untB_no {pd : Nat → Int32} : ∀ r i, untB pd r i = false → ∀ j, i ≤ j → j < i + r → ¬ pd j = nI 63
  | 0, _, _, j, h1, h2 => by omega
  | r + 1, i, h, j, h1, h2 => by
    rw [untB] at h
    split at h
    · exact absurd h (by decide)
    · rename_i hq
      by_cases e : j = i
      · rw [e]; exact hq
      · exact untB_no r (i + 1) h j (by omega) (by omega)
def pdS (pd : Nat → Int32) (i : Nat) : Nat := (pd i).toNatClampNeg - 48
def wnQ (T : TS) (pd : Nat → Int32) : Nat := winF T.2.2.1 T.2.1 (slB (pdS pd) T.1 0 zrB)
def winA (T : TS) (sg : Nat) (pd : Nat → Int32) (x : Int32) : Int32 := if inR 0 1 x then (if fltA T sg pd = - nI 6 then (if untB pd T.1 0 = true then - nI 3 else if wnQ T pd = 0 then - nI 6 else if x = 0 then nI (wnQ T pd) else orS (fun i => pdS pd i == wnQ T pd) T.1 0 (nI 0)) else - nI 5) else - nI 2
def EVS (c : Nat → rE) (s : Nat → Nat) (k : Nat) (b : Nat → Int32) : Prop := isI c 23 6 (fun j => nI (if j < k then s j else 0)) ∧ isI c 24 7 b
theorem EVS.ev {c : Nat → rE} {s : Nat → Nat} {k : Nat} {b : Nat → Int32} (h : EVS c s k b) : gEV c := ⟨h.1.ty, h.2.ty⟩
theorem nI_rem {a b : Nat} (ha : a < 2 ^ 31) (hb : 0 < b ∧ b < 2 ^ 31) : nI a - nI a / nI b * nI b = nI (a % b) := by
  have hd : nI a / nI b = nI (a / b) := by
    apply Int32.toInt_inj.mp
    rw [Int32.toInt_div_of_ne_left _ _ (by
      intro e
      have := nI_toInt (n := a) (by omega)
      rw [e] at this
      simp [Int32.toInt_minValue] at this), nI_toInt (by omega), nI_toInt (by omega), nI_toInt (by have := Nat.div_le_self a b; omega)]
    simp
  have hle : a / b * b ≤ a := Nat.div_mul_le_self a b
  rw [hd, nI_mul, sI_sub hle]
  congr 1
  have := Nat.div_add_mod a b
  rw [Nat.mul_comm] at this
  omega
section CE
variable {ro : rQ} {LL : Nat} {xs : Nat → Int32} {d : Nat} {R : rR} {c : Nat → rE} {h : rH} {n m v si sg k t q : Nat} {w fo s : Nat → Nat} {st pd b : Nat → Int32} {im : Nat → Option TS} {x y z : Int32}
theorem ge0 (h : c 22 = obj 2 [.ref 23, .ref 24]) {K : Value → Prop} : rGf (tab c) 22 0 [2] K ↔ K (.ref 23) := gf_o (ci := 2) h (by decide) rfl rfl
theorem ge1 (h : c 22 = obj 2 [.ref 23, .ref 24]) {K : Value → Prop} : rGf (tab c) 22 1 [2] K ↔ K (.ref 24) := gf_o (ci := 2) h (by decide) rfl rfl
theorem ve_o {f : Nat} {As : List Value} (h : c 22 = obj 2 [.ref 23, .ref 24]) : rVc ro d [2, f] 22 As (tab c) R ↔ rM ro d f 0 0 (.ref 22 :: As) (tab c) R := vc_o (ci := 2) h (by decide) rfl
theorem sp_X2_clear (h22 : c 22 = obj 2 [.ref 23, .ref 24]) (he : gEV c) (hk : ∀ c', frm [23, 24] c c' → EVS c' s 0 zrB → R none (tab c')) : rM ro (d + 1) 8 0 0 [.ref 22] (tab c) R := by
  obtain ⟨⟨f3, h3⟩, ⟨f4, h4⟩⟩ := he
  rw [en_X2_clear]
  simp only [s_X2_clear_0, s_X2_clear_1, s_X2_clear_3, s_X2_clear_5, s_X2_clear_8, s_X2_clear_9, s_X2_clear_12, s_X2_clear_13, s_X2_clear_14, s_X2_clear_15, s_X2_clear_18, s_X2_clear_21, s_X2_clear_22, s_X2_clear_24, s_X2_clear_26, s_X2_clear_29, s_X2_clear_30, s_X2_clear_33, s_X2_clear_34, s_X2_clear_35, s_X2_clear_36, s_X2_clear_39, s_X2_clear_42]
  refine ⟨rfl, ?_⟩
  have lp2 : ∀ rem x c1 val, x + rem = 6 → frm [23, 24] c c1 → isI c1 24 7 zrB → isI c1 23 6 val → (∀ j, j < x → val j = nI 0) → rU ro d tb_X2_clear R 23 [.ref 22, .int (nI x)] [] (tab c1) := by
    intro rem
    induction rem with
    | zero =>
      intro x c1 val hx hf h4 hi hv
      have : x = 6 := by omega
      subst this
      rw [s_X2_clear_23]
      simp only [s_X2_clear_0, s_X2_clear_1, s_X2_clear_3, s_X2_clear_5, s_X2_clear_8, s_X2_clear_9, s_X2_clear_12, s_X2_clear_13, s_X2_clear_14, s_X2_clear_15, s_X2_clear_18, s_X2_clear_21, s_X2_clear_22, s_X2_clear_24, s_X2_clear_26, s_X2_clear_29, s_X2_clear_30, s_X2_clear_33, s_X2_clear_34, s_X2_clear_35, s_X2_clear_36, s_X2_clear_39, s_X2_clear_42]
      exact ⟨fun _ => hk c1 hf ⟨hi.cg (fun j hj => by rw [hv j hj, if_neg (by omega)]), h4⟩, fun hc => absurd ((sI_le (by decide) (by decide)).mpr (Nat.le_refl _)) hc⟩
    | succ rem ih =>
      intro x c1 val hx hf h4 hi hv
      have e := (hf 22 rfl).trans h22
      rw [s_X2_clear_23]
      simp only [s_X2_clear_0, s_X2_clear_1, s_X2_clear_3, s_X2_clear_5, s_X2_clear_8, s_X2_clear_9, s_X2_clear_12, s_X2_clear_13, s_X2_clear_14, s_X2_clear_15, s_X2_clear_18, s_X2_clear_21, s_X2_clear_22, s_X2_clear_24, s_X2_clear_26, s_X2_clear_29, s_X2_clear_30, s_X2_clear_33, s_X2_clear_34, s_X2_clear_35, s_X2_clear_36, s_X2_clear_39, s_X2_clear_42, ge0 e, nI_add, sI_le (show 6 < 100000 by omega) (show x < 100000 by omega)]
      refine ⟨fun hc => absurd hc (by omega), fun _ => si_i hi (by decide) (by omega) (by decide) fun c2 hf2 hi2 => ?_⟩
      exact ⟨rfl, ih (x + 1) c2 _ (by omega) (hf.trans (hf2.mono rfl)) (h4.fr hf2 rfl) hi2 (fillI hv rfl)⟩
  have lp : ∀ rem x c1 val, x + rem = 7 → frm [23, 24] c c1 → c1 23 = ints 6 f3 → isI c1 24 7 val → (∀ j, j < x → val j = nI 0) → rU ro d tb_X2_clear R 2 [.ref 22, .int (nI x)] [] (tab c1) := by
    intro rem
    induction rem with
    | zero =>
      intro x c1 val hx hf h3 hi hv
      have : x = 7 := by omega
      subst this
      rw [s_X2_clear_2]
      simp only [s_X2_clear_0, s_X2_clear_1, s_X2_clear_3, s_X2_clear_5, s_X2_clear_8, s_X2_clear_9, s_X2_clear_12, s_X2_clear_13, s_X2_clear_14, s_X2_clear_15, s_X2_clear_18, s_X2_clear_21, s_X2_clear_22, s_X2_clear_24, s_X2_clear_26, s_X2_clear_29, s_X2_clear_30, s_X2_clear_33, s_X2_clear_34, s_X2_clear_35, s_X2_clear_36, s_X2_clear_39, s_X2_clear_42]
      exact ⟨fun _ => ⟨rfl, lp2 6 0 c1 f3 (by omega) hf (hi.cg hv) ⟨f3, h3, fun _ _ => rfl⟩ (fun j hj => absurd hj (by omega))⟩, fun hc => absurd ((sI_le (by decide) (by decide)).mpr (Nat.le_refl _)) hc⟩
    | succ rem ih =>
      intro x c1 val hx hf h3 hi hv
      have e := (hf 22 rfl).trans h22
      rw [s_X2_clear_2]
      simp only [s_X2_clear_0, s_X2_clear_1, s_X2_clear_3, s_X2_clear_5, s_X2_clear_8, s_X2_clear_9, s_X2_clear_12, s_X2_clear_13, s_X2_clear_14, s_X2_clear_15, s_X2_clear_18, s_X2_clear_21, s_X2_clear_22, s_X2_clear_24, s_X2_clear_26, s_X2_clear_29, s_X2_clear_30, s_X2_clear_33, s_X2_clear_34, s_X2_clear_35, s_X2_clear_36, s_X2_clear_39, s_X2_clear_42, ge1 e, nI_add, sI_le (show 7 < 100000 by omega) (show x < 100000 by omega)]
      refine ⟨fun hc => absurd hc (by omega), fun _ => si_i hi (by decide) (by omega) (by decide) fun c2 hf2 hi2 => ?_⟩
      exact ⟨rfl, ih (x + 1) c2 _ (by omega) (hf.trans (hf2.mono rfl)) ((hf2 23 rfl).trans h3) hi2 (fillI hv rfl)⟩
  exact lp 7 0 c f4 (by omega) frm.rf h3 ⟨f4, h4, fun _ _ => rfl⟩ (fun j hj => absurd hj (by omega))
theorem sp_X2_write (h22 : c 22 = obj 2 [.ref 23, .ref 24]) (he : EVS c s k b) (hk6 : k < 6) (hq : s k ≤ 6) (hk : ∀ c', frm [23, 24] c c' → EVS c' s (k + 1) (ad1 b (s k) 1) → R none (tab c')) : rM ro (d + 1) 9 0 0 [.ref 22, .int (nI k), .int (nI (s k))] (tab c) R := by
  rw [en_X2_write]
  simp only [s_X2_write_0, s_X2_write_1, s_X2_write_4, s_X2_write_5, s_X2_write_7, s_X2_write_10, s_X2_write_11, s_X2_write_14, s_X2_write_15, s_X2_write_17, s_X2_write_20, s_X2_write_21, s_X2_write_24, s_X2_write_25, s_X2_write_26, s_X2_write_27, s_X2_write_28, s_X2_write_31, s_X2_write_32, s_X2_write_33, s_X2_write_34, s_X2_write_35, s_X2_write_36, s_X2_write_37, ge0 h22, sI_lt0 (show k < 100000 by omega), sI_lt0 (show s k < 100000 by omega), sI_le (show 6 < 100000 by decide) (show k < 100000 by omega), sI_le (show 7 < 100000 by decide) (show s k < 100000 by omega)]
  refine ⟨False.elim, fun _ => ⟨fun hc => absurd hc (by omega), fun _ => ⟨False.elim, fun _ => ⟨fun hc => absurd hc (by omega), fun _ => ?_⟩⟩⟩⟩
  refine si_i he.1 (by decide) hk6 (by decide) fun c1 hf1 hi1 => ?_
  have e := (hf1 22 rfl).trans h22
  have h4 := he.2.fr hf1 rfl
  simp only [s_X2_write_0, s_X2_write_1, s_X2_write_4, s_X2_write_5, s_X2_write_7, s_X2_write_10, s_X2_write_11, s_X2_write_14, s_X2_write_15, s_X2_write_17, s_X2_write_20, s_X2_write_21, s_X2_write_24, s_X2_write_25, s_X2_write_26, s_X2_write_27, s_X2_write_28, s_X2_write_31, s_X2_write_32, s_X2_write_33, s_X2_write_34, s_X2_write_35, s_X2_write_36, s_X2_write_37, ge1 e, ai_i h4 (show 24 < 70 by decide) (show s k < 7 by omega) (by decide)]
  refine si_i h4 (by decide) (by omega) (by decide) fun c2 hf2 hi2 => ?_
  refine hk c2 ((hf1.mono rfl).trans (hf2.mono rfl)) ⟨(hi1.fr hf2 rfl).cg (fun j _ => ?_), hi2⟩
  unfold upd
  by_cases e : j = k
  · rw [if_pos e, if_pos (by omega), e]
  · rw [if_neg e]
    show nI (if j < k then s j else 0) = _
    by_cases e2 : j < k
    · rw [if_pos e2, if_pos (by omega)]
    · rw [if_neg e2, if_neg (by omega)]
theorem sp_X2_writers (h22 : c 22 = obj 2 [.ref 23, .ref 24]) (he : EVS c s k b) (hs : ∀ j, j < k → s j ≤ 6) (hk6 : k ≤ 6) (hq : 1 ≤ q ∧ q ≤ 6) (hk : R (some (.int (orS (fun i => s i == q) k 0 (nI 0)))) (tab c)) : rM ro (d + 1) 12 0 0 [.ref 22, .int (nI q)] (tab c) R := by
  rw [en_X2_writers]
  simp only [s_X2_writers_0, s_X2_writers_1, s_X2_writers_2, s_X2_writers_3, s_X2_writers_5, s_X2_writers_7, s_X2_writers_10, s_X2_writers_11, s_X2_writers_14, s_X2_writers_15, s_X2_writers_16, s_X2_writers_17, s_X2_writers_20, s_X2_writers_21, s_X2_writers_22, s_X2_writers_23, s_X2_writers_24, s_X2_writers_25, s_X2_writers_26, s_X2_writers_29, s_X2_writers_32, s_X2_writers_33]
  refine ⟨rfl, rfl, ?_⟩
  have lp : ∀ rem i a, i + rem = 6 → orS (fun i => (if i < k then s i else 0) == q) rem i a = orS (fun i => (if i < k then s i else 0) == q) 6 0 (nI 0) → rU ro d tb_X2_writers R 4 [.ref 22, .int (nI q), .int a, .int (nI i)] [] (tab c) := by
    intro rem
    induction rem with
    | zero =>
      intro i a hi ha
      have : i = 6 := by omega
      subst this
      rw [orS] at ha
      rw [s_X2_writers_4]
      simp only [s_X2_writers_0, s_X2_writers_1, s_X2_writers_2, s_X2_writers_3, s_X2_writers_5, s_X2_writers_7, s_X2_writers_10, s_X2_writers_11, s_X2_writers_14, s_X2_writers_15, s_X2_writers_16, s_X2_writers_17, s_X2_writers_20, s_X2_writers_21, s_X2_writers_22, s_X2_writers_23, s_X2_writers_24, s_X2_writers_25, s_X2_writers_26, s_X2_writers_29, s_X2_writers_32, s_X2_writers_33]
      refine ⟨fun _ => ?_, fun hc => absurd ((sI_le (by decide) (by decide)).mpr (Nat.le_refl _)) hc⟩
      rw [ha, orS_6 hk6 (fun j h1 h2 => by rw [if_neg (by omega)]; exact beq_eq_false_iff_ne.mpr (by omega)), orS_cg k 0 _ (q := fun i => s i == q) (fun j h1 h2 => by rw [if_pos (by omega)])]
      exact hk
    | succ rem ih =>
      intro i a hi ha
      rw [orS] at ha
      have hsi : i < k → s i ≤ 6 := hs i
      rw [s_X2_writers_4]
      simp only [s_X2_writers_0, s_X2_writers_1, s_X2_writers_2, s_X2_writers_3, s_X2_writers_5, s_X2_writers_7, s_X2_writers_10, s_X2_writers_11, s_X2_writers_14, s_X2_writers_15, s_X2_writers_16, s_X2_writers_17, s_X2_writers_20, s_X2_writers_21, s_X2_writers_22, s_X2_writers_23, s_X2_writers_24, s_X2_writers_25, s_X2_writers_26, s_X2_writers_29, s_X2_writers_32, s_X2_writers_33, ge0 h22, nI_add, sI_le (show 6 < 100000 by decide) (show i < 100000 by omega), ai_i he.1 (show 23 < 70 by decide) (show i < 6 by omega) (by decide), sI_eq (show (if i < k then s i else 0) < 100000 by split <;> omega) (show q < 100000 by omega)]
      refine ⟨fun hc => absurd hc (by omega), fun _ => ⟨fun heq => ⟨rfl, rfl, ?_⟩, fun hne => ⟨rfl, ?_⟩⟩⟩
      · rw [if_pos (by rw [beq_iff_eq]; exact heq)] at ha
        exact ih (i + 1) _ (by omega) ha
      · rw [if_neg (by rw [beq_iff_eq]; exact hne)] at ha
        exact ih (i + 1) a (by omega) ha
  exact lp 6 0 _ (by omega) rfl
theorem sp_X9_isUntold {T : TS} (hC : CS c T sg pd im) (hs : sg ≤ 48) (hk : R (some (.int (if untB pd sg 0 = true then nI 1 else nI 0))) (tab c)) : rM ro (d + 1) 80 0 0 [.ref 0] (tab c) R := by
  have h0 := hC.1.1
  have hp := hC.2.2.2.1
  rw [en_X9_isUntold]
  simp only [s_X9_isUntold_0, s_X9_isUntold_1, s_X9_isUntold_3, s_X9_isUntold_4, s_X9_isUntold_7, s_X9_isUntold_10, s_X9_isUntold_11, s_X9_isUntold_13, s_X9_isUntold_16, s_X9_isUntold_17, s_X9_isUntold_20, s_X9_isUntold_21, s_X9_isUntold_22, s_X9_isUntold_24, s_X9_isUntold_27, s_X9_isUntold_28, s_X9_isUntold_29, s_X9_isUntold_32, s_X9_isUntold_35, s_X9_isUntold_36]
  refine ⟨rfl, ?_⟩
  have lp : ∀ rem i, i + rem = sg → untB pd rem i = untB pd sg 0 → rU ro d tb_X9_isUntold R 2 [.ref 0, .int (nI i)] [] (tab c) := by
    intro rem
    induction rem with
    | zero =>
      intro i hi hu
      have : i = sg := by omega
      subst this
      rw [untB] at hu
      rw [s_X9_isUntold_2]
      simp only [s_X9_isUntold_0, s_X9_isUntold_1, s_X9_isUntold_3, s_X9_isUntold_4, s_X9_isUntold_7, s_X9_isUntold_10, s_X9_isUntold_11, s_X9_isUntold_13, s_X9_isUntold_16, s_X9_isUntold_17, s_X9_isUntold_20, s_X9_isUntold_21, s_X9_isUntold_22, s_X9_isUntold_24, s_X9_isUntold_27, s_X9_isUntold_28, s_X9_isUntold_29, s_X9_isUntold_32, s_X9_isUntold_35, s_X9_isUntold_36, gl4 h0]
      rw [← hu, if_neg (by decide)] at hk
      exact ⟨fun _ => ⟨Or.inl nI_0, hk⟩, fun hc => absurd ((sI_le (by omega) (by omega)).mpr (Nat.le_refl _)) hc⟩
    | succ rem ih =>
      intro i hi hu
      rw [untB] at hu
      rw [s_X9_isUntold_2]
      simp only [s_X9_isUntold_0, s_X9_isUntold_1, s_X9_isUntold_3, s_X9_isUntold_4, s_X9_isUntold_7, s_X9_isUntold_10, s_X9_isUntold_11, s_X9_isUntold_13, s_X9_isUntold_16, s_X9_isUntold_17, s_X9_isUntold_20, s_X9_isUntold_21, s_X9_isUntold_22, s_X9_isUntold_24, s_X9_isUntold_27, s_X9_isUntold_28, s_X9_isUntold_29, s_X9_isUntold_32, s_X9_isUntold_35, s_X9_isUntold_36, gl4 h0, gl3 h0, nI_add, sI_le (show sg < 100000 by omega) (show i < 100000 by omega), sI_le (show 48 < 100000 by decide) (show i < 100000 by omega), ai_i hp (show 21 < 70 by decide) (show i < 48 by omega) (by decide)]
      refine ⟨fun hc => absurd hc (by omega), fun _ => ⟨fun hc => absurd hc (by omega), fun _ => ⟨fun heq => ⟨Or.inr rfl, ?_⟩, fun hne => ⟨rfl, ?_⟩⟩⟩⟩
      · rw [if_pos heq] at hu
        rw [← hu, if_pos rfl] at hk
        exact hk
      · rw [if_neg hne] at hu
        exact ih (i + 1) (by omega) hu
  exact lp sg 0 (by omega) rfl
theorem cl_wins (hV : VS (n, m, v, w, fo, si, st)) (hs : sg ≤ 48) (hC : CS c (n, m, v, w, fo, si, st) sg pd im) (hk : ∀ c', frm CM c c' → CS c' (n, m, v, w, fo, si, st) sg pd im → R (some (.int (winA (n, m, v, w, fo, si, st) sg pd x))) (tab c')) : rM (rRo LL xs) (d + 4) 50 0 0 [.ref 0, .int x] (tab c) R := by
  have h0 := hC.1.1
  have hn := hV.1
  have hm := hV.2.1
  rw [en_X9_wins]
  simp only [s_X9_wins_0, s_X9_wins_1, s_X9_wins_4, s_X9_wins_7, s_X9_wins_9, s_X9_wins_10, s_X9_wins_11, s_X9_wins_14, s_X9_wins_16, s_X9_wins_19, s_X9_wins_21, s_X9_wins_22, s_X9_wins_23, s_X9_wins_26, s_X9_wins_29, s_X9_wins_31, s_X9_wins_32, s_X9_wins_33, s_X9_wins_36, s_X9_wins_39, s_X9_wins_40, s_X9_wins_42, s_X9_wins_43, s_X9_wins_46, s_X9_wins_49, s_X9_wins_52, s_X9_wins_53, s_X9_wins_56, s_X9_wins_57, s_X9_wins_58, s_X9_wins_61, s_X9_wins_62, s_X9_wins_63, s_X9_wins_65, s_X9_wins_66, s_X9_wins_69, s_X9_wins_72, s_X9_wins_75, s_X9_wins_76, s_X9_wins_79, s_X9_wins_82, s_X9_wins_83, s_X9_wins_86, s_X9_wins_89, s_X9_wins_90, s_X9_wins_93, s_X9_wins_96, s_X9_wins_99, s_X9_wins_100, s_X9_wins_101, s_X9_wins_104, s_X9_wins_106, s_X9_wins_107, s_X9_wins_108, s_X9_wins_111, s_X9_wins_112, s_X9_wins_115, s_X9_wins_116, s_X9_wins_119, s_X9_wins_120, s_X9_wins_123]
  refine sp_X9_isBit ?_
  simp only [Option.toList_some, Option.toList_none, List.cons_append, List.nil_append, Option.toList, s_X9_wins_0, s_X9_wins_1, s_X9_wins_4, s_X9_wins_7, s_X9_wins_9, s_X9_wins_10, s_X9_wins_11, s_X9_wins_14, s_X9_wins_16, s_X9_wins_19, s_X9_wins_21, s_X9_wins_22, s_X9_wins_23, s_X9_wins_26, s_X9_wins_29, s_X9_wins_31, s_X9_wins_32, s_X9_wins_33, s_X9_wins_36, s_X9_wins_39, s_X9_wins_40, s_X9_wins_42, s_X9_wins_43, s_X9_wins_46, s_X9_wins_49, s_X9_wins_52, s_X9_wins_53, s_X9_wins_56, s_X9_wins_57, s_X9_wins_58, s_X9_wins_61, s_X9_wins_62, s_X9_wins_63, s_X9_wins_65, s_X9_wins_66, s_X9_wins_69, s_X9_wins_72, s_X9_wins_75, s_X9_wins_76, s_X9_wins_79, s_X9_wins_82, s_X9_wins_83, s_X9_wins_86, s_X9_wins_89, s_X9_wins_90, s_X9_wins_93, s_X9_wins_96, s_X9_wins_99, s_X9_wins_100, s_X9_wins_101, s_X9_wins_104, s_X9_wins_106, s_X9_wins_107, s_X9_wins_108, s_X9_wins_111, s_X9_wins_112, s_X9_wins_115, s_X9_wins_116, s_X9_wins_119, s_X9_wins_120, s_X9_wins_123, b2_0, vl_o h0]
  refine ⟨fun hx => ?_, fun hx => cl_fault hV hs hC ?_⟩
  · have := hk c frm.rf hC
    rw [winA, if_neg hx] at this
    exact this
  have hx := Decidable.not_not.mp hx
  simp only [Option.toList_some, Option.toList_none, List.cons_append, List.nil_append, Option.toList, s_X9_wins_0, s_X9_wins_1, s_X9_wins_4, s_X9_wins_7, s_X9_wins_9, s_X9_wins_10, s_X9_wins_11, s_X9_wins_14, s_X9_wins_16, s_X9_wins_19, s_X9_wins_21, s_X9_wins_22, s_X9_wins_23, s_X9_wins_26, s_X9_wins_29, s_X9_wins_31, s_X9_wins_32, s_X9_wins_33, s_X9_wins_36, s_X9_wins_39, s_X9_wins_40, s_X9_wins_42, s_X9_wins_43, s_X9_wins_46, s_X9_wins_49, s_X9_wins_52, s_X9_wins_53, s_X9_wins_56, s_X9_wins_57, s_X9_wins_58, s_X9_wins_61, s_X9_wins_62, s_X9_wins_63, s_X9_wins_65, s_X9_wins_66, s_X9_wins_69, s_X9_wins_72, s_X9_wins_75, s_X9_wins_76, s_X9_wins_79, s_X9_wins_82, s_X9_wins_83, s_X9_wins_86, s_X9_wins_89, s_X9_wins_90, s_X9_wins_93, s_X9_wins_96, s_X9_wins_99, s_X9_wins_100, s_X9_wins_101, s_X9_wins_104, s_X9_wins_106, s_X9_wins_107, s_X9_wins_108, s_X9_wins_111, s_X9_wins_112, s_X9_wins_115, s_X9_wins_116, s_X9_wins_119, s_X9_wins_120, s_X9_wins_123, vl_o h0]
  refine ⟨fun hf => sp_X9_isUntold hC hs ?_, fun hf => ?_⟩
  case refine_2 =>
    have := hk c frm.rf hC
    rw [winA, if_pos hx, if_neg hf] at this
    exact this
  obtain ⟨hsg, hsl⟩ := flt_no hn.1 hs hf
  have hsg : sg = n := hsg
  subst hsg
  have hsl : ∀ j, j < sg → slp m (pd j) := hsl
  have hw0 := fun c1 hf1 hC1 => hk c1 hf1 hC1
  rw [winA, if_pos hx, if_pos hf] at hw0
  simp only [Option.toList_some, Option.toList_none, List.cons_append, List.nil_append, Option.toList, s_X9_wins_0, s_X9_wins_1, s_X9_wins_4, s_X9_wins_7, s_X9_wins_9, s_X9_wins_10, s_X9_wins_11, s_X9_wins_14, s_X9_wins_16, s_X9_wins_19, s_X9_wins_21, s_X9_wins_22, s_X9_wins_23, s_X9_wins_26, s_X9_wins_29, s_X9_wins_31, s_X9_wins_32, s_X9_wins_33, s_X9_wins_36, s_X9_wins_39, s_X9_wins_40, s_X9_wins_42, s_X9_wins_43, s_X9_wins_46, s_X9_wins_49, s_X9_wins_52, s_X9_wins_53, s_X9_wins_56, s_X9_wins_57, s_X9_wins_58, s_X9_wins_61, s_X9_wins_62, s_X9_wins_63, s_X9_wins_65, s_X9_wins_66, s_X9_wins_69, s_X9_wins_72, s_X9_wins_75, s_X9_wins_76, s_X9_wins_79, s_X9_wins_82, s_X9_wins_83, s_X9_wins_86, s_X9_wins_89, s_X9_wins_90, s_X9_wins_93, s_X9_wins_96, s_X9_wins_99, s_X9_wins_100, s_X9_wins_101, s_X9_wins_104, s_X9_wins_106, s_X9_wins_107, s_X9_wins_108, s_X9_wins_111, s_X9_wins_112, s_X9_wins_115, s_X9_wins_116, s_X9_wins_119, s_X9_wins_120, s_X9_wins_123, gl5 h0, ve_o hC.1.2.2]
  refine ⟨fun hu => sp_X2_clear hC.1.2.2 hC.2.2.2.2.1 (s := pdS pd) fun c1 hf1 he1 => ?_, fun hu => ?_⟩
  case refine_2 =>
    have hu : untB pd sg 0 = true := by
      cases hq : untB pd sg 0
      · rw [hq, if_neg (by decide)] at hu; exact absurd nI_0 hu
      · rfl
    have := hw0 c frm.rf hC
    rw [if_pos hu] at this
    exact this
  have hu : untB pd sg 0 = false := by
    cases hq : untB pd sg 0
    · rfl
    · rw [hq, if_pos rfl] at hu; exact absurd hu (by decide)
  rw [if_neg (by rw [hu]; decide)] at hw0
  have hpv : ∀ j, j < sg → pdS pd j ≤ m ∧ pd j - nI 48 = nI (pdS pd j) := fun j hj => by
    obtain ⟨a, ha1, ha2⟩ := (slp_cs hm.2 (hsl j hj)).resolve_left (untB_no sg 0 hu j (by omega) (by omega))
    have h48 := pd48 (show a ≤ 6 by omega)
    unfold pdS
    rw [ha2, h48.2.2.2]
    exact ⟨ha1, h48.2.2.1⟩
  simp only [Option.toList_some, Option.toList_none, List.cons_append, List.nil_append, Option.toList, s_X9_wins_0, s_X9_wins_1, s_X9_wins_4, s_X9_wins_7, s_X9_wins_9, s_X9_wins_10, s_X9_wins_11, s_X9_wins_14, s_X9_wins_16, s_X9_wins_19, s_X9_wins_21, s_X9_wins_22, s_X9_wins_23, s_X9_wins_26, s_X9_wins_29, s_X9_wins_31, s_X9_wins_32, s_X9_wins_33, s_X9_wins_36, s_X9_wins_39, s_X9_wins_40, s_X9_wins_42, s_X9_wins_43, s_X9_wins_46, s_X9_wins_49, s_X9_wins_52, s_X9_wins_53, s_X9_wins_56, s_X9_wins_57, s_X9_wins_58, s_X9_wins_61, s_X9_wins_62, s_X9_wins_63, s_X9_wins_65, s_X9_wins_66, s_X9_wins_69, s_X9_wins_72, s_X9_wins_75, s_X9_wins_76, s_X9_wins_79, s_X9_wins_82, s_X9_wins_83, s_X9_wins_86, s_X9_wins_89, s_X9_wins_90, s_X9_wins_93, s_X9_wins_96, s_X9_wins_99, s_X9_wins_100, s_X9_wins_101, s_X9_wins_104, s_X9_wins_106, s_X9_wins_107, s_X9_wins_108, s_X9_wins_111, s_X9_wins_112, s_X9_wins_115, s_X9_wins_116, s_X9_wins_119, s_X9_wins_120, s_X9_wins_123]
  refine ⟨rfl, ?_⟩
  have lp : ∀ rem i c2 b, i + rem = sg → frm [23, 24] c c2 → EVS c2 (pdS pd) i b → slB (pdS pd) rem i b = slB (pdS pd) sg 0 zrB → rU (rRo LL xs) (d + 3) tb_X9_wins R 41 [.ref 0, .int x, .int (nI i)] [] (tab c2) := by
    intro rem
    induction rem with
    | zero =>
      intro i c2 b hi hf2 he2 hb
      have : i = sg := by omega
      subst this
      rw [slB] at hb
      subst hb
      have hC2 := hC.ev hf2 he2.ev
      have h02 := hC2.1.1
      have h22 := hC2.1.2.2
      have htt := hC2.2.1.1
      rw [s_X9_wins_41]
      simp only [s_X9_wins_0, s_X9_wins_1, s_X9_wins_4, s_X9_wins_7, s_X9_wins_9, s_X9_wins_10, s_X9_wins_11, s_X9_wins_14, s_X9_wins_16, s_X9_wins_19, s_X9_wins_21, s_X9_wins_22, s_X9_wins_23, s_X9_wins_26, s_X9_wins_29, s_X9_wins_31, s_X9_wins_32, s_X9_wins_33, s_X9_wins_36, s_X9_wins_39, s_X9_wins_40, s_X9_wins_42, s_X9_wins_43, s_X9_wins_46, s_X9_wins_49, s_X9_wins_52, s_X9_wins_53, s_X9_wins_56, s_X9_wins_57, s_X9_wins_58, s_X9_wins_61, s_X9_wins_62, s_X9_wins_63, s_X9_wins_65, s_X9_wins_66, s_X9_wins_69, s_X9_wins_72, s_X9_wins_75, s_X9_wins_76, s_X9_wins_79, s_X9_wins_82, s_X9_wins_83, s_X9_wins_86, s_X9_wins_89, s_X9_wins_90, s_X9_wins_93, s_X9_wins_96, s_X9_wins_99, s_X9_wins_100, s_X9_wins_101, s_X9_wins_104, s_X9_wins_106, s_X9_wins_107, s_X9_wins_108, s_X9_wins_111, s_X9_wins_112, s_X9_wins_115, s_X9_wins_116, s_X9_wins_119, s_X9_wins_120, s_X9_wins_123, gl0 h02, gl5 h02, ge1 h22, gt0 htt (show 1 < 70 by decide), gt1 htt (show 1 < 70 by decide), gt2 htt (show 1 < 70 by decide)]
      refine ⟨fun _ => sp_X9_winner' he2.2 (by decide) hm.2 hV.2.2.1 ?_, fun hc => absurd ((sI_le (by omega) (by omega)).mpr (Nat.le_refl _)) hc⟩
      have hw2 := hw0 c2 (hf2.mono rfl) hC2
      unfold wnQ at hw2
      have hwl := winF_le (v := v) (m := m) (f := slB (pdS pd) i 0 zrB)
      simp only [Option.toList_some, Option.toList_none, List.cons_append, List.nil_append, Option.toList, s_X9_wins_0, s_X9_wins_1, s_X9_wins_4, s_X9_wins_7, s_X9_wins_9, s_X9_wins_10, s_X9_wins_11, s_X9_wins_14, s_X9_wins_16, s_X9_wins_19, s_X9_wins_21, s_X9_wins_22, s_X9_wins_23, s_X9_wins_26, s_X9_wins_29, s_X9_wins_31, s_X9_wins_32, s_X9_wins_33, s_X9_wins_36, s_X9_wins_39, s_X9_wins_40, s_X9_wins_42, s_X9_wins_43, s_X9_wins_46, s_X9_wins_49, s_X9_wins_52, s_X9_wins_53, s_X9_wins_56, s_X9_wins_57, s_X9_wins_58, s_X9_wins_61, s_X9_wins_62, s_X9_wins_63, s_X9_wins_65, s_X9_wins_66, s_X9_wins_69, s_X9_wins_72, s_X9_wins_75, s_X9_wins_76, s_X9_wins_79, s_X9_wins_82, s_X9_wins_83, s_X9_wins_86, s_X9_wins_89, s_X9_wins_90, s_X9_wins_93, s_X9_wins_96, s_X9_wins_99, s_X9_wins_100, s_X9_wins_101, s_X9_wins_104, s_X9_wins_106, s_X9_wins_107, s_X9_wins_108, s_X9_wins_111, s_X9_wins_112, s_X9_wins_115, s_X9_wins_116, s_X9_wins_119, s_X9_wins_120, s_X9_wins_123, gl5 h02, ve_o h22]
      refine ⟨rfl, fun h0 => ?_, fun h0 => ⟨fun hx0 => ?_, fun hx0 => ?_⟩⟩
      · rw [if_pos ((sI_eq (by omega) (by decide)).mp (h0.trans nI_0.symm))] at hw2
        exact hw2
      · rw [if_neg (fun e => h0 (by rw [e]; exact nI_0)), if_pos hx0] at hw2
        exact hw2
      · have hz : ¬ winF v m (slB (pdS pd) i 0 zrB) = 0 := fun e => h0 (by rw [e]; exact nI_0)
        refine sp_X2_writers h22 he2 (fun j hj => by have := (hpv j hj).1; omega) hn.2 (by omega) ?_
        rw [if_neg hz, if_neg hx0] at hw2
        simp only [Option.toList_some, Option.toList_none, List.cons_append, List.nil_append, Option.toList, s_X9_wins_0, s_X9_wins_1, s_X9_wins_4, s_X9_wins_7, s_X9_wins_9, s_X9_wins_10, s_X9_wins_11, s_X9_wins_14, s_X9_wins_16, s_X9_wins_19, s_X9_wins_21, s_X9_wins_22, s_X9_wins_23, s_X9_wins_26, s_X9_wins_29, s_X9_wins_31, s_X9_wins_32, s_X9_wins_33, s_X9_wins_36, s_X9_wins_39, s_X9_wins_40, s_X9_wins_42, s_X9_wins_43, s_X9_wins_46, s_X9_wins_49, s_X9_wins_52, s_X9_wins_53, s_X9_wins_56, s_X9_wins_57, s_X9_wins_58, s_X9_wins_61, s_X9_wins_62, s_X9_wins_63, s_X9_wins_65, s_X9_wins_66, s_X9_wins_69, s_X9_wins_72, s_X9_wins_75, s_X9_wins_76, s_X9_wins_79, s_X9_wins_82, s_X9_wins_83, s_X9_wins_86, s_X9_wins_89, s_X9_wins_90, s_X9_wins_93, s_X9_wins_96, s_X9_wins_99, s_X9_wins_100, s_X9_wins_101, s_X9_wins_104, s_X9_wins_106, s_X9_wins_107, s_X9_wins_108, s_X9_wins_111, s_X9_wins_112, s_X9_wins_115, s_X9_wins_116, s_X9_wins_119, s_X9_wins_120, s_X9_wins_123]
        exact hw2
    | succ rem ih =>
      intro i c2 b hi hf2 he2 hb
      rw [slB] at hb
      have hC2 := hC.ev hf2 he2.ev
      have h02 := hC2.1.1
      have h22 := hC2.1.2.2
      have htt := hC2.2.1.1
      have hp2 := hC2.2.2.2.1
      obtain ⟨hv1, hv2⟩ := hpv i (by omega)
      rw [s_X9_wins_41]
      simp only [s_X9_wins_0, s_X9_wins_1, s_X9_wins_4, s_X9_wins_7, s_X9_wins_9, s_X9_wins_10, s_X9_wins_11, s_X9_wins_14, s_X9_wins_16, s_X9_wins_19, s_X9_wins_21, s_X9_wins_22, s_X9_wins_23, s_X9_wins_26, s_X9_wins_29, s_X9_wins_31, s_X9_wins_32, s_X9_wins_33, s_X9_wins_36, s_X9_wins_39, s_X9_wins_40, s_X9_wins_42, s_X9_wins_43, s_X9_wins_46, s_X9_wins_49, s_X9_wins_52, s_X9_wins_53, s_X9_wins_56, s_X9_wins_57, s_X9_wins_58, s_X9_wins_61, s_X9_wins_62, s_X9_wins_63, s_X9_wins_65, s_X9_wins_66, s_X9_wins_69, s_X9_wins_72, s_X9_wins_75, s_X9_wins_76, s_X9_wins_79, s_X9_wins_82, s_X9_wins_83, s_X9_wins_86, s_X9_wins_89, s_X9_wins_90, s_X9_wins_93, s_X9_wins_96, s_X9_wins_99, s_X9_wins_100, s_X9_wins_101, s_X9_wins_104, s_X9_wins_106, s_X9_wins_107, s_X9_wins_108, s_X9_wins_111, s_X9_wins_112, s_X9_wins_115, s_X9_wins_116, s_X9_wins_119, s_X9_wins_120, s_X9_wins_123, gl0 h02, gl5 h02, gl3 h02, gt0 htt (show 1 < 70 by decide), sI_le (show sg < 100000 by omega) (show i < 100000 by omega), ai_i hp2 (show 21 < 70 by decide) (show i < 48 by omega) (by decide), ve_o h22, hv2]
      refine ⟨fun hc => absurd hc (by omega), fun _ => sp_X2_write h22 he2 (by omega) (by omega) fun c3 hf3 he3 => ?_⟩
      simp only [Option.toList_some, Option.toList_none, List.cons_append, List.nil_append, Option.toList, s_X9_wins_0, s_X9_wins_1, s_X9_wins_4, s_X9_wins_7, s_X9_wins_9, s_X9_wins_10, s_X9_wins_11, s_X9_wins_14, s_X9_wins_16, s_X9_wins_19, s_X9_wins_21, s_X9_wins_22, s_X9_wins_23, s_X9_wins_26, s_X9_wins_29, s_X9_wins_31, s_X9_wins_32, s_X9_wins_33, s_X9_wins_36, s_X9_wins_39, s_X9_wins_40, s_X9_wins_42, s_X9_wins_43, s_X9_wins_46, s_X9_wins_49, s_X9_wins_52, s_X9_wins_53, s_X9_wins_56, s_X9_wins_57, s_X9_wins_58, s_X9_wins_61, s_X9_wins_62, s_X9_wins_63, s_X9_wins_65, s_X9_wins_66, s_X9_wins_69, s_X9_wins_72, s_X9_wins_75, s_X9_wins_76, s_X9_wins_79, s_X9_wins_82, s_X9_wins_83, s_X9_wins_86, s_X9_wins_89, s_X9_wins_90, s_X9_wins_93, s_X9_wins_96, s_X9_wins_99, s_X9_wins_100, s_X9_wins_101, s_X9_wins_104, s_X9_wins_106, s_X9_wins_107, s_X9_wins_108, s_X9_wins_111, s_X9_wins_112, s_X9_wins_115, s_X9_wins_116, s_X9_wins_119, s_X9_wins_120, s_X9_wins_123, nI_add]
      exact ⟨rfl, ih (i + 1) c3 _ (by omega) (hf2.trans hf3) he3 hb⟩
  exact lp sg 0 c1 zrB (by omega) hf1 he1 rfl
end CE
