/-! ===== the class: weights by which nobody would do much better ===== -/
theorem lcge {a b : Nat} (ha : a < 2 ^ 62) (hb : b < 2 ^ 62) : (0 ≤ lg_cmp (lN a) (lN b)) ↔ b ≤ a := by
  unfold lg_cmp
  have hgt : (lN a > lN b) ↔ b < a := by
    show lN b < lN a ↔ _
    rw [Int64.lt_iff_toInt_lt, lN_toI (by omega), lN_toI (by omega)]
    omega
  have heq : (lN a = lN b) ↔ a = b := by
    rw [← Int64.toInt_inj, lN_toI (by omega), lN_toI (by omega)]
    omega
  by_cases h1 : b < a
  · rw [if_pos (hgt.mpr h1)]; exact ⟨fun _ => by omega, fun _ => by decide⟩
  · rw [if_neg (fun q => h1 (hgt.mp q))]
    by_cases h2 : a = b
    · rw [if_pos (heq.mpr h2)]; exact ⟨fun _ => by omega, fun _ => by decide⟩
    · rw [if_neg (fun q => h2 (heq.mp q))]; exact ⟨fun q => absurd q (by decide), fun _ => by omega⟩
theorem lclt0 {a : Nat} (ha : a < 2 ^ 62) : (lg_cmp (lN a) (lN 0) < 0) ↔ False := by
  have := (lcge ha (show 0 < 2 ^ 62 by decide)).mpr (Nat.zero_le _)
  exact ⟨fun q => absurd this (Int32.not_le.mpr q), False.elim⟩
theorem FF_cgw {w w' : Nat → Nat} {g : (Nat → Int32) → Nat} {m x : Nat} (h : ∀ j, x ≤ j → j < x + m → w j = w' j) : ∀ (k : Nat) (b : Nat → Int32), FF w g m x k b = FF w' g m x k b
  | 0, _ => rfl
  | k + 1, b => by
    rw [FF, FF]
    exact smF_cg _ _ (fun j h1 h2 => by rw [h j h1 h2, FF_cgw h k])
theorem gnF_cgw {w w' : Nat → Nat} {v m k x : Nat} {b : Nat → Int32} (h : ∀ j, 1 ≤ j → j ≤ m → w j = w' j) : gnF w v m k b x = gnF w' v m k b x := FF_cgw (fun j h1 h2 => h j h1 (by omega)) _ _
theorem gpF_cgw {w w' : Nat → Nat} {v m k : Nat} {b : Nat → Int32} (h : ∀ j, 1 ≤ j → j ≤ m → w j = w' j) : gpF w v m k b = gpF w' v m k b := by
  have hg : gnF w v m k b = gnF w' v m k b := funext fun x => gnF_cgw h
  unfold gpF
  rw [hg, smF_cg m 1 (f := w) (g := w') (fun j h1 h2 => h j h1 (by omega)), smF_cg m 1 (f := fun x => w x * gnF w' v m k b x) (g := fun x => w' x * gnF w' v m k b x) (fun j h1 h2 => by rw [h j h1 (by omega)])]
/-- the first of the least, one after another -/
def amO (H : List Nat → Nat) (best : Option (List Nat)) (l : List Nat) : Option (List Nat) := match best with
  | none => some l
  | some b => if H l < H b then some l else some b
def amL (H : List Nat → Nat) (best : Option (List Nat)) (ls : List (List Nat)) : Option (List Nat) := ls.foldl (amO H) best
theorem amL_zero {H : List Nat → Nat} {b : List Nat} (h : H b = 0) : ∀ ls, amL H (some b) ls = some b
  | [] => rfl
  | l :: t => by
    show amL H (amO H (some b) l) t = some b
    rw [amO, if_neg (by omega)]
    exact amL_zero h t
theorem amL_amF {H : List Nat → Nat} : ∀ (t : List (List Nat)) (a : List Nat), amL H (some a) t = some (amF H t a)
  | [], a => rfl
  | l :: t, a => by
    show amL H (amO H (some a) l) t = some (amF H (l :: t) a)
    rw [amO, amF]
    split
    · exact amL_amF t l
    · exact amL_amF t a
theorem rsL_amL {v n m t : Nat} (h : cmp m t ≠ []) : amL (rsH v n m) none (cmp m t) = some (rsL v n m t) := by
  unfold rsL
  cases hc : cmp m t with
  | nil => exact absurd hc h
  | cons a r => exact amL_amF r a
def BST (t m : Nat) (H : List Nat → Nat) (best : Option (List Nat)) (rw : Nat → Int32) (gp : Nat → Int64) : Prop := match best with
  | none => gp t = - lN 1
  | some b => gp t = lN (H b) ∧ H b < 2 ^ 62 ∧ ∀ j, 1 ≤ j → j ≤ m → rw (t * 7 + j) = nI (fll b j)
def cob (s : Int32) : rE := obj 1 [.ref 32, .ref 35, .ref 36, .ref 37, .ref 38, .int s]
theorem fll_app {p q : List Nat} {j : Nat} (h : j ≤ p.length) : fll (p ++ q) j = fll p j := by
  cases j with
  | zero => rfl
  | succ j =>
    show (p ++ q).getD j 0 = p.getD j 0
    rw [List.getD_eq_getElem?_getD, List.getD_eq_getElem?_getD, List.getElem?_append_left (by omega)]
theorem fll_last {p : List Nat} {a x : Nat} (h : p.length + 1 = x) : fll (p ++ [a]) x = a := by
  subst h
  show (p ++ [a]).getD p.length 0 = a
  rw [List.getD_eq_getElem?_getD, List.getElem?_append_right (Nat.le_refl _), Nat.sub_self]
  rfl
theorem smF_snoc {f : Nat → Nat} {x : Nat} (hx : 1 ≤ x) : smF f x 1 = smF f (x - 1) 1 + f x := by
  have := smF_split f (x - 1) 1 1
  rw [show x - 1 + 1 = x by omega, show 1 + (x - 1) = x by omega] at this
  rw [this, smF, smF, Nat.add_zero]
section CC
variable {ro : rQ} {LL : Nat} {xs : Nat → Int32} {d : Nat} {R : rR} {c : Nat → rE} {h : rH} {n m v si sg k t q l : Nat} {w fo o rf : Nat → Nat} {st pd rw : Nat → Int32} {gp : Nat → Int64} {im : Nat → Option TS} {x y z s : Int32} {best : Option (List Nat)} {H : List Nat → Nat}
theorem gc0 (h : c 31 = cob s) {K : Value → Prop} : rGf (tab c) 31 0 [1] K ↔ K (.ref 32) := gf_o (ci := 1) h (by decide) rfl rfl
theorem gc1 (h : c 31 = cob s) {K : Value → Prop} : rGf (tab c) 31 1 [1] K ↔ K (.ref 35) := gf_o (ci := 1) h (by decide) rfl rfl
theorem gc2 (h : c 31 = cob s) {K : Value → Prop} : rGf (tab c) 31 2 [1] K ↔ K (.ref 36) := gf_o (ci := 1) h (by decide) rfl rfl
theorem gc3 (h : c 31 = cob s) {K : Value → Prop} : rGf (tab c) 31 3 [1] K ↔ K (.ref 37) := gf_o (ci := 1) h (by decide) rfl rfl
theorem gc4 (h : c 31 = cob s) {K : Value → Prop} : rGf (tab c) 31 4 [1] K ↔ K (.ref 38) := gf_o (ci := 1) h (by decide) rfl rfl
theorem gc5 (h : c 31 = cob s) {K : Value → Prop} : rGf (tab c) 31 5 [1] K ↔ K (.int s) := gf_o (ci := 1) h (by decide) rfl rfl
theorem pc5 (h : c 31 = cob s) {K : rH → Prop} : rPf (tab c) 31 [5, 0, 0, 1] (.int x) K ↔ K (tab (fup c 31 (cob x))) := pf_o (ci := 1) h (by decide) rfl rfl
theorem vca {f : Nat} {As : List Value} (h : c 31 = cob s) : rVc ro d [1, f] 31 As (tab c) R ↔ rM ro d f 0 0 (.ref 31 :: As) (tab c) R := vc_o (ci := 1) h (by decide) rfl
theorem cp_at {D : Nat} {val : Nat → Int32} {K : rH → Prop} (h1 : isI c 38 7 val) (h2 : isI c 36 63 rw) (hD : D + 7 ≤ 63) (kk : ∀ c', frm [36] c c' → isI c' 36 63 (fun j => if D ≤ j ∧ j < D + 7 then val (j - D) else rw j) → K (tab c')) : rCp (tab c) 38 (nI 0) 36 (nI D) (nI 7) K := by
  obtain ⟨g1, e1, v1⟩ := h1
  obtain ⟨g2, e2, v2⟩ := h2
  unfold rCp
  rw [tab_get (by decide), e1, tab_get (by decide), e2]
  refine ⟨⟨by decide, by rw [sI_lt0 (by omega)]; exact id, by decide, by rw [nI_c (by decide), nI_c (by decide)]; omega, by rw [nI_c (by omega), nI_c (by decide)]; omega⟩, ?_⟩
  rw [tab_set]
  refine kk _ (frm.rf.fup (by simp)) (isI_fup (fun j hj => ?_))
  unfold va_cpy
  rw [nI_c (by omega), nI_c (by decide), nI_c (by decide)]
  by_cases e : D ≤ j ∧ j < D + 7
  · rw [if_pos e, if_pos e, Nat.zero_add]; exact v1 _ (by omega)
  · rw [if_neg e, if_neg e]; exact v2 j hj
theorem sp_X1_judge {l : List Nat} (h31 : c 31 = cob (nI t)) (hT : TG c 4 32 v m k zrB o) (ht : 1 ≤ t ∧ t ≤ 8) (hm : 2 ≤ m ∧ m ≤ 6) (ho : ∀ j, j < 7 → o j < 2 ^ 31) (hrf : isI c 38 7 (fun j => nI (rf j))) (hr8 : ∀ j, rf j ≤ 8) (hl : ∀ j, 1 ≤ j → j ≤ m → rf j = fll l j) (hsum : smF rf m 1 = t) (hH : t * o (topF o m) - smF (fun x => rf x * o x) m 1 = H l)
    (hrw : isI c 36 63 rw) (hgp : isL c 37 9 gp) (hB : BST t m H best rw gp)
    (hk : ∀ c' rw' gp', frm [36, 37] c c' → isI c' 36 63 rw' → isL c' 37 9 gp' → BST t m H (amO H best l) rw' gp' → (∀ u, u ≠ t → gp' u = gp u) → (∀ u j, u ≠ t → j < 7 → rw' (u * 7 + j) = rw (u * 7 + j)) → R none (tab c')) : rM ro (d + 3) 6 0 0 [.ref 31] (tab c) R := by
  obtain ⟨wf, hwf, hwv⟩ := id hrf
  have htop := topF_mem o hm.1
  have hHl : H l < 2 ^ 62 := by
    rw [← hH]
    have h1 := ho (topF o m) (by omega)
    have h2 : t * o (topF o m) ≤ 8 * 2 ^ 31 := Nat.mul_le_mul ht.2 (by omega)
    omega
  rw [en_X1_judge]
  simp only [s_X1_judge_0, s_X1_judge_1, s_X1_judge_4, s_X1_judge_5, s_X1_judge_8, s_X1_judge_9, s_X1_judge_12, s_X1_judge_15, s_X1_judge_16, s_X1_judge_17, s_X1_judge_20, s_X1_judge_21, s_X1_judge_24, s_X1_judge_25, s_X1_judge_26, s_X1_judge_27, s_X1_judge_30, s_X1_judge_31, s_X1_judge_32, s_X1_judge_35, s_X1_judge_36, s_X1_judge_39, s_X1_judge_40, s_X1_judge_41, s_X1_judge_44, s_X1_judge_45, s_X1_judge_48, s_X1_judge_49, s_X1_judge_52, s_X1_judge_53, s_X1_judge_54, s_X1_judge_55, s_X1_judge_58, s_X1_judge_59, s_X1_judge_60, s_X1_judge_63, s_X1_judge_64, s_X1_judge_67, s_X1_judge_69, s_X1_judge_70, s_X1_judge_72, s_X1_judge_75, gc0 h31, gc4 h31, gc5 h31, vg4 hT.1 (show 32 < 70 by decide)]
  refine sp_X4_surplus hT (by decide) hm (fun j _ => by have := hr8 j; omega) ho hsum (by omega) (gI_o hwf (by decide)) hwv ?_
  rw [hH]
  have wr : rU ro (d + 2) tb_X1_judge R 44 [.ref 31, .long (lN (H l)), .null] [] (tab c) → True := fun _ => trivial
  have store : BST t m H (some l) (fun j => if t * 7 ≤ j ∧ j < t * 7 + 7 then nI (rf (j - t * 7)) else rw j) (vp_updL gp t (lN (H l))) := by
    refine ⟨updL_self, hHl, fun j h1 h2 => ?_⟩
    show (if t * 7 ≤ t * 7 + j ∧ t * 7 + j < t * 7 + 7 then nI (rf (t * 7 + j - t * 7)) else rw (t * 7 + j)) = _
    rw [if_pos (by omega), show t * 7 + j - t * 7 = j by omega, hl j h1 h2]
  have st44 : amO H best l = some l → rU ro (d + 2) tb_X1_judge R 44 [.ref 31, .long (lN (H l)), .null] [] (tab c) := by
    intro hA
    simp only [s_X1_judge_0, s_X1_judge_1, s_X1_judge_4, s_X1_judge_5, s_X1_judge_8, s_X1_judge_9, s_X1_judge_12, s_X1_judge_15, s_X1_judge_16, s_X1_judge_17, s_X1_judge_20, s_X1_judge_21, s_X1_judge_24, s_X1_judge_25, s_X1_judge_26, s_X1_judge_27, s_X1_judge_30, s_X1_judge_31, s_X1_judge_32, s_X1_judge_35, s_X1_judge_36, s_X1_judge_39, s_X1_judge_40, s_X1_judge_41, s_X1_judge_44, s_X1_judge_45, s_X1_judge_48, s_X1_judge_49, s_X1_judge_52, s_X1_judge_53, s_X1_judge_54, s_X1_judge_55, s_X1_judge_58, s_X1_judge_59, s_X1_judge_60, s_X1_judge_63, s_X1_judge_64, s_X1_judge_67, s_X1_judge_69, s_X1_judge_70, s_X1_judge_72, s_X1_judge_75, gc3 h31, gc5 h31]
    refine sl_i hgp (by decide) (by omega) (by decide) fun c1 hf1 hi1 => ?_
    have e31 := (hf1 31 rfl).trans h31
    simp only [s_X1_judge_0, s_X1_judge_1, s_X1_judge_4, s_X1_judge_5, s_X1_judge_8, s_X1_judge_9, s_X1_judge_12, s_X1_judge_15, s_X1_judge_16, s_X1_judge_17, s_X1_judge_20, s_X1_judge_21, s_X1_judge_24, s_X1_judge_25, s_X1_judge_26, s_X1_judge_27, s_X1_judge_30, s_X1_judge_31, s_X1_judge_32, s_X1_judge_35, s_X1_judge_36, s_X1_judge_39, s_X1_judge_40, s_X1_judge_41, s_X1_judge_44, s_X1_judge_45, s_X1_judge_48, s_X1_judge_49, s_X1_judge_52, s_X1_judge_53, s_X1_judge_54, s_X1_judge_55, s_X1_judge_58, s_X1_judge_59, s_X1_judge_60, s_X1_judge_63, s_X1_judge_64, s_X1_judge_67, s_X1_judge_69, s_X1_judge_70, s_X1_judge_72, s_X1_judge_75, gc4 e31, gc2 e31, gc5 e31, nI_mul]
    refine cp_at (hrf.fr hf1 rfl) (hrw.fr hf1 rfl) (by omega) fun c2 hf2 hi2 => ?_
    refine hk c2 _ _ ((hf1.mono rfl).trans (hf2.mono rfl)) hi2 (hi1.fr hf2 rfl) (by rw [hA]; exact store) (fun u hu => updL_ne hu) (fun u j hu hj => ?_)
    show (if t * 7 ≤ u * 7 + j ∧ u * 7 + j < t * 7 + 7 then nI (rf (u * 7 + j - t * 7)) else rw (u * 7 + j)) = _
    rw [if_neg (by omega)]
  simp only [Option.toList_some, Option.toList_none, List.cons_append, List.nil_append, Option.toList, s_X1_judge_0, s_X1_judge_1, s_X1_judge_4, s_X1_judge_5, s_X1_judge_8, s_X1_judge_9, s_X1_judge_12, s_X1_judge_15, s_X1_judge_16, s_X1_judge_17, s_X1_judge_20, s_X1_judge_21, s_X1_judge_24, s_X1_judge_25, s_X1_judge_26, s_X1_judge_27, s_X1_judge_30, s_X1_judge_31, s_X1_judge_32, s_X1_judge_35, s_X1_judge_36, s_X1_judge_39, s_X1_judge_40, s_X1_judge_41, s_X1_judge_45, s_X1_judge_48, s_X1_judge_49, s_X1_judge_52, s_X1_judge_53, s_X1_judge_54, s_X1_judge_55, s_X1_judge_58, s_X1_judge_59, s_X1_judge_60, s_X1_judge_63, s_X1_judge_64, s_X1_judge_67, s_X1_judge_69, s_X1_judge_70, s_X1_judge_72, s_X1_judge_75, gc3 h31, gc5 h31, al_i hgp (show 37 < 70 by decide) (show t < 9 by omega) (by decide)]
  refine ⟨rfl, ?_⟩
  cases best with
  | none =>
    have hB : gp t = - lN 1 := hB
    rw [hB]
    exact ⟨fun _ => st44 rfl, fun q => absurd (by decide) q⟩
  | some b =>
    obtain ⟨hB1, hB2, hB3⟩ := hB
    rw [hB1, lclt0 hB2, lcge hHl hB2]
    refine ⟨False.elim, fun _ => ⟨fun hge => ?_, fun hge => st44 (by rw [amO, if_pos (by omega)])⟩⟩
    refine hk c rw gp frm.rf hrw hgp ?_ (fun _ _ => rfl) (fun _ _ _ _ => rfl)
    rw [amO, if_neg (by omega)]
    exact ⟨hB1, hB2, hB3⟩
/-- under way: the rows whose first numbers are p come now -/
def SPR (c : Nat → rE) (t v m k x : Nat) (H : List Nat → Nat) (p : List Nat) (best : Option (List Nat)) (rw0 : Nat → Int32) (gp0 : Nat → Int64) : Prop := ∃ (rf : Nat → Nat) (rw : Nat → Int32) (gp : Nat → Int64), c 31 = cob (nI t) ∧ c 32 = gobj 4 32 (nI v) (nI m) (nI k) ∧ isI c 33 7 zrB ∧ tyL c 34 7 ∧ isI c 38 7 (fun j => nI (rf j)) ∧ (∀ j, rf j ≤ 8) ∧ (∀ j, 1 ≤ j → j < x → rf j = fll p j) ∧ isI c 36 63 rw ∧ isL c 37 9 gp ∧ BST t m H best rw gp ∧ (∀ u, u ≠ t → gp u = gp0 u) ∧ (∀ u j, u ≠ t → j < 7 → rw (u * 7 + j) = rw0 (u * 7 + j))
theorem sp_X9_spread {rw0 : Nat → Int32} {gp0 : Nat → Int64} (ht : 1 ≤ t ∧ t ≤ 8) (hm : 2 ≤ m ∧ m ≤ 6) (hv : v ≤ 3) (hk6 : k ≤ 6) : ∀ (r d x left : Nat) (p : List Nat) (best : Option (List Nat)) (c : Nat → rE) (R : rR), x + r = m → 1 ≤ x → p.length + 1 = x → smF (fll p) (x - 1) 1 + left = t → SPR c t v m k x (fun l => gpF (fll l) v m k zrB) p best rw0 gp0 →
    (∀ c', frm [32, 33, 34, 36, 37, 38] c c' → SPR c' t v m k x (fun l => gpF (fll l) v m k zrB) p (amL (fun l => gpF (fll l) v m k zrB) best ((cmp (r + 1) left).map (p ++ ·))) rw0 gp0 → R none (tab c')) →
    rM (rRo LL xs) (d + 12 + r) 93 0 0 [.ref 31, .int (nI x), .int (nI left)] (tab c) R := by
  intro r
  induction r with
  | zero =>
    intro d x left p best c R hx h1 hp hs hS hk
    have : x = m := by omega
    subst this
    obtain ⟨rf, rw, gp, e31, e32, e33, e34, e38, hr8, hrp, e36, e37, hB, ho1, ho2⟩ := hS
    rw [show d + 12 + 0 = d + 11 + 1 by omega, en_X9_spread]
    have stop : ∀ b, best = some b → gpF (fll b) v x k zrB = 0 → R none (tab c) := by
      intro b hb h0
      have := hk c frm.rf
      rw [hb, amL_zero h0, ← hb] at this
      exact this ⟨rf, rw, gp, e31, e32, e33, e34, e38, hr8, hrp, e36, e37, hB, ho1, ho2⟩
    have go : rU (rRo LL xs) (d + 11) tb_X9_spread R 26 [.ref 31, .int (nI x), .int (nI left), .null] [] (tab c) := by
      simp only [s_X9_spread_0, s_X9_spread_1, s_X9_spread_2, s_X9_spread_5, s_X9_spread_6, s_X9_spread_8, s_X9_spread_11, s_X9_spread_12, s_X9_spread_15, s_X9_spread_16, s_X9_spread_19, s_X9_spread_20, s_X9_spread_21, s_X9_spread_22, s_X9_spread_25, s_X9_spread_26, s_X9_spread_27, s_X9_spread_28, s_X9_spread_31, s_X9_spread_34, s_X9_spread_37, s_X9_spread_38, s_X9_spread_41, s_X9_spread_42, s_X9_spread_43, s_X9_spread_44, s_X9_spread_45, s_X9_spread_48, s_X9_spread_49, s_X9_spread_52, s_X9_spread_55, s_X9_spread_56, s_X9_spread_59, s_X9_spread_60, s_X9_spread_61, s_X9_spread_63, s_X9_spread_64, s_X9_spread_67, s_X9_spread_68, s_X9_spread_71, s_X9_spread_72, s_X9_spread_73, s_X9_spread_74, s_X9_spread_75, s_X9_spread_76, s_X9_spread_77, s_X9_spread_78, s_X9_spread_79, s_X9_spread_80, s_X9_spread_81, s_X9_spread_84, s_X9_spread_87, s_X9_spread_90, gc0 e31, gc4 e31, gg3 (cs := [4]) e32 (show 32 < 70 by decide) rfl, gg3 (cs := [4, 7]) e32 (show 32 < 70 by decide) rfl, sI_lt (show x < 100000 by omega) (show x < 100000 by omega)]
      refine ⟨fun q => absurd q (by omega), fun _ => si_i e38 (by decide) (by omega) (by decide) fun c1 hf1 hi1 => ?_⟩
      have f31 := (hf1 31 rfl).trans e31
      have f32 := (hf1 32 rfl).trans e32
      have hi1' : isI c1 38 7 (fun j => nI (updN rf x left j)) := hi1.cg (fun j _ => (congrFun updN_nI j).symm)
      have hr8' : ∀ j, updN rf x left j ≤ 8 := fun j => by unfold updN; split; omega; exact hr8 j
      have hl' : ∀ j, 1 ≤ j → j ≤ x → updN rf x left j = fll (p ++ [left]) j := fun j h1 h2 => by
        unfold updN
        by_cases e : j = x
        · rw [if_pos e, e, fll_last hp]
        · rw [if_neg e, hrp j h1 (by omega), fll_app (by omega)]
      have hsum : smF (updN rf x left) x 1 = t := by
        rw [smF_cg x 1 (g := fll (p ++ [left])) (fun j h1 h2 => hl' j h1 (by omega)), smF_snoc (by omega), fll_last hp, smF_cg (x - 1) 1 (g := fll p) (fun j h1 h2 => fll_app (by omega)), hs]
      simp only [s_X9_spread_0, s_X9_spread_1, s_X9_spread_2, s_X9_spread_5, s_X9_spread_6, s_X9_spread_8, s_X9_spread_11, s_X9_spread_12, s_X9_spread_15, s_X9_spread_16, s_X9_spread_19, s_X9_spread_20, s_X9_spread_21, s_X9_spread_22, s_X9_spread_25, s_X9_spread_26, s_X9_spread_27, s_X9_spread_28, s_X9_spread_31, s_X9_spread_34, s_X9_spread_37, s_X9_spread_38, s_X9_spread_41, s_X9_spread_42, s_X9_spread_43, s_X9_spread_44, s_X9_spread_45, s_X9_spread_48, s_X9_spread_49, s_X9_spread_52, s_X9_spread_55, s_X9_spread_56, s_X9_spread_59, s_X9_spread_60, s_X9_spread_61, s_X9_spread_63, s_X9_spread_64, s_X9_spread_67, s_X9_spread_68, s_X9_spread_71, s_X9_spread_72, s_X9_spread_73, s_X9_spread_74, s_X9_spread_75, s_X9_spread_76, s_X9_spread_77, s_X9_spread_78, s_X9_spread_79, s_X9_spread_80, s_X9_spread_81, s_X9_spread_84, s_X9_spread_87, s_X9_spread_90, gc0 f31, gc4 f31, vg4 f32 (show 32 < 70 by decide)]
      refine sp_X7_run (Or.inl rfl) (by decide) hm hv hk6 (fun j _ => by have := hr8' j; omega) f32 (e33.fr hf1 rfl) (e34.fr hf1 rfl) (Or.inl ⟨by decide, by decide, by decide, by decide, hi1'⟩) fun c2 o2 hf2 hT2 ho2' => ?_
      have g31 := (hf2 31 rfl).trans f31
      simp only [Option.toList_some, Option.toList_none, List.cons_append, List.nil_append, Option.toList, s_X9_spread_0, s_X9_spread_1, s_X9_spread_2, s_X9_spread_5, s_X9_spread_6, s_X9_spread_8, s_X9_spread_11, s_X9_spread_12, s_X9_spread_15, s_X9_spread_16, s_X9_spread_19, s_X9_spread_20, s_X9_spread_21, s_X9_spread_22, s_X9_spread_25, s_X9_spread_26, s_X9_spread_27, s_X9_spread_28, s_X9_spread_31, s_X9_spread_34, s_X9_spread_37, s_X9_spread_38, s_X9_spread_41, s_X9_spread_42, s_X9_spread_43, s_X9_spread_44, s_X9_spread_45, s_X9_spread_48, s_X9_spread_49, s_X9_spread_52, s_X9_spread_55, s_X9_spread_56, s_X9_spread_59, s_X9_spread_60, s_X9_spread_61, s_X9_spread_63, s_X9_spread_64, s_X9_spread_67, s_X9_spread_68, s_X9_spread_71, s_X9_spread_72, s_X9_spread_73, s_X9_spread_74, s_X9_spread_75, s_X9_spread_76, s_X9_spread_77, s_X9_spread_78, s_X9_spread_79, s_X9_spread_80, s_X9_spread_81, s_X9_spread_84, s_X9_spread_87, s_X9_spread_90, vca g31]
      have hog : ∀ j, 1 ≤ j → j ≤ x → o2 j = gnF (fll (p ++ [left])) v x k zrB j := fun j h1 h2 => by
        rw [ho2' j (by omega), inF_gn ⟨h1, h2⟩, gnF_cgw hl']
      have hob : ∀ j, j < 7 → o2 j < 2 ^ 31 := fun j hj => by rw [ho2' j hj]; exact FFb (by omega) hk6
      have htop := topF_mem o2 hm.1
      refine sp_X1_judge g31 hT2 ht hm hob (hi1'.fr hf2 rfl) hr8' hl' hsum (H := fun l => gpF (fll l) v x k zrB) (l := p ++ [left]) ?_ ((e36.fr hf1 rfl).fr hf2 rfl) ((e37.fr hf1 rfl).fr hf2 rfl) hB fun c3 rw3 gp3 hf3 i36 i37 hB3 q1 q2 => ?_
      · show _ = gpF (fll (p ++ [left])) v x k zrB
        unfold gpF
        rw [hog _ htop.1 htop.2, topF_cg (fun j h1 h2 => hog j h1 h2), ← hsum, smF_cg x 1 (f := updN rf x left) (fun j h1 h2 => hl' j h1 (by omega)), smF_cg x 1 (f := fun x_1 => updN rf x left x_1 * o2 x_1) (g := fun x_1 => fll (p ++ [left]) x_1 * gnF (fll (p ++ [left])) v x k zrB x_1) (fun j h1 h2 => by rw [hl' j h1 (by omega), hog j h1 (by omega)])]
      · simp only [Option.toList_some, Option.toList_none, List.cons_append, List.nil_append, Option.toList, s_X9_spread_0, s_X9_spread_1, s_X9_spread_2, s_X9_spread_5, s_X9_spread_6, s_X9_spread_8, s_X9_spread_11, s_X9_spread_12, s_X9_spread_15, s_X9_spread_16, s_X9_spread_19, s_X9_spread_20, s_X9_spread_21, s_X9_spread_22, s_X9_spread_25, s_X9_spread_26, s_X9_spread_27, s_X9_spread_28, s_X9_spread_31, s_X9_spread_34, s_X9_spread_37, s_X9_spread_38, s_X9_spread_41, s_X9_spread_42, s_X9_spread_43, s_X9_spread_44, s_X9_spread_45, s_X9_spread_48, s_X9_spread_49, s_X9_spread_52, s_X9_spread_55, s_X9_spread_56, s_X9_spread_59, s_X9_spread_60, s_X9_spread_61, s_X9_spread_63, s_X9_spread_64, s_X9_spread_67, s_X9_spread_68, s_X9_spread_71, s_X9_spread_72, s_X9_spread_73, s_X9_spread_74, s_X9_spread_75, s_X9_spread_76, s_X9_spread_77, s_X9_spread_78, s_X9_spread_79, s_X9_spread_80, s_X9_spread_81, s_X9_spread_84, s_X9_spread_87, s_X9_spread_90]
        refine hk c3 ((hf1.mono rfl).trans ((hf2.mono rfl).trans (hf3.mono rfl))) ?_
        have hA : amL (fun l => gpF (fll l) v x k zrB) best ((cmp (0 + 1) left).map (p ++ ·)) = amO (fun l => gpF (fll l) v x k zrB) best (p ++ [left]) := by
          have hc1 : cmp (0 + 1) left = [[left]] := by
            rw [cmp]
            rw [List.range_succ, List.flatMap_append]
            have : (List.range left).flatMap (fun a => (cmp 0 (left - a)).map (fun l => a :: l)) = [] := by
              rw [List.flatMap_eq_nil_iff]
              intro a ha
              rw [List.mem_range] at ha
              rw [cmp, if_neg (by omega)]; rfl
            rw [this]
            simp [cmp]
          rw [hc1]
          rfl
        rw [hA]
        refine ⟨updN rf x left, rw3, gp3, (hf3 31 rfl).trans g31, (hf3 32 rfl).trans hT2.1, hT2.2.1.fr hf3 rfl, hT2.2.2.ty.fr hf3 rfl, (hi1'.fr hf2 rfl).fr hf3 rfl, hr8', fun j h1 h2 => ?_, i36, i37, hB3, fun u hu => (q1 u hu).trans (ho1 u hu), fun u j hu hj => (q2 u j hu hj).trans (ho2 u j hu hj)⟩
        unfold updN
        rw [if_neg (by omega)]
        exact hrp j h1 h2
    simp only [s_X9_spread_0, s_X9_spread_1, s_X9_spread_2, s_X9_spread_5, s_X9_spread_6, s_X9_spread_8, s_X9_spread_11, s_X9_spread_12, s_X9_spread_15, s_X9_spread_16, s_X9_spread_19, s_X9_spread_20, s_X9_spread_21, s_X9_spread_22, s_X9_spread_25, s_X9_spread_27, s_X9_spread_28, s_X9_spread_31, s_X9_spread_34, s_X9_spread_37, s_X9_spread_38, s_X9_spread_41, s_X9_spread_42, s_X9_spread_43, s_X9_spread_44, s_X9_spread_45, s_X9_spread_48, s_X9_spread_49, s_X9_spread_52, s_X9_spread_55, s_X9_spread_56, s_X9_spread_59, s_X9_spread_60, s_X9_spread_61, s_X9_spread_62, s_X9_spread_63, s_X9_spread_64, s_X9_spread_67, s_X9_spread_68, s_X9_spread_71, s_X9_spread_72, s_X9_spread_73, s_X9_spread_74, s_X9_spread_75, s_X9_spread_76, s_X9_spread_77, s_X9_spread_78, s_X9_spread_79, s_X9_spread_80, s_X9_spread_81, s_X9_spread_84, s_X9_spread_87, s_X9_spread_90, gc3 e31, gc5 e31, al_i e37 (show 37 < 70 by decide) (show t < 9 by omega) (by decide), sI_lt (show x < 100000 by omega) (show 1 < 100000 by decide), sI_lt (show 6 < 100000 by decide) (show x < 100000 by omega)]
    refine ⟨fun q => absurd q (by omega), fun _ => ⟨fun q => absurd q (by omega), fun _ => ⟨fun q => ?_, fun _ => go⟩⟩⟩
    cases hb : best with
    | none =>
      rw [hb] at hB
      have hB : gp t = - lN 1 := hB
      rw [hB] at q
      exact absurd q (by decide)
    | some b =>
      rw [hb] at hB
      obtain ⟨hB1, hB2, hB3⟩ := hB
      rw [hB1, lcmp0 hB2] at q
      exact stop b hb q
  | succ r ih =>
    intro d x left p best c R hx h1 hp hs hS hk
    have hS0 := hS
    obtain ⟨rf, rw, gp, e31, e32, e33, e34, e38, hr8, hrp, e36, e37, hB, ho1, ho2⟩ := hS
    rw [show d + 12 + (r + 1) = (d + 12 + r) + 1 by omega, en_X9_spread]
    have stop : ∀ b, best = some b → gpF (fll b) v m k zrB = 0 → R none (tab c) := by
      intro b hb h0
      have := hk c frm.rf
      rw [hb, amL_zero h0, ← hb] at this
      exact this hS0
    have lp : ∀ rem a c1, a + rem = left + 1 → frm [32, 33, 34, 36, 37, 38] c c1 → SPR c1 t v m k x (fun l => gpF (fll l) v m k zrB) p (amL (fun l => gpF (fll l) v m k zrB) best (((List.range a).flatMap (fun a => (cmp (r + 1) (left - a)).map (fun l => a :: l))).map (p ++ ·))) rw0 gp0 → rU (rRo LL xs) (d + 12 + r) tb_X9_spread R 62 [.ref 31, .int (nI x), .int (nI left), .int (nI a)] [] (tab c1) := by
      intro rem
      induction rem with
      | zero =>
        intro a c1 ha hf1 hS1
        have : a = left + 1 := by omega
        subst this
        rw [s_X9_spread_62]
        simp only [s_X9_spread_0, s_X9_spread_1, s_X9_spread_2, s_X9_spread_5, s_X9_spread_6, s_X9_spread_8, s_X9_spread_11, s_X9_spread_12, s_X9_spread_15, s_X9_spread_16, s_X9_spread_19, s_X9_spread_20, s_X9_spread_21, s_X9_spread_22, s_X9_spread_25, s_X9_spread_26, s_X9_spread_27, s_X9_spread_28, s_X9_spread_31, s_X9_spread_34, s_X9_spread_37, s_X9_spread_38, s_X9_spread_41, s_X9_spread_42, s_X9_spread_43, s_X9_spread_44, s_X9_spread_45, s_X9_spread_48, s_X9_spread_49, s_X9_spread_52, s_X9_spread_55, s_X9_spread_56, s_X9_spread_59, s_X9_spread_60, s_X9_spread_61, s_X9_spread_63, s_X9_spread_64, s_X9_spread_67, s_X9_spread_68, s_X9_spread_71, s_X9_spread_72, s_X9_spread_73, s_X9_spread_74, s_X9_spread_75, s_X9_spread_76, s_X9_spread_77, s_X9_spread_78, s_X9_spread_79, s_X9_spread_80, s_X9_spread_81, s_X9_spread_84, s_X9_spread_87, s_X9_spread_90]
        exact ⟨fun _ => hk c1 hf1 hS1, fun hc => absurd ((sI_lt (by omega) (by omega)).mpr (Nat.lt_succ_self _)) hc⟩
      | succ rem ihr =>
        intro a c1 ha hf1 hS1
        obtain ⟨rf, rw, gp, e31, e32, e33, e34, e38, hr8, hrp, e36, e37, hB, ho1, ho2⟩ := hS1
        rw [s_X9_spread_62]
        simp only [s_X9_spread_0, s_X9_spread_1, s_X9_spread_2, s_X9_spread_5, s_X9_spread_6, s_X9_spread_8, s_X9_spread_11, s_X9_spread_12, s_X9_spread_15, s_X9_spread_16, s_X9_spread_19, s_X9_spread_20, s_X9_spread_21, s_X9_spread_22, s_X9_spread_25, s_X9_spread_26, s_X9_spread_27, s_X9_spread_28, s_X9_spread_31, s_X9_spread_34, s_X9_spread_37, s_X9_spread_38, s_X9_spread_41, s_X9_spread_42, s_X9_spread_43, s_X9_spread_44, s_X9_spread_45, s_X9_spread_48, s_X9_spread_49, s_X9_spread_52, s_X9_spread_55, s_X9_spread_56, s_X9_spread_59, s_X9_spread_60, s_X9_spread_61, s_X9_spread_63, s_X9_spread_64, s_X9_spread_67, s_X9_spread_68, s_X9_spread_71, s_X9_spread_72, s_X9_spread_73, s_X9_spread_74, s_X9_spread_75, s_X9_spread_76, s_X9_spread_77, s_X9_spread_78, s_X9_spread_79, s_X9_spread_80, s_X9_spread_81, s_X9_spread_84, s_X9_spread_87, s_X9_spread_90, gc4 e31, sI_lt (show left < 100000 by omega) (show a < 100000 by omega)]
        refine ⟨fun q => absurd q (by omega), fun _ => si_i e38 (by decide) (by omega) (by decide) fun c2 hf2 hi2 => ?_⟩
        have hi2' : isI c2 38 7 (fun j => nI (updN rf x a j)) := hi2.cg (fun j _ => (congrFun updN_nI j).symm)
        simp only [s_X9_spread_0, s_X9_spread_1, s_X9_spread_2, s_X9_spread_5, s_X9_spread_6, s_X9_spread_8, s_X9_spread_11, s_X9_spread_12, s_X9_spread_15, s_X9_spread_16, s_X9_spread_19, s_X9_spread_20, s_X9_spread_21, s_X9_spread_22, s_X9_spread_25, s_X9_spread_26, s_X9_spread_27, s_X9_spread_28, s_X9_spread_31, s_X9_spread_34, s_X9_spread_37, s_X9_spread_38, s_X9_spread_41, s_X9_spread_42, s_X9_spread_43, s_X9_spread_44, s_X9_spread_45, s_X9_spread_48, s_X9_spread_49, s_X9_spread_52, s_X9_spread_55, s_X9_spread_56, s_X9_spread_59, s_X9_spread_60, s_X9_spread_61, s_X9_spread_63, s_X9_spread_64, s_X9_spread_67, s_X9_spread_68, s_X9_spread_71, s_X9_spread_72, s_X9_spread_73, s_X9_spread_74, s_X9_spread_75, s_X9_spread_76, s_X9_spread_77, s_X9_spread_78, s_X9_spread_79, s_X9_spread_80, s_X9_spread_81, s_X9_spread_84, s_X9_spread_87, s_X9_spread_90, nI_add, sI_sub (show a ≤ left by omega)]
        refine ih d (x + 1) (left - a) (p ++ [a]) _ c2 _ (by omega) (by omega) (by rw [List.length_append, ← hp]; rfl) ?_ ⟨updN rf x a, rw, gp, (hf2 31 rfl).trans e31, (hf2 32 rfl).trans e32, e33.fr hf2 rfl, e34.fr hf2 rfl, hi2', fun j => ?_, fun j h1 h2 => ?_, e36.fr hf2 rfl, e37.fr hf2 rfl, hB, ho1, ho2⟩ fun c3 hf3 hS3 => ?_
        · rw [show x + 1 - 1 = x by omega, smF_snoc (by omega), fll_last hp, smF_cg (x - 1) 1 (g := fll p) (fun j h1 h2 => fll_app (by omega))]
          omega
        · unfold updN; split; omega; exact hr8 j
        · unfold updN
          by_cases e : j = x
          · rw [if_pos e, e, fll_last hp]
          · rw [if_neg e, hrp j h1 (by omega), fll_app (by omega)]
        · simp only [Option.toList_some, Option.toList_none, List.cons_append, List.nil_append, Option.toList, s_X9_spread_0, s_X9_spread_1, s_X9_spread_2, s_X9_spread_5, s_X9_spread_6, s_X9_spread_8, s_X9_spread_11, s_X9_spread_12, s_X9_spread_15, s_X9_spread_16, s_X9_spread_19, s_X9_spread_20, s_X9_spread_21, s_X9_spread_22, s_X9_spread_25, s_X9_spread_26, s_X9_spread_27, s_X9_spread_28, s_X9_spread_31, s_X9_spread_34, s_X9_spread_37, s_X9_spread_38, s_X9_spread_41, s_X9_spread_42, s_X9_spread_43, s_X9_spread_44, s_X9_spread_45, s_X9_spread_48, s_X9_spread_49, s_X9_spread_52, s_X9_spread_55, s_X9_spread_56, s_X9_spread_59, s_X9_spread_60, s_X9_spread_61, s_X9_spread_63, s_X9_spread_64, s_X9_spread_67, s_X9_spread_68, s_X9_spread_71, s_X9_spread_72, s_X9_spread_73, s_X9_spread_74, s_X9_spread_75, s_X9_spread_76, s_X9_spread_77, s_X9_spread_78, s_X9_spread_79, s_X9_spread_80, s_X9_spread_81, s_X9_spread_84, s_X9_spread_87, s_X9_spread_90, nI_add]
          refine ⟨rfl, ihr (a + 1) c3 (by omega) (hf1.trans ((hf2.mono rfl).trans hf3)) ?_⟩
          have hL : ((List.range (a + 1)).flatMap (fun a => (cmp (r + 1) (left - a)).map (fun l => a :: l))).map (p ++ ·) = ((List.range a).flatMap (fun a => (cmp (r + 1) (left - a)).map (fun l => a :: l))).map (p ++ ·) ++ (cmp (r + 1) (left - a)).map ((p ++ [a]) ++ ·) := by
            rw [List.range_succ, List.flatMap_append, List.map_append]
            congr 1
            simp [List.flatMap_cons, List.map_map, Function.comp_def]
          unfold amL at hS3 ⊢
          rw [hL, List.foldl_append]
          obtain ⟨rf3, rw3, gp3, a1, a2, a3, a4, a5, a6, a7, a8⟩ := hS3
          exact ⟨rf3, rw3, gp3, a1, a2, a3, a4, a5, a6, fun j h1 h2 => by rw [a7 j h1 (by omega), fll_app (by omega)], a8⟩
    simp only [s_X9_spread_0, s_X9_spread_1, s_X9_spread_2, s_X9_spread_5, s_X9_spread_6, s_X9_spread_8, s_X9_spread_11, s_X9_spread_12, s_X9_spread_15, s_X9_spread_16, s_X9_spread_19, s_X9_spread_20, s_X9_spread_21, s_X9_spread_22, s_X9_spread_25, s_X9_spread_26, s_X9_spread_27, s_X9_spread_28, s_X9_spread_31, s_X9_spread_34, s_X9_spread_37, s_X9_spread_38, s_X9_spread_41, s_X9_spread_42, s_X9_spread_43, s_X9_spread_44, s_X9_spread_45, s_X9_spread_48, s_X9_spread_49, s_X9_spread_52, s_X9_spread_55, s_X9_spread_56, s_X9_spread_59, s_X9_spread_60, s_X9_spread_61, s_X9_spread_63, s_X9_spread_64, s_X9_spread_67, s_X9_spread_68, s_X9_spread_71, s_X9_spread_72, s_X9_spread_73, s_X9_spread_74, s_X9_spread_75, s_X9_spread_76, s_X9_spread_77, s_X9_spread_78, s_X9_spread_79, s_X9_spread_80, s_X9_spread_81, s_X9_spread_84, s_X9_spread_87, s_X9_spread_90, gc0 e31, gc3 e31, gc5 e31, gg3 (cs := [4]) e32 (show 32 < 70 by decide) rfl, gg3 (cs := [4, 7]) e32 (show 32 < 70 by decide) rfl, al_i e37 (show 37 < 70 by decide) (show t < 9 by omega) (by decide), sI_lt (show x < 100000 by omega) (show 1 < 100000 by decide), sI_lt (show 6 < 100000 by decide) (show x < 100000 by omega), sI_lt (show x < 100000 by omega) (show m < 100000 by omega)]
    refine ⟨fun q => absurd q (by omega), fun _ => ⟨fun q => absurd q (by omega), fun _ => ⟨fun q => ?_, fun _ => ⟨fun _ => ⟨rfl, lp (left + 1) 0 c (by omega) frm.rf hS0⟩, fun q => absurd (by omega) q⟩⟩⟩⟩
    cases hb : best with
    | none =>
      rw [hb] at hB
      have hB : gp t = - lN 1 := hB
      rw [hB] at q
      exact absurd q (by decide)
    | some b =>
      rw [hb] at hB
      obtain ⟨hB1, hB2, hB3⟩ := hB
      rw [hB1, lcmp0 hB2] at q
      exact stop b hb q
end CC
