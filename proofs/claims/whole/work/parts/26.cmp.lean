/-! ===== rows of counts: all of a sum, in the order in which they come ===== -/
def cmp : Nat → Nat → List (List Nat)
  | 0, k => if k = 0 then [[]] else []
  | m + 1, k => (List.range (k + 1)).flatMap (fun a => (cmp m (k - a)).map (fun l => a :: l))
def fll (l : List Nat) : Nat → Nat
  | 0 => 0
  | j + 1 => l.getD j 0
def chn (m : Nat) : List (List Nat) → Bool
  | [] => false
  | [a] => lastN (fll a) (m - 1) == 0
  | a :: b :: t => lastN (fll a) (m - 1) != 0 && (List.range m).map (fun j => nxF m (fll a) (j + 1)) == b && chn m (b :: t)
def okL (m k : Nat) (l : List Nat) : Bool := l.length == m && smF (fll l) m 1 == k
theorem cmp_chain : ∀ m, m < 7 → 2 ≤ m → ∀ k, k < 7 → chn m (cmp m k).reverse = true ∧ (cmp m k).reverse.head? = some (k :: List.replicate (m - 1) 0) ∧ (cmp m k).reverse.all (okL m k) = true := by decide +kernel
theorem fll_ge {l : List Nat} {j : Nat} (h : l.length < j) : fll l j = 0 := by
  cases j with
  | zero => rfl
  | succ j =>
    show l.getD j 0 = 0
    rw [List.getD_eq_getElem?_getD, List.getElem?_eq_none (by omega)]
    rfl
theorem nxF_list {m : Nat} {a b : List Nat} (hm : 2 ≤ m) (ha : a.length = m) (hb : b.length = m) (h0 : lastN (fll a) (m - 1) ≠ 0) (h : (List.range m).map (fun j => nxF m (fll a) (j + 1)) = b) : ∀ j, nxF m (fll a) j = fll b j := by
  have hx := lastN_le (fll a) (m - 1)
  have hout : ∀ j, (j = 0 ∨ m < j) → nxF m (fll a) j = fll a j := by
    intro j hj
    unfold nxF updN
    rw [if_neg (by omega), if_neg (by omega), if_neg (by omega)]
  intro j
  by_cases hj : j = 0 ∨ m < j
  · rw [hout j hj]
    rcases hj with rfl | hj
    · rfl
    · rw [fll_ge (by omega), fll_ge (by omega)]
  · obtain ⟨i, rfl⟩ : ∃ i, j = i + 1 := ⟨j - 1, by omega⟩
    show _ = b.getD i 0
    rw [← h, List.getD_eq_getElem?_getD, List.getElem?_map, List.getElem?_range (by omega)]
    rfl
theorem smF_cg {f g : Nat → Nat} : ∀ r x, (∀ j, x ≤ j → j < x + r → f j = g j) → smF f r x = smF g r x
  | 0, _, _ => rfl
  | r + 1, x, h => by
    rw [smF, smF, h x (Nat.le_refl _) (by omega), smF_cg r (x + 1) (fun j h1 h2 => h j (by omega) (by omega))]
theorem smF_le {f : Nat → Nat} : ∀ r x j, x ≤ j → j < x + r → f j ≤ smF f r x
  | 0, x, j, h1, h2 => by omega
  | r + 1, x, j, h1, h2 => by
    rw [smF]
    by_cases hj : j = x
    · rw [hj]; omega
    · have := smF_le (f := f) r (x + 1) j (by omega) (by omega)
      omega
theorem fll_lt {m k : Nat} {l : List Nat} (h : okL m k l = true) (hk : k ≤ 6) : ∀ j, fll l j ≤ 6 := by
  simp only [okL, Bool.and_eq_true, beq_iff_eq] at h
  intro j
  by_cases hj : j = 0 ∨ m < j
  · rcases hj with rfl | hj
    · exact Nat.zero_le _
    · rw [fll_ge (by omega)]; exact Nat.zero_le _
  · have := smF_le (f := fll l) m 1 j (by omega) (by omega)
    omega
theorem cntF_cg {t : Int32} {f g : Nat → Int32} : ∀ r x, (∀ j, x ≤ j → j < x + r → f j = g j) → cntF t f r x = cntF t g r x
  | 0, _, _ => rfl
  | r + 1, x, h => by
    rw [cntF, cntF, h x (Nat.le_refl _) (by omega), cntF_cg r (x + 1) (fun j h1 h2 => h j (by omega) (by omega))]
theorem nthF_cg {t : Int32} {f g : Nat → Int32} : ∀ r x k, (∀ j, x ≤ j → j < x + r → f j = g j) → nthF t f r x k = nthF t g r x k
  | 0, _, _, _ => rfl
  | r + 1, x, k, h => by
    rw [nthF, nthF, h x (Nat.le_refl _) (by omega), nthF_cg r (x + 1) k (fun j h1 h2 => h j (by omega) (by omega)), nthF_cg r (x + 1) (k - 1) (fun j h1 h2 => h j (by omega) (by omega))]
theorem winF_cg {v m : Nat} {f g : Nat → Int32} (h : ∀ j, 1 ≤ j → j ≤ m → f j = g j) : winF v m f = winF v m g := by
  unfold winF
  rw [cntF_cg m 1 (fun j h1 h2 => h j h1 (by omega)), nthF_cg m 1 _ (fun j h1 h2 => h j h1 (by omega))]
theorem nthF_le {t : Int32} {f : Nat → Int32} : ∀ r x k, nthF t f r x k = 0 ∨ (x ≤ nthF t f r x k ∧ nthF t f r x k < x + r)
  | 0, _, _ => Or.inl rfl
  | r + 1, x, k => by
    rw [nthF]
    have h1 := nthF_le (t := t) (f := f) r (x + 1) k
    have h2 := nthF_le (t := t) (f := f) r (x + 1) (k - 1)
    split
    · split
      · exact Or.inr ⟨Nat.le_refl _, by omega⟩
      · omega
    · omega
theorem winF_le {v m : Nat} {f : Nat → Int32} : winF v m f ≤ m := by
  unfold winF
  split
  · exact Nat.zero_le _
  · have := nthF_le (t := nI (tmF v)) (f := f) m 1 (idF v (cntF (nI (tmF v)) f m 1))
    omega
/-- the answer of the model's winner, against a number -/
def wrM (x : Nat) : Int32 := if x = 0 then - nI 6 else nI x
theorem wrM_eq {a x : Nat} (ha : a ≤ 6) (hx : 1 ≤ x ∧ x ≤ 6) : wrM a = nI x ↔ a = x := by
  have key : ∀ a, a < 7 → ∀ x, x < 7 → 1 ≤ x → (wrM a = nI x ↔ a = x) := by decide +kernel
  exact key a (by omega) x (by omega) hx.1
theorem wrM_neg {a : Nat} (ha : a ≤ 6) : wrM a < 0 ↔ a = 0 := by
  have key : ∀ a, a < 7 → (wrM a < 0 ↔ a = 0) := by decide +kernel
  exact key a (by omega)
theorem wrM_pos {a : Nat} (ha : a ≤ 6) : 0 < wrM a ↔ a ≠ 0 := by
  have key : ∀ a, a < 7 → (0 < wrM a ↔ a ≠ 0) := by decide +kernel
  exact key a (by omega)
def scF (v : Nat) : Nat := if v = 3 then 1 else 2
def ctF (b : Nat → Int32) (l : List Nat) : Nat → Int32 := fun j => b j + nI (fll l j)
section MC
variable {ro : rQ} {d : Nat} {R : rR} {c : Nat → rE} {men num law si sg fr : Int32} {ru lu : Int64} {n m v r k x : Nat} {w fl : Nat → Nat} {b f : Nat → Int32}
theorem sp_X10_winner' (h53 : c 53 = mobj men (nI m) (nI v) si sg fr ru lu) (hr : isI c r 7 f) (hr7 : r < 70) (hm : m ≤ 6) (hv : v ≤ 3) (hk : R (some (.int (wrM (winF v m f)))) (tab c)) :
    rM ro (d + 1) 110 0 0 [.ref 53, .ref r] (tab c) R := by
  obtain ⟨g, h1, h2⟩ := hr
  refine sp_X10_winner h53 h1 hr7 hm hv ?_
  rw [winF_cg (g := f) (fun j _ hj => h2 j (by omega))]
  exact hk
theorem sp_X10_waysToWin (h53 : c 53 = mobj men (nI m) (nI v) si sg (nI k) ru lu) (hm : 2 ≤ m ∧ m ≤ 6) (hv : v ≤ 3) (hk6 : k ≤ 6) (hx : 1 ≤ x ∧ x ≤ 6) (h58 : tyI c 58 7) (h60 : tyI c 60 7) (h59 : isI c 59 7 b) (h61 : isI c 61 7 (fun j => nI (w j))) (hw : ∀ j, j < 7 → w j < 1000)
    (hk : ∀ c', frm [58, 60] c c' → tyI c' 58 7 → tyI c' 60 7 → R (some (.long (lN (((cmp m k).reverse.map (fun l => if winF v m (ctF b l) = x then scF v * wyF w (fll l) m 1 k else 0)).sum)))) (tab c')) : rM ro (d + 3) 123 0 0 [.ref 53, .int (nI x)] (tab c) R := by
  rw [en_X10_waysToWin]
  simp only [s_X10_waysToWin_0, s_X10_waysToWin_1, s_X10_waysToWin_2, s_X10_waysToWin_3, s_X10_waysToWin_6, s_X10_waysToWin_7, s_X10_waysToWin_11, s_X10_waysToWin_14, s_X10_waysToWin_15, s_X10_waysToWin_18, s_X10_waysToWin_19, s_X10_waysToWin_20, s_X10_waysToWin_23, s_X10_waysToWin_26, s_X10_waysToWin_27, s_X10_waysToWin_30, s_X10_waysToWin_31, s_X10_waysToWin_32, s_X10_waysToWin_35, s_X10_waysToWin_36, s_X10_waysToWin_39, s_X10_waysToWin_40, s_X10_waysToWin_43, s_X10_waysToWin_46, s_X10_waysToWin_47, s_X10_waysToWin_50, s_X10_waysToWin_51, s_X10_waysToWin_52, s_X10_waysToWin_53, s_X10_waysToWin_54, s_X10_waysToWin_57, s_X10_waysToWin_59, s_X10_waysToWin_62, s_X10_waysToWin_63, vm_o h53]
  refine ⟨rfl, sp_X10_beginFill h53 h60 fun c1 hf1 hi1 => ?_⟩
  obtain ⟨hch, hhd, hall⟩ := cmp_chain m (by omega) hm.1 k (by omega)
  simp only [Option.toList_some, Option.toList_none, List.cons_append, List.nil_append, Option.toList, s_X10_waysToWin_0, s_X10_waysToWin_1, s_X10_waysToWin_2, s_X10_waysToWin_3, s_X10_waysToWin_6, s_X10_waysToWin_7, s_X10_waysToWin_11, s_X10_waysToWin_14, s_X10_waysToWin_15, s_X10_waysToWin_18, s_X10_waysToWin_19, s_X10_waysToWin_20, s_X10_waysToWin_23, s_X10_waysToWin_26, s_X10_waysToWin_27, s_X10_waysToWin_30, s_X10_waysToWin_31, s_X10_waysToWin_32, s_X10_waysToWin_35, s_X10_waysToWin_36, s_X10_waysToWin_39, s_X10_waysToWin_40, s_X10_waysToWin_43, s_X10_waysToWin_46, s_X10_waysToWin_47, s_X10_waysToWin_50, s_X10_waysToWin_51, s_X10_waysToWin_52, s_X10_waysToWin_53, s_X10_waysToWin_54, s_X10_waysToWin_57, s_X10_waysToWin_59, s_X10_waysToWin_62, s_X10_waysToWin_63]
  refine ⟨rfl, ?_⟩
  have lp : ∀ (t : List (List Nat)) (a : List Nat) (s : Nat) (c2 : Nat → rE), chn m (a :: t) = true → (a :: t).all (okL m k) = true → frm [58, 60] c c2 → tyI c2 58 7 → isI c2 60 7 (fun j => nI (fll a j)) →
      s + ((a :: t).map (fun l => if winF v m (ctF b l) = x then scF v * wyF w (fll l) m 1 k else 0)).sum = ((cmp m k).reverse.map (fun l => if winF v m (ctF b l) = x then scF v * wyF w (fll l) m 1 k else 0)).sum →
      rU ro (d + 2) tb_X10_waysToWin R 9 [.ref 53, .int (nI x), .long (lN s), .null, .int (nI 1)] [] (tab c2) := by
    intro t
    induction t with
    | nil =>
      intro a s c2 hc hal hf2 h58 h60 hs
      have hok := List.all_eq_true.mp hal a List.mem_cons_self
      have hfl := fll_lt hok hk6
      simp only [okL, Bool.and_eq_true, beq_iff_eq] at hok
      have e53 := (hf2 53 rfl).trans h53
      rw [s_X10_waysToWin_9]
      simp only [s_X10_waysToWin_0, s_X10_waysToWin_1, s_X10_waysToWin_2, s_X10_waysToWin_3, s_X10_waysToWin_6, s_X10_waysToWin_7, s_X10_waysToWin_11, s_X10_waysToWin_14, s_X10_waysToWin_15, s_X10_waysToWin_18, s_X10_waysToWin_19, s_X10_waysToWin_20, s_X10_waysToWin_23, s_X10_waysToWin_26, s_X10_waysToWin_27, s_X10_waysToWin_30, s_X10_waysToWin_31, s_X10_waysToWin_32, s_X10_waysToWin_35, s_X10_waysToWin_36, s_X10_waysToWin_39, s_X10_waysToWin_40, s_X10_waysToWin_43, s_X10_waysToWin_46, s_X10_waysToWin_47, s_X10_waysToWin_50, s_X10_waysToWin_51, s_X10_waysToWin_52, s_X10_waysToWin_53, s_X10_waysToWin_54, s_X10_waysToWin_57, s_X10_waysToWin_59, s_X10_waysToWin_62, s_X10_waysToWin_63, vm_o e53]
      refine ⟨fun q => absurd q (by decide), fun _ => sp_X10_both e53 h58 (h59.fr hf2 rfl) h60 fun c3 hf3 hi3 => ?_⟩
      have hf3' := hf2.trans (hf3.mono rfl)
      have e53 := (hf3' 53 rfl).trans h53
      simp only [Option.toList_some, Option.toList_none, List.cons_append, List.nil_append, Option.toList, s_X10_waysToWin_0, s_X10_waysToWin_1, s_X10_waysToWin_2, s_X10_waysToWin_3, s_X10_waysToWin_6, s_X10_waysToWin_7, s_X10_waysToWin_11, s_X10_waysToWin_14, s_X10_waysToWin_15, s_X10_waysToWin_18, s_X10_waysToWin_19, s_X10_waysToWin_20, s_X10_waysToWin_23, s_X10_waysToWin_26, s_X10_waysToWin_27, s_X10_waysToWin_30, s_X10_waysToWin_31, s_X10_waysToWin_32, s_X10_waysToWin_35, s_X10_waysToWin_36, s_X10_waysToWin_39, s_X10_waysToWin_40, s_X10_waysToWin_43, s_X10_waysToWin_46, s_X10_waysToWin_47, s_X10_waysToWin_50, s_X10_waysToWin_51, s_X10_waysToWin_52, s_X10_waysToWin_53, s_X10_waysToWin_54, s_X10_waysToWin_57, s_X10_waysToWin_59, s_X10_waysToWin_62, s_X10_waysToWin_63, gm9 e53, vm_o e53]
      refine sp_X10_winner' e53 hi3 (by decide) hm.2 hv ?_
      have hstep : ∀ s2 : Nat, s2 = ((cmp m k).reverse.map (fun l => if winF v m (ctF b l) = x then scF v * wyF w (fll l) m 1 k else 0)).sum → rU ro (d + 2) tb_X10_waysToWin R 53 [.ref 53, .int (nI x), .long (lN s2), .null, .int (nI 1)] [] (tab c3) := by
        intro s2 hs2
        simp only [s_X10_waysToWin_0, s_X10_waysToWin_1, s_X10_waysToWin_2, s_X10_waysToWin_3, s_X10_waysToWin_6, s_X10_waysToWin_7, s_X10_waysToWin_11, s_X10_waysToWin_14, s_X10_waysToWin_15, s_X10_waysToWin_18, s_X10_waysToWin_19, s_X10_waysToWin_20, s_X10_waysToWin_23, s_X10_waysToWin_26, s_X10_waysToWin_27, s_X10_waysToWin_30, s_X10_waysToWin_31, s_X10_waysToWin_32, s_X10_waysToWin_35, s_X10_waysToWin_36, s_X10_waysToWin_39, s_X10_waysToWin_40, s_X10_waysToWin_43, s_X10_waysToWin_46, s_X10_waysToWin_47, s_X10_waysToWin_50, s_X10_waysToWin_51, s_X10_waysToWin_52, s_X10_waysToWin_53, s_X10_waysToWin_54, s_X10_waysToWin_57, s_X10_waysToWin_59, s_X10_waysToWin_62, s_X10_waysToWin_63, vm_o e53]
        refine sp_X10_nextFill e53 hm (h60.fr hf3 rfl) (fun j _ => by have := hfl j; omega) (fun h0 => ?_) (fun h0 => ?_)
        · simp only [Option.toList_some, Option.toList_none, List.cons_append, List.nil_append, Option.toList, s_X10_waysToWin_0, s_X10_waysToWin_1, s_X10_waysToWin_2, s_X10_waysToWin_3, s_X10_waysToWin_6, s_X10_waysToWin_7, s_X10_waysToWin_11, s_X10_waysToWin_14, s_X10_waysToWin_15, s_X10_waysToWin_18, s_X10_waysToWin_19, s_X10_waysToWin_20, s_X10_waysToWin_23, s_X10_waysToWin_26, s_X10_waysToWin_27, s_X10_waysToWin_30, s_X10_waysToWin_31, s_X10_waysToWin_32, s_X10_waysToWin_35, s_X10_waysToWin_36, s_X10_waysToWin_39, s_X10_waysToWin_40, s_X10_waysToWin_43, s_X10_waysToWin_46, s_X10_waysToWin_47, s_X10_waysToWin_50, s_X10_waysToWin_51, s_X10_waysToWin_52, s_X10_waysToWin_53, s_X10_waysToWin_54, s_X10_waysToWin_57, s_X10_waysToWin_59, s_X10_waysToWin_62, s_X10_waysToWin_63]
          refine ⟨rfl, ?_⟩
          rw [s_X10_waysToWin_9]
          simp only [s_X10_waysToWin_0, s_X10_waysToWin_1, s_X10_waysToWin_2, s_X10_waysToWin_3, s_X10_waysToWin_6, s_X10_waysToWin_7, s_X10_waysToWin_11, s_X10_waysToWin_14, s_X10_waysToWin_15, s_X10_waysToWin_18, s_X10_waysToWin_19, s_X10_waysToWin_20, s_X10_waysToWin_23, s_X10_waysToWin_26, s_X10_waysToWin_27, s_X10_waysToWin_30, s_X10_waysToWin_31, s_X10_waysToWin_32, s_X10_waysToWin_35, s_X10_waysToWin_36, s_X10_waysToWin_39, s_X10_waysToWin_40, s_X10_waysToWin_43, s_X10_waysToWin_46, s_X10_waysToWin_47, s_X10_waysToWin_50, s_X10_waysToWin_51, s_X10_waysToWin_52, s_X10_waysToWin_53, s_X10_waysToWin_54, s_X10_waysToWin_57, s_X10_waysToWin_59, s_X10_waysToWin_62, s_X10_waysToWin_63]
          refine ⟨fun _ => ?_, fun q => absurd nI_0 q⟩
          rw [hs2]
          exact hk c3 hf3' hi3.ty (h60.fr hf3 rfl).ty
        · exact absurd (by simpa [chn] using hc) h0
      simp only [Option.toList_some, Option.toList_none, List.cons_append, List.nil_append, Option.toList, s_X10_waysToWin_0, s_X10_waysToWin_1, s_X10_waysToWin_2, s_X10_waysToWin_3, s_X10_waysToWin_6, s_X10_waysToWin_7, s_X10_waysToWin_11, s_X10_waysToWin_14, s_X10_waysToWin_15, s_X10_waysToWin_18, s_X10_waysToWin_19, s_X10_waysToWin_20, s_X10_waysToWin_23, s_X10_waysToWin_26, s_X10_waysToWin_27, s_X10_waysToWin_30, s_X10_waysToWin_31, s_X10_waysToWin_32, s_X10_waysToWin_35, s_X10_waysToWin_36, s_X10_waysToWin_39, s_X10_waysToWin_40, s_X10_waysToWin_43, s_X10_waysToWin_46, s_X10_waysToWin_47, s_X10_waysToWin_50, s_X10_waysToWin_51, s_X10_waysToWin_52, s_X10_waysToWin_54, s_X10_waysToWin_57, s_X10_waysToWin_59, s_X10_waysToWin_62, s_X10_waysToWin_63, gm2 e53, vm_o e53]
      have hsum : s + (if winF v m (ctF b a) = x then scF v * wyF w (fll a) m 1 k else 0) = ((cmp m k).reverse.map (fun l => if winF v m (ctF b l) = x then scF v * wyF w (fll l) m 1 k else 0)).sum := by
        rw [← hs]; simp
      have hwq : winF v m (fun j => b j + nI (fll a j)) = winF v m (ctF b a) := rfl
      refine ⟨fun q => ?_, fun q => ?_⟩
      · have q := (wrM_eq (Nat.le_trans winF_le hm.2) hx).mp q
        rw [hwq] at q
        rw [if_pos q] at hsum
        refine ⟨fun h3 => ?_, fun h3 => ?_⟩
        · have h3 : v = 3 := (sI_eq (by omega) (by decide)).mp h3
          refine sp_X10_waysOfFill e53 hm.2 hk6 (h60.fr hf3 rfl) (h61.fr hf3' rfl) hw hok.2 ?_
          simp only [Option.toList_some, Option.toList_none, List.cons_append, List.nil_append, Option.toList, s_X10_waysToWin_0, s_X10_waysToWin_1, s_X10_waysToWin_2, s_X10_waysToWin_3, s_X10_waysToWin_6, s_X10_waysToWin_7, s_X10_waysToWin_11, s_X10_waysToWin_14, s_X10_waysToWin_15, s_X10_waysToWin_18, s_X10_waysToWin_19, s_X10_waysToWin_20, s_X10_waysToWin_23, s_X10_waysToWin_26, s_X10_waysToWin_27, s_X10_waysToWin_30, s_X10_waysToWin_31, s_X10_waysToWin_32, s_X10_waysToWin_35, s_X10_waysToWin_36, s_X10_waysToWin_39, s_X10_waysToWin_40, s_X10_waysToWin_43, s_X10_waysToWin_46, s_X10_waysToWin_47, s_X10_waysToWin_50, s_X10_waysToWin_51, s_X10_waysToWin_52, s_X10_waysToWin_54, s_X10_waysToWin_57, s_X10_waysToWin_59, s_X10_waysToWin_62, s_X10_waysToWin_63, lN_mul, lN_add]
          exact ⟨rfl, hstep _ (by rw [← hsum, scF, if_pos h3])⟩
        · have h3 : v ≠ 3 := fun e => h3 (by rw [e])
          refine sp_X10_waysOfFill e53 hm.2 hk6 (h60.fr hf3 rfl) (h61.fr hf3' rfl) hw hok.2 ?_
          simp only [Option.toList_some, Option.toList_none, List.cons_append, List.nil_append, Option.toList, s_X10_waysToWin_0, s_X10_waysToWin_1, s_X10_waysToWin_2, s_X10_waysToWin_3, s_X10_waysToWin_6, s_X10_waysToWin_7, s_X10_waysToWin_11, s_X10_waysToWin_14, s_X10_waysToWin_15, s_X10_waysToWin_18, s_X10_waysToWin_19, s_X10_waysToWin_20, s_X10_waysToWin_23, s_X10_waysToWin_26, s_X10_waysToWin_27, s_X10_waysToWin_30, s_X10_waysToWin_31, s_X10_waysToWin_32, s_X10_waysToWin_35, s_X10_waysToWin_36, s_X10_waysToWin_39, s_X10_waysToWin_40, s_X10_waysToWin_43, s_X10_waysToWin_46, s_X10_waysToWin_47, s_X10_waysToWin_50, s_X10_waysToWin_51, s_X10_waysToWin_52, s_X10_waysToWin_54, s_X10_waysToWin_57, s_X10_waysToWin_59, s_X10_waysToWin_62, s_X10_waysToWin_63, lN_mul, lN_add]
          exact ⟨rfl, hstep _ (by rw [← hsum, scF, if_neg h3])⟩
      · have q : ¬ winF v m (ctF b a) = x := fun e => q ((wrM_eq (Nat.le_trans winF_le hm.2) hx).mpr e)
        rw [if_neg q] at hsum
        exact hstep _ hsum
    | cons a2 t ih =>
      intro a s c2 hc hal hf2 h58 h60 hs
      have hok := List.all_eq_true.mp hal a List.mem_cons_self
      have hok2 := List.all_eq_true.mp hal a2 (List.mem_cons_of_mem _ List.mem_cons_self)
      have hfl := fll_lt hok hk6
      simp only [okL, Bool.and_eq_true, beq_iff_eq] at hok hok2
      simp only [chn, Bool.and_eq_true, bne_iff_ne, ne_eq, beq_iff_eq] at hc
      obtain ⟨⟨hc0, hc1⟩, hc2⟩ := hc
      have hnx := nxF_list hm.1 hok.1 hok2.1 hc0 hc1
      have e53 := (hf2 53 rfl).trans h53
      rw [s_X10_waysToWin_9]
      simp only [s_X10_waysToWin_0, s_X10_waysToWin_1, s_X10_waysToWin_2, s_X10_waysToWin_3, s_X10_waysToWin_6, s_X10_waysToWin_7, s_X10_waysToWin_11, s_X10_waysToWin_14, s_X10_waysToWin_15, s_X10_waysToWin_18, s_X10_waysToWin_19, s_X10_waysToWin_20, s_X10_waysToWin_23, s_X10_waysToWin_26, s_X10_waysToWin_27, s_X10_waysToWin_30, s_X10_waysToWin_31, s_X10_waysToWin_32, s_X10_waysToWin_35, s_X10_waysToWin_36, s_X10_waysToWin_39, s_X10_waysToWin_40, s_X10_waysToWin_43, s_X10_waysToWin_46, s_X10_waysToWin_47, s_X10_waysToWin_50, s_X10_waysToWin_51, s_X10_waysToWin_52, s_X10_waysToWin_53, s_X10_waysToWin_54, s_X10_waysToWin_57, s_X10_waysToWin_59, s_X10_waysToWin_62, s_X10_waysToWin_63, vm_o e53]
      refine ⟨fun q => absurd q (by decide), fun _ => sp_X10_both e53 h58 (h59.fr hf2 rfl) h60 fun c3 hf3 hi3 => ?_⟩
      have hf3' := hf2.trans (hf3.mono rfl)
      have e53 := (hf3' 53 rfl).trans h53
      simp only [Option.toList_some, Option.toList_none, List.cons_append, List.nil_append, Option.toList, s_X10_waysToWin_0, s_X10_waysToWin_1, s_X10_waysToWin_2, s_X10_waysToWin_3, s_X10_waysToWin_6, s_X10_waysToWin_7, s_X10_waysToWin_11, s_X10_waysToWin_14, s_X10_waysToWin_15, s_X10_waysToWin_18, s_X10_waysToWin_19, s_X10_waysToWin_20, s_X10_waysToWin_23, s_X10_waysToWin_26, s_X10_waysToWin_27, s_X10_waysToWin_30, s_X10_waysToWin_31, s_X10_waysToWin_32, s_X10_waysToWin_35, s_X10_waysToWin_36, s_X10_waysToWin_39, s_X10_waysToWin_40, s_X10_waysToWin_43, s_X10_waysToWin_46, s_X10_waysToWin_47, s_X10_waysToWin_50, s_X10_waysToWin_51, s_X10_waysToWin_52, s_X10_waysToWin_53, s_X10_waysToWin_54, s_X10_waysToWin_57, s_X10_waysToWin_59, s_X10_waysToWin_62, s_X10_waysToWin_63, gm9 e53, vm_o e53]
      refine sp_X10_winner' e53 hi3 (by decide) hm.2 hv ?_
      have hstep : ∀ s2 : Nat, s2 + ((a2 :: t).map (fun l => if winF v m (ctF b l) = x then scF v * wyF w (fll l) m 1 k else 0)).sum = ((cmp m k).reverse.map (fun l => if winF v m (ctF b l) = x then scF v * wyF w (fll l) m 1 k else 0)).sum → rU ro (d + 2) tb_X10_waysToWin R 53 [.ref 53, .int (nI x), .long (lN s2), .null, .int (nI 1)] [] (tab c3) := by
        intro s2 hs2
        simp only [s_X10_waysToWin_0, s_X10_waysToWin_1, s_X10_waysToWin_2, s_X10_waysToWin_3, s_X10_waysToWin_6, s_X10_waysToWin_7, s_X10_waysToWin_11, s_X10_waysToWin_14, s_X10_waysToWin_15, s_X10_waysToWin_18, s_X10_waysToWin_19, s_X10_waysToWin_20, s_X10_waysToWin_23, s_X10_waysToWin_26, s_X10_waysToWin_27, s_X10_waysToWin_30, s_X10_waysToWin_31, s_X10_waysToWin_32, s_X10_waysToWin_35, s_X10_waysToWin_36, s_X10_waysToWin_39, s_X10_waysToWin_40, s_X10_waysToWin_43, s_X10_waysToWin_46, s_X10_waysToWin_47, s_X10_waysToWin_50, s_X10_waysToWin_51, s_X10_waysToWin_52, s_X10_waysToWin_53, s_X10_waysToWin_54, s_X10_waysToWin_57, s_X10_waysToWin_59, s_X10_waysToWin_62, s_X10_waysToWin_63, vm_o e53]
        refine sp_X10_nextFill e53 hm (h60.fr hf3 rfl) (fun j _ => by have := hfl j; omega) (fun h0 => absurd h0 hc0) (fun h0 c4 hf4 hi4 => ?_)
        simp only [Option.toList_some, Option.toList_none, List.cons_append, List.nil_append, Option.toList, s_X10_waysToWin_0, s_X10_waysToWin_1, s_X10_waysToWin_2, s_X10_waysToWin_3, s_X10_waysToWin_6, s_X10_waysToWin_7, s_X10_waysToWin_11, s_X10_waysToWin_14, s_X10_waysToWin_15, s_X10_waysToWin_18, s_X10_waysToWin_19, s_X10_waysToWin_20, s_X10_waysToWin_23, s_X10_waysToWin_26, s_X10_waysToWin_27, s_X10_waysToWin_30, s_X10_waysToWin_31, s_X10_waysToWin_32, s_X10_waysToWin_35, s_X10_waysToWin_36, s_X10_waysToWin_39, s_X10_waysToWin_40, s_X10_waysToWin_43, s_X10_waysToWin_46, s_X10_waysToWin_47, s_X10_waysToWin_50, s_X10_waysToWin_51, s_X10_waysToWin_52, s_X10_waysToWin_53, s_X10_waysToWin_54, s_X10_waysToWin_57, s_X10_waysToWin_59, s_X10_waysToWin_62, s_X10_waysToWin_63]
        refine ⟨rfl, ih a2 s2 c4 hc2 ?_ (hf3'.trans (hf4.mono rfl)) (hi3.ty.fr hf4 rfl) (hi4.cg fun j _ => by rw [hnx j]) hs2⟩
        rw [List.all_cons, Bool.and_eq_true] at hal
        exact hal.2
      simp only [Option.toList_some, Option.toList_none, List.cons_append, List.nil_append, Option.toList, s_X10_waysToWin_0, s_X10_waysToWin_1, s_X10_waysToWin_2, s_X10_waysToWin_3, s_X10_waysToWin_6, s_X10_waysToWin_7, s_X10_waysToWin_11, s_X10_waysToWin_14, s_X10_waysToWin_15, s_X10_waysToWin_18, s_X10_waysToWin_19, s_X10_waysToWin_20, s_X10_waysToWin_23, s_X10_waysToWin_26, s_X10_waysToWin_27, s_X10_waysToWin_30, s_X10_waysToWin_31, s_X10_waysToWin_32, s_X10_waysToWin_35, s_X10_waysToWin_36, s_X10_waysToWin_39, s_X10_waysToWin_40, s_X10_waysToWin_43, s_X10_waysToWin_46, s_X10_waysToWin_47, s_X10_waysToWin_50, s_X10_waysToWin_51, s_X10_waysToWin_52, s_X10_waysToWin_54, s_X10_waysToWin_57, s_X10_waysToWin_59, s_X10_waysToWin_62, s_X10_waysToWin_63, gm2 e53, vm_o e53]
      have hsum : s + (if winF v m (ctF b a) = x then scF v * wyF w (fll a) m 1 k else 0) + ((a2 :: t).map (fun l => if winF v m (ctF b l) = x then scF v * wyF w (fll l) m 1 k else 0)).sum = ((cmp m k).reverse.map (fun l => if winF v m (ctF b l) = x then scF v * wyF w (fll l) m 1 k else 0)).sum := by
        rw [← hs, List.map_cons (l := a2 :: t), List.sum_cons, Nat.add_assoc]
      have hwq : winF v m (fun j => b j + nI (fll a j)) = winF v m (ctF b a) := rfl
      refine ⟨fun q => ?_, fun q => ?_⟩
      · have q := (wrM_eq (Nat.le_trans winF_le hm.2) hx).mp q
        rw [hwq] at q
        rw [if_pos q] at hsum
        refine ⟨fun h3 => ?_, fun h3 => ?_⟩
        · have h3 : v = 3 := (sI_eq (by omega) (by decide)).mp h3
          refine sp_X10_waysOfFill e53 hm.2 hk6 (h60.fr hf3 rfl) (h61.fr hf3' rfl) hw hok.2 ?_
          simp only [Option.toList_some, Option.toList_none, List.cons_append, List.nil_append, Option.toList, s_X10_waysToWin_0, s_X10_waysToWin_1, s_X10_waysToWin_2, s_X10_waysToWin_3, s_X10_waysToWin_6, s_X10_waysToWin_7, s_X10_waysToWin_11, s_X10_waysToWin_14, s_X10_waysToWin_15, s_X10_waysToWin_18, s_X10_waysToWin_19, s_X10_waysToWin_20, s_X10_waysToWin_23, s_X10_waysToWin_26, s_X10_waysToWin_27, s_X10_waysToWin_30, s_X10_waysToWin_31, s_X10_waysToWin_32, s_X10_waysToWin_35, s_X10_waysToWin_36, s_X10_waysToWin_39, s_X10_waysToWin_40, s_X10_waysToWin_43, s_X10_waysToWin_46, s_X10_waysToWin_47, s_X10_waysToWin_50, s_X10_waysToWin_51, s_X10_waysToWin_52, s_X10_waysToWin_54, s_X10_waysToWin_57, s_X10_waysToWin_59, s_X10_waysToWin_62, s_X10_waysToWin_63, lN_mul, lN_add]
          exact ⟨rfl, hstep _ (by rw [← hsum, scF, if_pos h3])⟩
        · have h3 : v ≠ 3 := fun e => h3 (by rw [e])
          refine sp_X10_waysOfFill e53 hm.2 hk6 (h60.fr hf3 rfl) (h61.fr hf3' rfl) hw hok.2 ?_
          simp only [Option.toList_some, Option.toList_none, List.cons_append, List.nil_append, Option.toList, s_X10_waysToWin_0, s_X10_waysToWin_1, s_X10_waysToWin_2, s_X10_waysToWin_3, s_X10_waysToWin_6, s_X10_waysToWin_7, s_X10_waysToWin_11, s_X10_waysToWin_14, s_X10_waysToWin_15, s_X10_waysToWin_18, s_X10_waysToWin_19, s_X10_waysToWin_20, s_X10_waysToWin_23, s_X10_waysToWin_26, s_X10_waysToWin_27, s_X10_waysToWin_30, s_X10_waysToWin_31, s_X10_waysToWin_32, s_X10_waysToWin_35, s_X10_waysToWin_36, s_X10_waysToWin_39, s_X10_waysToWin_40, s_X10_waysToWin_43, s_X10_waysToWin_46, s_X10_waysToWin_47, s_X10_waysToWin_50, s_X10_waysToWin_51, s_X10_waysToWin_52, s_X10_waysToWin_54, s_X10_waysToWin_57, s_X10_waysToWin_59, s_X10_waysToWin_62, s_X10_waysToWin_63, lN_mul, lN_add]
          exact ⟨rfl, hstep _ (by rw [← hsum, scF, if_neg h3])⟩
      · have q : ¬ winF v m (ctF b a) = x := fun e => q ((wrM_eq (Nat.le_trans winF_le hm.2) hx).mpr e)
        rw [if_neg q] at hsum
        exact hstep _ hsum
  cases hrev : (cmp m k).reverse with
  | nil => rw [hrev] at hhd; cases hhd
  | cons a0 t0 =>
    rw [hrev] at hhd
    cases hhd
    refine lp t0 _ 0 c1 (by rw [← hrev]; exact hch) (by rw [← hrev]; exact hall) (hf1.mono rfl) (h58.fr hf1 rfl) (hi1.cg fun j hj => ?_) (by rw [hrev, Nat.zero_add])
    cases j with
    | zero => rfl
    | succ j =>
      cases j with
      | zero => rfl
      | succ j =>
        show nI 0 = nI ((List.replicate (m - 1) 0).getD j 0)
        rw [List.getD_eq_getElem?_getD, List.getElem?_replicate]
        split <;> rfl
end MC
