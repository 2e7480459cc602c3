/-! ===== sums over rows of counts are sums over rows of slips ===== -/
def ad1 (b : Nat → Int32) (x a : Nat) : Nat → Int32 := upd b x (b x + nI a)
theorem ad1_add (b : Nat → Int32) (x a a' : Nat) : ad1 (ad1 b x a) x a' = ad1 b x (a + a') := by
  funext j
  unfold ad1 upd
  by_cases h : j = x
  · simp only [h, if_true, ← nI_add, Int32.add_assoc]
  · simp only [h, if_false]
theorem ad1_zero (b : Nat → Int32) (x : Nat) : ad1 b x 0 = b := by
  funext j
  unfold ad1 upd
  by_cases h : j = x
  · simp only [h, if_true, nI_0, Int32.add_zero]
  · simp only [h, if_false]
theorem ad1_comm (b : Nat → Int32) {x y : Nat} (a a' : Nat) (h : x ≠ y) : ad1 (ad1 b x a) y a' = ad1 (ad1 b y a') x a := by
  funext j
  unfold ad1 upd
  by_cases hx : j = x
  · have hy : j ≠ y := fun e => h (hx.symm.trans e)
    simp only [hx, h, h.symm, if_true, if_false]
  · by_cases hy : j = y
    · simp only [hy, h.symm, if_true, if_false]
    · simp only [hx, hy, if_false]
def suR (n : Nat) (h : Nat → Nat) : Nat := match n with
  | 0 => 0
  | n + 1 => suR n h + h n
theorem suR_cg {h g : Nat → Nat} : ∀ {n : Nat}, (∀ i, i < n → h i = g i) → suR n h = suR n g
  | 0, _ => rfl
  | n + 1, e => by rw [suR, suR, suR_cg (fun i hi => e i (by omega)), e n (by omega)]
theorem suR_add {h g : Nat → Nat} : ∀ {n : Nat}, suR n (fun i => h i + g i) = suR n h + suR n g
  | 0 => rfl
  | n + 1 => by rw [suR, suR, suR, suR_add]; omega
theorem suR_mul {h : Nat → Nat} {a : Nat} : ∀ {n : Nat}, suR n (fun i => a * h i) = a * suR n h
  | 0 => by simp [suR]
  | n + 1 => by rw [suR, suR, suR_mul, Nat.mul_add]
theorem suR_shift {h : Nat → Nat} : ∀ {n : Nat}, suR (n + 1) h = h 0 + suR n (fun i => h (i + 1))
  | 0 => by simp [suR]
  | n + 1 => by rw [suR, suR_shift, suR]; omega
theorem suR_range {h : Nat → Nat} : ∀ {n : Nat}, ((List.range n).map h).sum = suR n h
  | 0 => rfl
  | n + 1 => by rw [List.range_succ, List.map_append, List.sum_append, suR_range, suR]; simp
theorem smF_mul {f : Nat → Nat} {a : Nat} : ∀ {r x : Nat}, smF (fun y => a * f y) r x = a * smF f r x
  | 0, _ => by simp [smF]
  | r + 1, x => by rw [smF, smF, smF_mul, Nat.mul_add]
theorem smF_suR {f : Nat → Nat → Nat} {n : Nat} : ∀ {r x : Nat}, smF (fun y => suR n (fun i => f y i)) r x = suR n (fun i => smF (fun y => f y i) r x)
  | 0, x => by
    have : ∀ n, suR n (fun _ => 0) = 0 := by
      intro n
      induction n with
      | zero => rfl
      | succ n ih => rw [suR, ih]
    simp only [smF, this]
  | r + 1, x => by
    rw [smF, smF_suR, ← suR_add]
    rfl
theorem smF_mono {f g : Nat → Nat} : ∀ {r x : Nat}, (∀ j, x ≤ j → j < x + r → f j ≤ g j) → smF f r x ≤ smF g r x
  | 0, _, _ => Nat.le_refl _
  | r + 1, x, h => by
    rw [smF, smF]
    exact Nat.add_le_add (h x (Nat.le_refl _) (by omega)) (smF_mono (fun j h1 h2 => h j (by omega) (by omega)))
/-- rows of k slips with numbers from x to x + m - 1, a weight each: the sum of g over them -/
def FF (w : Nat → Nat) (g : (Nat → Int32) → Nat) (m x : Nat) : Nat → (Nat → Int32) → Nat
  | 0, b => g b
  | k + 1, b => smF (fun y => w y * FF w g m x k (ad1 b y 1)) m x
def wyL (w : Nat → Nat) : Nat → Nat → List Nat → Nat
  | _, _, [] => 1
  | x, left, a :: l => chF left a * w x ^ a * wyL w (x + 1) (left - a) l
def adL (b : Nat → Int32) : Nat → List Nat → Nat → Int32
  | _, [] => b
  | x, a :: l => adL (ad1 b x a) (x + 1) l
def PP (w : Nat → Nat) (g : (Nat → Int32) → Nat) (m x k : Nat) (b : Nat → Int32) : Nat := ((cmp m k).map (fun l => wyL w x k l * g (adL b x l))).sum
theorem chF_self : ∀ k, chF k (k + 1) = 0
  | 0 => rfl
  | k + 1 => by
    rw [chF, chF_self k]
    have : ∀ k j, chF k (k + 1 + j) = 0 := by
      intro k
      induction k with
      | zero => intro j; rw [show 0 + 1 + j = j + 1 by omega]; rfl
      | succ k ih => intro j; rw [show k + 1 + 1 + j = (k + 1 + j) + 1 by omega, chF, ih j, show k + 1 + j + 1 = k + 1 + (j + 1) by omega, ih (j + 1)]
    rw [Nat.zero_add]
    exact this k 1
theorem PP_succ (w : Nat → Nat) (g : (Nat → Int32) → Nat) (m x k : Nat) (b : Nat → Int32) : PP w g (m + 1) x k b = suR (k + 1) (fun a => chF k a * w x ^ a * PP w g m (x + 1) (k - a) (ad1 b x a)) := by
  unfold PP
  rw [cmp, List.map_flatMap, ← suR_range]
  have hs : ∀ (L : List Nat) (f : Nat → List Nat), (L.flatMap f).sum = (L.map (fun a => (f a).sum)).sum := by
    intro L f
    induction L with
    | nil => rfl
    | cons a L ih => rw [List.flatMap_cons, List.sum_append, ih, List.map_cons, List.sum_cons]
  rw [hs]
  congr 1
  apply List.map_congr_left
  intro a _
  rw [List.map_map]
  have hm : ∀ (L : List (List Nat)) (q : Nat) (f : List Nat → Nat), (L.map (fun l => q * f l)).sum = q * (L.map f).sum := by
    intro L q f
    induction L with
    | nil => simp
    | cons a L ih => rw [List.map_cons, List.sum_cons, ih, List.map_cons, List.sum_cons, Nat.mul_add]
  rw [← hm]
  congr 1
  apply List.map_congr_left
  intro l _
  show wyL w x k (a :: l) * g (adL b x (a :: l)) = _
  rw [wyL, adL, Nat.mul_assoc]
theorem FF_split (w : Nat → Nat) (g : (Nat → Int32) → Nat) (m x : Nat) : ∀ (k : Nat) (b : Nat → Int32), FF w g (m + 1) x k b = suR (k + 1) (fun a => chF k a * w x ^ a * FF w g m (x + 1) (k - a) (ad1 b x a))
  | 0, b => by
    simp only [suR, FF, chF, Nat.pow_zero, ad1_zero, Nat.zero_add, Nat.mul_one, Nat.one_mul, Nat.sub_self]
  | k + 1, b => by
    have ih := FF_split w g m x k
    have e1 : w x * FF w g (m + 1) x k (ad1 b x 1) = suR (k + 1) (fun a => chF k a * w x ^ (a + 1) * FF w g m (x + 1) (k - a) (ad1 b x (a + 1))) := by
      rw [ih, ← suR_mul]
      apply suR_cg
      intro a _
      rw [ad1_add, Nat.add_comm 1 a, Nat.pow_succ]
      rw [← Nat.mul_assoc, ← Nat.mul_assoc, Nat.mul_comm (w x) (chF k a), Nat.mul_assoc (chF k a) (w x) (w x ^ a), Nat.mul_comm (w x) (w x ^ a)]
    have e2 : smF (fun y => w y * FF w g (m + 1) x k (ad1 b y 1)) m (x + 1) = suR (k + 1) (fun a => chF k a * w x ^ a * FF w g m (x + 1) (k - a + 1) (ad1 b x a)) := by
      have e3 : smF (fun y => w y * FF w g (m + 1) x k (ad1 b y 1)) m (x + 1) = smF (fun y => suR (k + 1) (fun a => chF k a * w x ^ a * (w y * FF w g m (x + 1) (k - a) (ad1 (ad1 b x a) y 1)))) m (x + 1) := by
        apply smF_cg
        intro y h1 h2
        rw [ih, ← suR_mul]
        apply suR_cg
        intro a _
        rw [ad1_comm b 1 a (show y ≠ x by omega), ← Nat.mul_assoc, Nat.mul_comm (w y) _, Nat.mul_assoc]
      rw [e3, smF_suR]
      apply suR_cg
      intro a _
      rw [smF_mul, FF]
    rw [FF, smF, e1, e2]
    have e4 : suR (k + 1) (fun a => chF k a * w x ^ a * FF w g m (x + 1) (k - a + 1) (ad1 b x a)) = chF (k + 1) 0 * w x ^ 0 * FF w g m (x + 1) (k + 1 - 0) (ad1 b x 0) + suR (k + 1) (fun i => chF k (i + 1) * w x ^ (i + 1) * FF w g m (x + 1) (k + 1 - (i + 1)) (ad1 b x (i + 1))) := by
      rw [suR_shift, suR, chF_self k]
      have e0 : chF k 0 = chF (k + 1) 0 := by cases k <;> rfl
      rw [e0, show k - 0 + 1 = k + 1 - 0 by omega, Nat.zero_mul, Nat.zero_mul, Nat.add_zero]
      congr 1
      apply suR_cg
      intro i hi
      rw [show k - (i + 1) + 1 = k + 1 - (i + 1) by omega]
    rw [e4, Nat.add_left_comm, ← suR_add, suR_shift (n := k + 1)]
    congr 1
    apply suR_cg
    intro i _
    rw [show k + 1 - (i + 1) = k - i by omega, chF, Nat.add_mul, Nat.add_mul]
theorem PP_FF (w : Nat → Nat) (g : (Nat → Int32) → Nat) : ∀ (m x k : Nat) (b : Nat → Int32), PP w g m x k b = FF w g m x k b
  | 0, x, k, b => by
    cases k with
    | zero => simp [PP, cmp, FF, wyL, adL]
    | succ k => simp [PP, cmp, FF, smF]
  | m + 1, x, k, b => by
    rw [PP_succ, FF_split]
    apply suR_cg
    intro a _
    rw [PP_FF w g m]
theorem FF_le {w : Nat → Nat} {g : (Nat → Int32) → Nat} {m x : Nat} (hg : ∀ b, g b ≤ 1) : ∀ (k : Nat) (b : Nat → Int32), FF w g m x k b ≤ smF w m x ^ k
  | 0, b => hg b
  | k + 1, b => by
    rw [FF, Nat.pow_succ, ← smF_mul]
    apply smF_mono
    intro y _ _
    rw [Nat.mul_comm]
    exact Nat.mul_le_mul_right _ (FF_le hg k _)
theorem FF_cg {w : Nat → Nat} {g g' : (Nat → Int32) → Nat} {m x : Nat} (hg : ∀ b, g b = g' b) : ∀ (k : Nat) (b : Nat → Int32), FF w g m x k b = FF w g' m x k b
  | 0, b => hg b
  | k + 1, b => by
    rw [FF, FF]
    apply smF_cg
    intro y _ _
    rw [FF_cg hg k]
/-- the two ways in which a row of counts is read -/
theorem adL_eq (b : Nat → Int32) : ∀ (l : List Nat) (x j : Nat), adL b x l j = b j + nI (if x ≤ j then l.getD (j - x) 0 else 0)
  | [], x, j => by
    have : (if x ≤ j then ([] : List Nat).getD (j - x) 0 else 0) = 0 := by split <;> rfl
    rw [this, nI_0, Int32.add_zero, adL]
  | a :: l, x, j => by
    rw [adL, adL_eq _ l (x + 1) j]
    unfold ad1 upd
    by_cases h : j = x
    · subst h
      rw [if_pos rfl, if_neg (by omega), if_pos (Nat.le_refl _), Nat.sub_self, nI_0, Int32.add_zero]
      rfl
    · rw [if_neg h]
      by_cases h2 : x ≤ j
      · rw [if_pos (by omega), if_pos h2, show j - x = (j - (x + 1)) + 1 by omega]
        rfl
      · rw [if_neg (by omega), if_neg h2]
theorem ctF_adL (b : Nat → Int32) (l : List Nat) : ctF b l = adL b 1 l := by
  funext j
  rw [adL_eq, ctF]
  cases j with
  | zero => rfl
  | succ j => rw [if_pos (by omega)]; rfl
theorem wyF_wyL (w : Nat → Nat) : ∀ (m x left : Nat) (l : List Nat) (fl : Nat → Nat), l.length = m → (∀ j, j < m → fl (x + j) = l.getD j 0) → wyF w fl m x left = wyL w x left l
  | 0, _, _, [], _, _, _ => rfl
  | m + 1, x, left, [], _, h, _ => by cases h
  | m + 1, x, left, a :: l, fl, h, hf => by
    have h0 : fl x = a := hf 0 (by omega)
    rw [wyF, wyL, h0, wyF_wyL w m (x + 1) (left - a) l fl (by simpa using h) (fun j hj => by
      have := hf (j + 1) (by omega)
      rw [show x + 1 + j = x + (j + 1) by omega, this]
      rfl)]
/-- ways in which x wins, b being written already, k writing by w -/
def tlF (w : Nat → Nat) (v m k : Nat) (b : Nat → Int32) (x : Nat) : Nat := FF w (fun f => if winF v m f = x then 1 else 0) m 1 k b
theorem tl_sum {w : Nat → Nat} {v m k x sc : Nat} {b : Nat → Int32} (hm : 2 ≤ m ∧ m ≤ 6) (hk : k ≤ 6) : ((cmp m k).reverse.map (fun l => if winF v m (ctF b l) = x then sc * wyF w (fll l) m 1 k else 0)).sum = sc * tlF w v m k b x := by
  have hall := (cmp_chain m (by omega) hm.1 k (by omega)).2.2
  rw [tlF, ← PP_FF, PP, List.map_reverse, List.sum_reverse]
  have hm2 : ∀ (L : List (List Nat)) (f : List Nat → Nat), (L.map (fun l => sc * f l)).sum = sc * (L.map f).sum := by
    intro L f
    induction L with
    | nil => simp
    | cons a L ih => rw [List.map_cons, List.sum_cons, ih, List.map_cons, List.sum_cons, Nat.mul_add]
  rw [← hm2]
  congr 1
  apply List.map_congr_left
  intro l hl
  have hok := List.all_eq_true.mp hall l (List.mem_reverse.mpr hl)
  simp only [okL, Bool.and_eq_true, beq_iff_eq] at hok
  rw [ctF_adL, wyF_wyL w m 1 k l (fll l) hok.1 (fun j _ => by rw [Nat.add_comm]; rfl)]
  by_cases hw : winF v m (adL b 1 l) = x <;> simp [hw]
theorem tl_le {w : Nat → Nat} {v m k x : Nat} {b : Nat → Int32} : tlF w v m k b x ≤ smF w m 1 ^ k := FF_le (fun b => by split <;> omega) k b
