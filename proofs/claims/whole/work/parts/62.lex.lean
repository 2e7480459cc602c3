/-! ===== friends: rising rows are enough ===== -/
def cdL (m : Nat) : List Nat → Nat
  | [] => 0
  | y :: l => (y - 1) * m ^ l.length + cdL m l
abbrev okV (m : Nat) (l : List Nat) : Prop := ∀ y, y ∈ l → 1 ≤ y ∧ y ≤ m
def rwL (m r c : Nat) : List Nat := (List.range r).map (rwC m r c)
theorem cdL_lt {m : Nat} : ∀ l, okV m l → cdL m l < m ^ l.length
  | [], _ => by rw [cdL]; exact Nat.one_pos
  | y :: l, h => by
    have ih := cdL_lt l (fun q hq => h q (List.mem_cons_of_mem _ hq))
    have hy := h y List.mem_cons_self
    rw [cdL, List.length_cons, Nat.pow_succ]
    have h1 : (y - 1 + 1) * m ^ l.length ≤ m * m ^ l.length := Nat.mul_le_mul_right _ (by omega)
    rw [Nat.add_mul, Nat.one_mul] at h1
    rw [Nat.mul_comm (m ^ l.length)]
    omega
theorem rwL_len {m r c : Nat} : (rwL m r c).length = r := by unfold rwL; rw [List.length_map, List.length_range]
theorem rwL_ok {m r c : Nat} (hm : 1 ≤ m) : okV m (rwL m r c) := fun y hy => by
  unfold rwL at hy
  obtain ⟨j, -, rfl⟩ := List.mem_map.mp hy
  exact rwC_le hm
theorem rwL_get {m r c p : Nat} (h : p < r) : (rwL m r c).getD p 0 = rwC m r c p := by
  unfold rwL
  rw [List.getD_eq_getElem?_getD, List.getElem?_map, List.getElem?_range h]
  rfl
theorem rwL_s {m r c y : Nat} (hm : 1 ≤ m) (hc : c < m ^ r) (hy : y < m) : rwL m (r + 1) (y * m ^ r + c) = (y + 1) :: rwL m r c := by
  unfold rwL
  rw [List.range_succ_eq_map, List.map_cons, rwC_0 hc hy, List.map_map]
  congr 1
  apply List.map_congr_left
  intro j hj
  exact rwC_s hm (by simpa using hj)
theorem rwL_cd {m : Nat} (hm : 1 ≤ m) : ∀ l, okV m l → rwL m l.length (cdL m l) = l
  | [], _ => rfl
  | y :: l, h => by
    have hl : okV m l := fun q hq => h q (List.mem_cons_of_mem _ hq)
    have hy := h y List.mem_cons_self
    rw [cdL, List.length_cons, rwL_s hm (cdL_lt l hl) (by omega), rwL_cd hm l hl, show y - 1 + 1 = y by omega]
theorem cd_rwL {m : Nat} (hm : 1 ≤ m) : ∀ r c, c < m ^ r → cdL m (rwL m r c) = c
  | 0, c, h => by
    have : c = 0 := by rw [Nat.pow_zero] at h; omega
    subst this; rfl
  | r + 1, c, h => by
    have hp : 0 < m ^ r := Nat.pow_pos (by omega)
    have h1 : c % m ^ r < m ^ r := Nat.mod_lt _ hp
    have h2 : c / m ^ r < m := by
      rw [Nat.div_lt_iff_lt_mul hp]
      rw [Nat.pow_succ, Nat.mul_comm] at h
      exact h
    have h3 : c = c / m ^ r * m ^ r + c % m ^ r := by
      have := Nat.div_add_mod c (m ^ r)
      rw [Nat.mul_comm] at this
      exact this.symm
    rw [h3, rwL_s hm h1 h2, cdL, rwL_len, cd_rwL hm r _ h1, Nat.add_sub_cancel]
theorem ris_mem {m : Nat} : ∀ r lo l, l ∈ ris m r lo → l.length = r ∧ ∀ y, y ∈ l → lo ≤ y ∧ y ≤ m
  | 0, lo, l, h => by
    rw [ris] at h
    have : l = [] := by simpa using h
    subst this
    exact ⟨rfl, fun y hy => absurd hy (by simp)⟩
  | r + 1, lo, l, h => by
    rw [ris] at h
    obtain ⟨a, ha, h2⟩ := List.mem_flatMap.mp h
    obtain ⟨l', hl', rfl⟩ := List.mem_map.mp h2
    have ha : a < m + 1 - lo := by simpa using ha
    obtain ⟨h3, h4⟩ := ris_mem r (lo + a) l' hl'
    refine ⟨by rw [List.length_cons, h3], fun y hy => ?_⟩
    rcases List.mem_cons.mp hy with rfl | hy
    · omega
    · have := h4 y hy; omega
theorem ris_pw {m : Nat} : ∀ r lo, 1 ≤ lo → (ris m r lo).Pairwise (fun a b => cdL m a < cdL m b)
  | 0, lo, _ => by rw [ris]; exact List.pairwise_singleton _ _
  | r + 1, lo, hlo => by
    rw [ris, List.pairwise_flatMap]
    refine ⟨fun a ha => ?_, ?_⟩
    · rw [List.pairwise_map]
      refine (ris_pw r (lo + a) (by omega)).imp_of_mem (fun {x y} hx hy hxy => ?_)
      rw [cdL, cdL, (ris_mem r _ x hx).1, (ris_mem r _ y hy).1]
      omega
    · refine List.pairwise_lt_range.imp_of_mem (fun {a b} ha hb hab => ?_)
      intro x hx y hy
      obtain ⟨x', hx', rfl⟩ := List.mem_map.mp hx
      obtain ⟨y', hy', rfl⟩ := List.mem_map.mp hy
      obtain ⟨hx1, hx2⟩ := ris_mem r _ x' hx'
      obtain ⟨hy1, hy2⟩ := ris_mem r _ y' hy'
      have hb : b < m + 1 - lo := by simpa using hb
      have h1 := cdL_lt (m := m) x' (fun q hq => by have := hx2 q hq; omega)
      rw [cdL, cdL, hx1, hy1]
      rw [hx1] at h1
      have h2 : (lo + a - 1 + 1) * m ^ r ≤ (lo + b - 1) * m ^ r := Nat.mul_le_mul_right _ (by omega)
      rw [Nat.add_mul, Nat.one_mul] at h2
      omega
theorem ris_of {m : Nat} : ∀ (l : List Nat) lo, (∀ y, y ∈ l → lo ≤ y ∧ y ≤ m) → l.Pairwise (· ≤ ·) → l ∈ ris m l.length lo
  | [], lo, _, _ => by rw [List.length_nil, ris]; exact List.mem_singleton.mpr rfl
  | y :: l, lo, h, hp => by
    have hy := h y List.mem_cons_self
    rw [List.length_cons, ris]
    refine List.mem_flatMap.mpr ⟨y - lo, by rw [List.mem_range]; omega, ?_⟩
    rw [show lo + (y - lo) = y by omega]
    refine List.mem_map.mpr ⟨l, ris_of l y (fun q hq => ⟨(List.pairwise_cons.mp hp).1 q hq, (h q (List.mem_cons_of_mem _ hq)).2⟩) (List.pairwise_cons.mp hp).2, rfl⟩
theorem not_ris : ∀ l : List Nat, ¬ l.Pairwise (· ≤ ·) → ∃ l1 p q l2, l = l1 ++ p :: q :: l2 ∧ q < p
  | [], h => absurd List.Pairwise.nil h
  | [y], h => absurd (List.pairwise_singleton _ _) h
  | y :: z :: l, h => by
    by_cases hyz : z < y
    · exact ⟨[], y, z, l, rfl, hyz⟩
    · have h2 : ¬ (z :: l).Pairwise (· ≤ ·) := by
        intro hp
        apply h
        refine List.pairwise_cons.mpr ⟨fun q hq => ?_, hp⟩
        rcases List.mem_cons.mp hq with rfl | hq
        · omega
        · have := (List.pairwise_cons.mp hp).1 q hq; omega
      obtain ⟨l1, p, q, l2, he, hlt⟩ := not_ris (z :: l) h2
      exact ⟨y :: l1, p, q, l2, by rw [he]; rfl, hlt⟩
theorem cd_app {m : Nat} {a b : List Nat} (hl : a.length = b.length) (h : cdL m a < cdL m b) : ∀ l, cdL m (l ++ a) < cdL m (l ++ b)
  | [] => h
  | y :: l => by
    have := cd_app hl h l
    rw [List.cons_append, List.cons_append, cdL, cdL, List.length_append, List.length_append, hl]
    omega
theorem cd_swap {m p q : Nat} {l1 l2 : List Nat} (h : okV m (l1 ++ p :: q :: l2)) (hqp : q < p) : cdL m (l1 ++ q :: p :: l2) < cdL m (l1 ++ p :: q :: l2) := by
  refine cd_app (by simp) ?_ l1
  have h1 : okV m (p :: l2) := fun y hy => h y (List.mem_append.mpr (Or.inr (by
    rcases List.mem_cons.mp hy with rfl | hy
    · exact List.mem_cons_self
    · exact List.mem_cons_of_mem _ (List.mem_cons_of_mem _ hy))))
  have hq := h q (List.mem_append.mpr (Or.inr (List.mem_cons_of_mem _ List.mem_cons_self)))
  have h2 := cdL_lt _ h1
  show (q - 1) * m ^ (q :: l2).length + cdL m (p :: l2) < (p - 1) * m ^ (q :: l2).length + cdL m (q :: l2)
  have h3 : (p :: l2).length = (q :: l2).length := rfl
  rw [h3] at h2
  have h4 : (q - 1 + 1) * m ^ (q :: l2).length ≤ (p - 1) * m ^ (q :: l2).length := Nat.mul_le_mul_right _ (by omega)
  rw [Nat.add_mul, Nat.one_mul] at h4
  omega
theorem mxL_mem {V : List Nat → Nat} : ∀ (ls : List (List Nat)) best b, mxL V best ls = some b → best = some b ∨ b ∈ ls
  | [], best, b, h => Or.inl h
  | l :: ls, best, b, h => by
    have h : mxL V (mxO V best l) ls = some b := h
    rcases mxL_mem ls _ b h with h1 | h1
    · unfold mxO at h1
      cases best with
      | none => have := Option.some.inj h1; subst this; exact Or.inr List.mem_cons_self
      | some q =>
        simp only at h1
        split at h1
        · have := Option.some.inj h1; subst this; exact Or.inr List.mem_cons_self
        · exact Or.inl h1
    · exact Or.inr (List.mem_cons_of_mem _ h1)
theorem mxL_keep {V : List Nat → Nat} {x : List Nat} : ∀ ls : List (List Nat), (∀ y, y ∈ ls → V y ≤ V x) → mxL V (some x) ls = some x
  | [], _ => rfl
  | l :: ls, h => by
    show mxL V (mxO V (some x) l) ls = some x
    have := h l List.mem_cons_self
    rw [show mxO V (some x) l = some x by unfold mxO; simp only; rw [if_neg (by omega)]]
    exact mxL_keep ls (fun y hy => h y (List.mem_cons_of_mem _ hy))
theorem mxL_first {V : List Nat → Nat} {x : List Nat} {l1 l2 : List (List Nat)} (h1 : ∀ y, y ∈ l1 → V y < V x) (h2 : ∀ y, y ∈ l2 → V y ≤ V x) : mxL V none (l1 ++ x :: l2) = some x := by
  unfold mxL
  rw [List.foldl_append, List.foldl_cons]
  have e : mxO V (List.foldl (mxO V) none l1) x = some x := by
    cases hb : List.foldl (mxO V) none l1 with
    | none => rfl
    | some b =>
      have : b ∈ l1 := (mxL_mem l1 none b hb).resolve_left (by simp)
      have := h1 b this
      unfold mxO
      simp only
      rw [if_pos this]
  rw [e]
  exact mxL_keep l2 h2
/-- the first of the most, by codes -/
def mxC (V : Nat → Nat) : Nat → Option Nat
  | 0 => none
  | N + 1 => match mxC V N with
    | none => some N
    | some a => if V a < V N then some N else some a
theorem mxC_spec {V : Nat → Nat} : ∀ N a, mxC V N = some a → a < N ∧ (∀ c, c < a → V c < V a) ∧ ∀ c, c < N → V c ≤ V a
  | 0, a, h => absurd h (by simp [mxC])
  | N + 1, a, h => by
    rw [mxC] at h
    cases hq : mxC V N with
    | none =>
      rw [hq] at h
      have hN : N = 0 := by
        cases N with
        | zero => rfl
        | succ N =>
          rw [mxC] at hq
          cases hq2 : mxC V N with
          | none => rw [hq2] at hq; exact absurd hq (by simp)
          | some b => rw [hq2] at hq; simp only at hq; split at hq <;> exact absurd hq (by simp)
      have : N = a := Option.some.inj h
      subst this
      subst hN
      exact ⟨by omega, fun c hc => absurd hc (by omega), fun c hc => by rw [show c = 0 by omega]; exact Nat.le_refl _⟩
    | some b =>
      rw [hq] at h
      obtain ⟨h1, h2, h3⟩ := mxC_spec N b hq
      simp only at h
      split at h
      · rename_i hlt
        have : N = a := Option.some.inj h
        subst this
        refine ⟨by omega, fun c hc => Nat.lt_of_le_of_lt (h3 c hc) hlt, fun c hc => ?_⟩
        by_cases e : c = N
        · rw [e]; exact Nat.le_refl _
        · exact Nat.le_of_lt (Nat.lt_of_le_of_lt (h3 c (by omega)) hlt)
      · rename_i hlt
        have : b = a := Option.some.inj h
        subst this
        refine ⟨by omega, h2, fun c hc => ?_⟩
        by_cases e : c = N
        · rw [e]; omega
        · exact h3 c (by omega)
theorem mxC_some {V : Nat → Nat} {N : Nat} (h : 0 < N) : ∃ a, mxC V N = some a := by
  cases N with
  | zero => omega
  | succ N =>
    rw [mxC]
    cases mxC V N with
    | none => exact ⟨_, rfl⟩
    | some b => simp only; split <;> exact ⟨_, rfl⟩
theorem lg_code {V : List Nat → Nat} {m z a : Nat} (hm : 1 ≤ m) (hV : ∀ l l' : List Nat, (∀ j, l.count j = l'.count j) → V l = V l') (ha : mxC (fun c => V (rwL m z c)) (m ^ z) = some a) : mxL V none (ris m z 1) = some (rwL m z a) := by
  obtain ⟨h1, h2, h3⟩ := mxC_spec _ _ ha
  have hok := rwL_ok (m := m) (r := z) (c := a) hm
  have hcd := cd_rwL hm z a h1
  have hsrt : (rwL m z a).Pairwise (· ≤ ·) := by
    refine Decidable.byContradiction fun hn => ?_
    obtain ⟨l1, p, q, l2, he, hlt⟩ := not_ris _ hn
    rw [he] at hok
    have hsw := cd_swap hok hlt
    rw [← he, hcd] at hsw
    have hok2 : okV m (l1 ++ q :: p :: l2) := fun y hy => hok y (by
      simp only [List.mem_append, List.mem_cons] at hy ⊢
      rcases hy with h | h | h | h
      · exact Or.inl h
      · exact Or.inr (Or.inr (Or.inl h))
      · exact Or.inr (Or.inl h)
      · exact Or.inr (Or.inr (Or.inr h)))
    have hlen : (l1 ++ q :: p :: l2).length = z := by
      have := rwL_len (m := m) (r := z) (c := a)
      rw [he] at this
      simpa using this
    have hb := rwL_cd hm _ hok2
    rw [hlen] at hb
    have h4 := h2 _ hsw
    simp only [hb] at h4
    have h5 : V (l1 ++ q :: p :: l2) = V (rwL m z a) := hV _ _ (fun j => by
      rw [he]
      simp only [List.count_append, List.count_cons]
      omega)
    omega
  have hmem := ris_of _ 1 hok hsrt
  rw [rwL_len] at hmem
  obtain ⟨l1, l2, hl⟩ := List.append_of_mem hmem
  have hpw := ris_pw (m := m) z 1 (Nat.le_refl _)
  rw [hl] at hpw ⊢
  have hpw := (List.pairwise_append.mp hpw).2.2
  have hbk : ∀ y, y ∈ ris m z 1 → V y = V (rwL m z (cdL m y)) ∧ cdL m y < m ^ z := fun y hy => by
    obtain ⟨k1, k2⟩ := ris_mem z 1 y hy
    have := rwL_cd hm y k2
    rw [k1] at this
    have k3 := cdL_lt y k2
    rw [k1] at k3
    exact ⟨by rw [this], k3⟩
  refine mxL_first (fun y hy => ?_) (fun y hy => ?_)
  · have k := hbk y (by rw [hl]; exact List.mem_append.mpr (Or.inl hy))
    rw [k.1]
    refine h2 _ ?_
    have := hpw y hy _ List.mem_cons_self
    rw [hcd] at this
    exact this
  · have k := hbk y (by rw [hl]; exact List.mem_append.mpr (Or.inr (List.mem_cons_of_mem _ hy)))
    rw [k.1]
    exact h3 _ k.2
theorem VF_cnt {w : Nat → Nat} {v m : Nat} {fo : Nat → Nat} {s n : Nat} {l l' : List Nat} (h : ∀ j, l.count j = l'.count j) : VF w v m fo s n l = VF w v m fo s n l' := by
  unfold VF
  have e : bxF fo s n l = bxF fo s n l' := by
    funext j
    unfold bxF
    rw [h j]
  rw [e]
  exact FF_cg (fun f => h _) _ _
theorem lgL_eq {n m v si s a : Nat} {w fo : Nat → Nat} {st : Nat → Int32} (hm : 1 ≤ m) (ha : mxC (fun c => VF w v m fo s n (rwL m (rkN s n) c)) (m ^ rkN s n) = some a) : lgL (n, m, v, w, fo, si, st) s = rwL m (rkN s n) a := by
  have := lg_code (V := VF w v m fo s n) hm (fun l l' h => VF_cnt h) ha
  unfold lgL
  simp only
  rw [this]
  rfl
theorem FF_mul {w : Nat → Nat} {a m x : Nat} {g : (Nat → Int32) → Nat} : ∀ (k : Nat) (b : Nat → Int32), FF w (fun f => a * g f) m x k b = a * FF w g m x k b
  | 0, _ => rfl
  | k + 1, b => by
    rw [FF, FF, ← smF_mul]
    exact smF_cg _ _ (fun j _ _ => by rw [FF_mul k, ← Nat.mul_assoc, Nat.mul_comm (w j), Nat.mul_assoc])
/-- men from the last on, each with what he writes -/
def prB (q : Nat → Nat) : Nat → (Nat → Int32) → Nat → Int32
  | 0, b => b
  | i + 1, b => prB q i (if q i = 0 then b else ad1 b (q i) 1)
def cnQ (q : Nat → Nat) : Nat → Nat → Nat
  | 0, _ => 0
  | i + 1, j => cnQ q i j + if q i = j then 1 else 0
theorem prB_at {q : Nat → Nat} : ∀ i (b : Nat → Int32) j, prB q i b j = if j = 0 then b 0 else b j + nI (cnQ q i j)
  | 0, b, j => by
    rw [prB, cnQ, nI_0, Int32.add_zero]
    split
    · rename_i e; rw [e]
    · rfl
  | i + 1, b, j => by
    rw [prB, prB_at i, cnQ]
    by_cases hq : q i = 0
    · rw [if_pos hq]
      by_cases hj : j = 0
      · rw [if_pos hj, if_pos hj]
      · rw [if_neg hj, if_neg hj, if_neg (by omega), Nat.add_zero]
    · rw [if_neg hq]
      by_cases hj : j = 0
      · rw [if_pos hj, if_pos hj]
        unfold ad1 upd
        rw [if_neg (by omega)]
      · rw [if_neg hj, if_neg hj]
        unfold ad1 upd
        by_cases e : j = q i
        · rw [if_pos e, if_pos e.symm, ← e, ← nI_add, Int32.add_assoc, Int32.add_comm (nI 1)]
        · rw [if_neg e, if_neg (fun h => e h.symm), Nat.add_zero]
theorem rg_cnt {f : Nat → Nat} {r j : Nat} : ((List.range (r + 1)).map f).count j = ((List.range r).map f).count j + if f r = j then 1 else 0 := by
  rw [List.range_succ, List.map_append, List.count_append]
  congr 1
  show List.count j [f r] = _
  rw [List.count_singleton]
  by_cases e : f r = j
  · rw [if_pos (by rw [beq_iff_eq]; exact e), if_pos e]
  · rw [if_neg (by rw [beq_iff_eq]; exact e), if_neg e]
/-- what each man writes: friends by their row, the others their own -/
def agQ (fo f : Nat → Nat) (s i : Nat) : Nat := if hasB s i then f (rkN s i) else fo i
theorem cn_ag {fo f : Nat → Nat} {s j : Nat} : ∀ i, cnQ (agQ fo f s) i j = ((List.range (rkN s i)).map f).count j + fcN fo s i j
  | 0 => rfl
  | i + 1 => by
    rw [cnQ, cn_ag i, rkN, fcN]
    unfold agQ
    cases h : hasB s i with
    | true =>
      simp only [eq_self, ite_true, rg_cnt, Bool.true_eq_false, false_and, ite_false, Nat.add_zero]
      omega
    | false =>
      simp only [Bool.false_eq_true, ite_false, true_and, Nat.add_zero, eq_self]
      omega
theorem pr_bx {fo f : Nat → Nat} {s n : Nat} : prB (agQ fo f s) n zrB = bxF fo s n ((List.range (rkN s n)).map f) := by
  funext j
  rw [prB_at]
  unfold bxF zrB
  rw [cn_ag]
  by_cases hj : j = 0
  · rw [if_pos hj, if_pos hj]
  · rw [if_neg hj, if_neg hj, nI_add, Nat.zero_add]
/-- friends of those that write y -/
def mnQ (f : Nat → Nat) (s y : Nat) : Nat → Nat
  | 0 => 0
  | i + 1 => mnQ f s y i + if hasB s i = true ∧ f (rkN s i) = y then 1 else 0
theorem mn_cnt {f : Nat → Nat} {s y : Nat} : ∀ i, mnQ f s y i = ((List.range (rkN s i)).map f).count y
  | 0 => rfl
  | i + 1 => by
    rw [mnQ, mn_cnt i, rkN]
    cases h : hasB s i with
    | true =>
      rw [if_pos (c := true = true) rfl, rg_cnt]
      by_cases e : f (rkN s i) = y
      · rw [if_pos ⟨rfl, e⟩, if_pos e]
      · rw [if_neg (fun q => e q.2), if_neg e]
    | false => rw [if_neg (fun q => absurd q.1 (by decide)), if_neg (by decide)]; rfl
