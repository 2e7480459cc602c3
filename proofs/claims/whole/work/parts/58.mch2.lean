/-! ===== the model: steps, nobody, prize, wins, told ===== -/
theorem jnB_0 : ∀ r i (b : Nat → Int32), jnB (fun _ => some 0) r i b = b
  | 0, _, _ => rfl
  | r + 1, i, b => by rw [jnB]; exact jnB_0 r (i + 1) b
theorem jnK_0 : ∀ r i k, jnK (fun _ => some 0) r i k = k + r
  | 0, _, _ => rfl
  | r + 1, i, k => by rw [jnK]; have := jnK_0 r (i + 1) (k + 1); simp only at this ⊢; omega
theorem jnB_s {q : Nat} : ∀ r i (b : Nat → Int32), jnB (fun _ => some (q + 1)) r i b = ad1 b (q + 1) r
  | 0, _, b => (ad1_zero b _).symm
  | r + 1, i, b => by rw [jnB]; have := jnB_s (q := q) r (i + 1) (ad1 b (q + 1) 1); simp only at this ⊢; rw [this, ad1_add, Nat.add_comm 1 r]
theorem jnK_s {q : Nat} : ∀ r i k, jnK (fun _ => some (q + 1)) r i k = k
  | 0, _, _ => rfl
  | r + 1, i, k => by rw [jnK]; exact jnK_s (q := q) r (i + 1) k
/-- fills gone through one after another -/
theorem fill_ind {m k : Nat} {c : Nat → rE} (hm : 2 ≤ m ∧ m ≤ 6) (hk6 : k ≤ 6) (val : List Nat → Nat) (HEAD : (Nat → rE) → Nat → Prop)
    (step : ∀ a s c2, okL m k a = true → frm [58, 60] c c2 → tyI c2 58 7 → isI c2 60 7 (fun j => nI (fll a j)) →
      ((lastN (fll a) (m - 1) = 0 → s + val a = ((cmp m k).reverse.map val).sum) ∧ (lastN (fll a) (m - 1) ≠ 0 → ∀ c3, frm [58, 60] c c3 → tyI c3 58 7 → isI c3 60 7 (fun j => nI (nxF m (fll a) j)) → HEAD c3 (s + val a))) → HEAD c2 s) :
    ∀ c1, frm [58, 60] c c1 → tyI c1 58 7 → isI c1 60 7 (fun j => if j = 1 then nI k else nI 0) → HEAD c1 0 := by
  obtain ⟨hch, hhd, hall⟩ := cmp_chain m (by omega) hm.1 k (by omega)
  have lp : ∀ (t : List (List Nat)) (a : List Nat) (s : Nat) (c2 : Nat → rE), chn m (a :: t) = true → (a :: t).all (okL m k) = true → frm [58, 60] c c2 → tyI c2 58 7 → isI c2 60 7 (fun j => nI (fll a j)) → s + ((a :: t).map val).sum = ((cmp m k).reverse.map val).sum → HEAD c2 s := by
    intro t
    induction t with
    | nil =>
      intro a s c2 hc hal hf2 h58 h60 hs
      have hok := List.all_eq_true.mp hal a List.mem_cons_self
      have h0 : lastN (fll a) (m - 1) = 0 := by simpa [chn] using hc
      refine step a s c2 hok hf2 h58 h60 ⟨fun _ => ?_, fun q => absurd h0 q⟩
      rw [← hs]; simp
    | cons a2 t ih =>
      intro a s c2 hc hal hf2 h58 h60 hs
      have hok := List.all_eq_true.mp hal a List.mem_cons_self
      have hok1 := hok
      have hok2 := List.all_eq_true.mp hal a2 (List.mem_cons_of_mem _ List.mem_cons_self)
      simp only [okL, Bool.and_eq_true, beq_iff_eq] at hok1 hok2
      simp only [chn, Bool.and_eq_true, bne_iff_ne, ne_eq, beq_iff_eq] at hc
      obtain ⟨⟨hc0, hc1⟩, hc2⟩ := hc
      have hnx := nxF_list hm.1 hok1.1 hok2.1 hc0 hc1
      rw [List.all_cons, Bool.and_eq_true] at hal
      refine step a s c2 hok hf2 h58 h60 ⟨fun q => absurd q hc0, fun _ c3 hf3 t58 t60 => ?_⟩
      exact ih a2 (s + val a) c3 hc2 hal.2 hf3 t58 (t60.cg fun j _ => by rw [hnx j]) (by rw [← hs, List.map_cons (l := a2 :: t), List.sum_cons, Nat.add_assoc])
  intro c1 hf1 h58 h60
  cases hL : (cmp m k).reverse with
  | nil => rw [hL] at hhd; exact absurd hhd (by simp)
  | cons a t =>
    rw [hL] at hch hhd hall
    have ha : a = k :: List.replicate (m - 1) 0 := by simpa using hhd
    refine lp t a 0 c1 hch hall hf1 h58 (h60.cg fun j _ => ?_) (by rw [hL, Nat.zero_add])
    rw [ha]
    match j with
    | 0 => rfl
    | 1 => rfl
    | j + 2 =>
      rw [if_neg (by omega)]
      show nI 0 = nI ((List.replicate (m - 1) 0).getD j 0)
      rw [List.getD_eq_getElem?_getD, List.getElem?_replicate]
      split <;> rfl
theorem ff_sum {w : Nat → Nat} {m k : Nat} {b : Nat → Int32} {g : (Nat → Int32) → Nat} (hm : 2 ≤ m ∧ m ≤ 6) (hk : k ≤ 6) : ((cmp m k).reverse.map (fun l => wyF w (fll l) m 1 k * g (ctF b l))).sum = FF w g m 1 k b := by
  have hall := (cmp_chain m (by omega) hm.1 k (by omega)).2.2
  rw [← PP_FF, PP, List.map_reverse, List.sum_reverse]
  congr 1
  apply List.map_congr_left
  intro l hl
  have hok := List.all_eq_true.mp hall l (List.mem_reverse.mpr hl)
  simp only [okL, Bool.and_eq_true, beq_iff_eq] at hok
  rw [ctF_adL, wyF_wyL w m 1 k l (fll l) hok.1 (fun j _ => by rw [Nat.add_comm]; rfl)]
theorem lceq {a b : Nat} (ha : a < 2 ^ 62) (hb : b < 2 ^ 62) : (lg_cmp (lN a) (lN b) = 0) ↔ a = b := by
  have e : lN a = lN b ↔ a = b := by
    constructor
    · intro h
      have h1 := lN_toI (n := a) (by omega)
      have h2 := lN_toI (n := b) (by omega)
      rw [h] at h1
      omega
    · intro h; rw [h]
  unfold lg_cmp
  by_cases h : a = b
  · subst h
    rw [if_neg (fun q => absurd q (Int64.lt_irrefl)), if_pos rfl]
    exact ⟨fun _ => rfl, fun _ => rfl⟩
  · refine ⟨fun q => ?_, fun q => absurd q h⟩
    split at q
    · exact absurd q (by decide)
    · split at q
      · rename_i _ hq
        exact absurd (e.mp hq) h
      · exact absurd q (by decide)
section MO
variable {ro : rQ} {d : Nat} {R : rR} {c c' c0 c1 c2 : Nat → rE} {n m v si sg k t : Nat} {w fo w' : Nat → Nat} {st pd b : Nat → Int32} {im : Nat → Option TS} {x y z : Int32}
theorem ml_steps (hV : VS (n, m, v, w, fo, si, st)) (hM : MS c (n, m, v, w, fo, si, st) sg pd im) (hk : ∀ c', frm MM c c' → MS c' (n, m, v, w, fo, si, st) sg pd im → R (some (.int (stpA (n, m, v, w, fo, si, st) x))) (tab c')) : rM ro (d + 6) 150 0 0 [.ref 53, .int x] (tab c) R := by
  have hn := hV.1
  have hm := hV.2.1
  rw [en_X10_steps]
  simp only [s_X10_steps_0, s_X10_steps_1, s_X10_steps_2, s_X10_steps_4, s_X10_steps_7, s_X10_steps_10, s_X10_steps_12, s_X10_steps_13, s_X10_steps_14, s_X10_steps_15, s_X10_steps_16, s_X10_steps_18, s_X10_steps_19, s_X10_steps_22, s_X10_steps_23, s_X10_steps_26, s_X10_steps_27, s_X10_steps_31, s_X10_steps_33, s_X10_steps_36, s_X10_steps_37, s_X10_steps_40, s_X10_steps_42, s_X10_steps_43, s_X10_steps_46, s_X10_steps_48, s_X10_steps_49, s_X10_steps_52, s_X10_steps_53, s_X10_steps_56, s_X10_steps_57, s_X10_steps_58, s_X10_steps_61, s_X10_steps_62, s_X10_steps_63, s_X10_steps_66, s_X10_steps_69, s_X10_steps_70, s_X10_steps_71, s_X10_steps_74, s_X10_steps_75, s_X10_steps_78, s_X10_steps_79, s_X10_steps_82, s_X10_steps_83, s_X10_steps_84, s_X10_steps_87, s_X10_steps_88, s_X10_steps_91, s_X10_steps_92, s_X10_steps_95, s_X10_steps_98, s_X10_steps_99]
  refine sp_in2 ?_
  simp only [Option.toList_some, Option.toList_none, List.cons_append, List.nil_append, Option.toList, s_X10_steps_0, s_X10_steps_1, s_X10_steps_2, s_X10_steps_4, s_X10_steps_7, s_X10_steps_10, s_X10_steps_12, s_X10_steps_13, s_X10_steps_14, s_X10_steps_15, s_X10_steps_16, s_X10_steps_18, s_X10_steps_19, s_X10_steps_22, s_X10_steps_23, s_X10_steps_26, s_X10_steps_27, s_X10_steps_31, s_X10_steps_33, s_X10_steps_36, s_X10_steps_37, s_X10_steps_40, s_X10_steps_42, s_X10_steps_43, s_X10_steps_46, s_X10_steps_48, s_X10_steps_49, s_X10_steps_52, s_X10_steps_53, s_X10_steps_56, s_X10_steps_57, s_X10_steps_58, s_X10_steps_61, s_X10_steps_62, s_X10_steps_63, s_X10_steps_66, s_X10_steps_69, s_X10_steps_70, s_X10_steps_71, s_X10_steps_74, s_X10_steps_75, s_X10_steps_78, s_X10_steps_79, s_X10_steps_82, s_X10_steps_83, s_X10_steps_84, s_X10_steps_87, s_X10_steps_88, s_X10_steps_91, s_X10_steps_92, s_X10_steps_95, s_X10_steps_98, s_X10_steps_99, b2_0]
  refine ⟨fun hx => ?_, fun hx => ⟨rfl, rfl, ?_⟩⟩
  · have := hk c frm.rf hM
    rw [stpA, if_neg hx] at this
    exact this
  have hx := Decidable.not_not.mp hx
  have hk : ∀ c', frm MM c c' → MS c' (n, m, v, w, fo, si, st) sg pd im → R (some (.int (nI (stN (n, m, v, w, fo, si, st) x.toNatClampNeg)))) (tab c') := fun c' h1 h2 => by
    have := hk c' h1 h2
    rw [stpA, if_pos hx] at this
    exact this
  obtain ⟨a, ha1, ha2, rfl⟩ := inR_nI hx (by decide) (by decide)
  rw [nI_c (show a < 100000 by omega)] at hk
  have lp : ∀ rem s c1 (l4 : Value), s + rem = a → frm MM c c1 → MS c1 (n, m, v, w, fo, si, st) sg pd im → rU ro (d + 5) tb_X10_steps R 17 [.ref 53, .int (nI a), .int (nI (stN (n, m, v, w, fo, si, st) s)), .int (nI s), l4] [] (tab c1) := by
    intro rem
    induction rem with
    | zero =>
      intro s c1 l4 hs f1 hM1
      have : s = a := by omega
      subst this
      rw [s_X10_steps_17]
      simp only [s_X10_steps_0, s_X10_steps_1, s_X10_steps_2, s_X10_steps_4, s_X10_steps_7, s_X10_steps_10, s_X10_steps_12, s_X10_steps_13, s_X10_steps_14, s_X10_steps_15, s_X10_steps_16, s_X10_steps_18, s_X10_steps_19, s_X10_steps_22, s_X10_steps_23, s_X10_steps_26, s_X10_steps_27, s_X10_steps_31, s_X10_steps_33, s_X10_steps_36, s_X10_steps_37, s_X10_steps_40, s_X10_steps_42, s_X10_steps_43, s_X10_steps_46, s_X10_steps_48, s_X10_steps_49, s_X10_steps_52, s_X10_steps_53, s_X10_steps_56, s_X10_steps_57, s_X10_steps_58, s_X10_steps_61, s_X10_steps_62, s_X10_steps_63, s_X10_steps_66, s_X10_steps_69, s_X10_steps_70, s_X10_steps_71, s_X10_steps_74, s_X10_steps_75, s_X10_steps_78, s_X10_steps_79, s_X10_steps_82, s_X10_steps_83, s_X10_steps_84, s_X10_steps_87, s_X10_steps_88, s_X10_steps_91, s_X10_steps_92, s_X10_steps_95, s_X10_steps_98, s_X10_steps_99]
      exact ⟨fun _ => hk c1 f1 hM1, fun hc => absurd ((sI_le (by omega) (by omega)).mpr (Nat.le_refl _)) hc⟩
    | succ rem ih =>
      intro s c1 l4 hs f1 hM1
      obtain ⟨⟨⟨fr, ru, lu, h53⟩, h54, h55, h56, h57⟩, hsc, him⟩ := id hM1
      have hq := stN_le (T := (n, m, v, w, fo, si, st)) hm.1 s
      have hq : stN (n, m, v, w, fo, si, st) s ≤ m := hq
      rw [s_X10_steps_17]
      simp only [s_X10_steps_0, s_X10_steps_1, s_X10_steps_2, s_X10_steps_4, s_X10_steps_7, s_X10_steps_10, s_X10_steps_12, s_X10_steps_13, s_X10_steps_14, s_X10_steps_15, s_X10_steps_16, s_X10_steps_18, s_X10_steps_19, s_X10_steps_22, s_X10_steps_23, s_X10_steps_26, s_X10_steps_27, s_X10_steps_31, s_X10_steps_33, s_X10_steps_36, s_X10_steps_37, s_X10_steps_40, s_X10_steps_42, s_X10_steps_43, s_X10_steps_46, s_X10_steps_48, s_X10_steps_49, s_X10_steps_52, s_X10_steps_53, s_X10_steps_56, s_X10_steps_57, s_X10_steps_58, s_X10_steps_61, s_X10_steps_62, s_X10_steps_63, s_X10_steps_66, s_X10_steps_69, s_X10_steps_70, s_X10_steps_71, s_X10_steps_74, s_X10_steps_75, s_X10_steps_78, s_X10_steps_79, s_X10_steps_82, s_X10_steps_83, s_X10_steps_84, s_X10_steps_87, s_X10_steps_88, s_X10_steps_91, s_X10_steps_92, s_X10_steps_95, s_X10_steps_98, s_X10_steps_99, vm_o h53, sI_le (show a < 100000 by omega) (show s < 100000 by omega)]
      refine ⟨fun hc => absurd hc (by omega), fun _ => sp_X10_asWeights h53 h54 hsc.2.2.2.1 fun c2 f2 hi2 => ?_⟩
      simp only [Option.toList_some, Option.toList_none, List.cons_append, List.nil_append, Option.toList, s_X10_steps_0, s_X10_steps_1, s_X10_steps_2, s_X10_steps_4, s_X10_steps_7, s_X10_steps_10, s_X10_steps_12, s_X10_steps_13, s_X10_steps_14, s_X10_steps_15, s_X10_steps_16, s_X10_steps_18, s_X10_steps_19, s_X10_steps_22, s_X10_steps_23, s_X10_steps_26, s_X10_steps_27, s_X10_steps_31, s_X10_steps_33, s_X10_steps_36, s_X10_steps_37, s_X10_steps_40, s_X10_steps_42, s_X10_steps_43, s_X10_steps_46, s_X10_steps_48, s_X10_steps_49, s_X10_steps_52, s_X10_steps_53, s_X10_steps_56, s_X10_steps_57, s_X10_steps_58, s_X10_steps_61, s_X10_steps_62, s_X10_steps_63, s_X10_steps_66, s_X10_steps_69, s_X10_steps_70, s_X10_steps_71, s_X10_steps_74, s_X10_steps_75, s_X10_steps_78, s_X10_steps_79, s_X10_steps_82, s_X10_steps_83, s_X10_steps_84, s_X10_steps_87, s_X10_steps_88, s_X10_steps_91, s_X10_steps_92, s_X10_steps_95, s_X10_steps_98, s_X10_steps_99]
      refine ⟨rfl, ?_⟩
      have e53 := (f2 53 rfl).trans h53
      have hsB : ∀ j, (if 1 ≤ s ∧ j = stN (n, m, v, w, fo, si, st) s then nI (n - 1) else nI 0) = sB (n, m, v, w, fo, si, st) (stN (n, m, v, w, fo, si, st) s) j := by
        intro j
        unfold sB
        by_cases h0 : s = 0
        · subst h0
          rw [if_neg (by omega)]
          show nI 0 = jnB (fun _ => some 0) (n - 1) 1 zrB j
          rw [jnB_0]; rfl
        · obtain ⟨s', rfl⟩ : ∃ s', s = s' + 1 := ⟨s - 1, by omega⟩
          have hp : 1 ≤ stN (n, m, v, w, fo, si, st) (s' + 1) := (topF_mem (gT (n, m, v, w, fo, si, st) (sK (n, m, v, w, fo, si, st) (stN (n, m, v, w, fo, si, st) s')) (sB (n, m, v, w, fo, si, st) (stN (n, m, v, w, fo, si, st) s'))) hm.1).1
          obtain ⟨q, hq2⟩ : ∃ q, stN (n, m, v, w, fo, si, st) (s' + 1) = q + 1 := ⟨stN (n, m, v, w, fo, si, st) (s' + 1) - 1, by omega⟩
          rw [hq2, jnB_s]
          unfold ad1 upd zrB
          by_cases hj : j = q + 1
          · rw [if_pos ⟨by omega, hj⟩, if_pos hj, nI_add, Nat.zero_add]
          · rw [if_neg (fun q => hj q.2), if_neg hj]
      have hsK : (if 1 ≤ s then 0 else n - 1) = sK (n, m, v, w, fo, si, st) (stN (n, m, v, w, fo, si, st) s) := by
        unfold sK
        by_cases h0 : s = 0
        · subst h0
          rw [if_neg (by omega)]
          show _ = jnK (fun _ => some 0) (n - 1) 1 0
          rw [jnK_0]; omega
        · obtain ⟨s', rfl⟩ : ∃ s', s = s' + 1 := ⟨s - 1, by omega⟩
          have hp : 1 ≤ stN (n, m, v, w, fo, si, st) (s' + 1) := (topF_mem (gT (n, m, v, w, fo, si, st) (sK (n, m, v, w, fo, si, st) (stN (n, m, v, w, fo, si, st) s')) (sB (n, m, v, w, fo, si, st) (stN (n, m, v, w, fo, si, st) s'))) hm.1).1
          obtain ⟨q, hq2⟩ : ∃ q, stN (n, m, v, w, fo, si, st) (s' + 1) = q + 1 := ⟨stN (n, m, v, w, fo, si, st) (s' + 1) - 1, by omega⟩
          rw [hq2, jnK_s, if_pos (by omega)]
      have hk6 : sK (n, m, v, w, fo, si, st) (stN (n, m, v, w, fo, si, st) s) ≤ 6 := by rw [← hsK]; split <;> omega
      have fin : ∀ c3 kk (l4 : Value), frm [53, 59, 61] c1 c3 → c3 53 = mobj (nI n) (nI m) (nI v) (nI si) (nI sg) (nI kk) ru lu → kk = sK (n, m, v, w, fo, si, st) (stN (n, m, v, w, fo, si, st) s) → isI c3 59 7 (sB (n, m, v, w, fo, si, st) (stN (n, m, v, w, fo, si, st) s)) → isI c3 61 7 (fun j => nI (w j)) → rU ro (d + 5) tb_X10_steps R 87 [.ref 53, .int (nI a), .int (nI (stN (n, m, v, w, fo, si, st) s)), .int (nI s), l4] [] (tab c3) := by
        intro c3 kk l4 f3 k53 hkk h59 h61
        subst hkk
        have hL : LD c1 c3 n m v si sg (sK (n, m, v, w, fo, si, st) (stN (n, m, v, w, fo, si, st) s)) w (sB (n, m, v, w, fo, si, st) (stN (n, m, v, w, fo, si, st) s)) := ⟨f3.mono rfl, ⟨_, _, _, k53⟩, ⟨_, _, _, _, _, k53⟩, hsc.1.fr f3 rfl, hsc.2.2.1.fr f3 rfl, h59, h61⟩
        simp only [s_X10_steps_0, s_X10_steps_1, s_X10_steps_2, s_X10_steps_4, s_X10_steps_7, s_X10_steps_10, s_X10_steps_12, s_X10_steps_13, s_X10_steps_14, s_X10_steps_15, s_X10_steps_16, s_X10_steps_18, s_X10_steps_19, s_X10_steps_22, s_X10_steps_23, s_X10_steps_26, s_X10_steps_27, s_X10_steps_31, s_X10_steps_33, s_X10_steps_36, s_X10_steps_37, s_X10_steps_40, s_X10_steps_42, s_X10_steps_43, s_X10_steps_46, s_X10_steps_48, s_X10_steps_49, s_X10_steps_52, s_X10_steps_53, s_X10_steps_56, s_X10_steps_57, s_X10_steps_58, s_X10_steps_61, s_X10_steps_62, s_X10_steps_63, s_X10_steps_66, s_X10_steps_69, s_X10_steps_70, s_X10_steps_71, s_X10_steps_74, s_X10_steps_75, s_X10_steps_78, s_X10_steps_79, s_X10_steps_82, s_X10_steps_83, s_X10_steps_84, s_X10_steps_87, s_X10_steps_88, s_X10_steps_91, s_X10_steps_92, s_X10_steps_95, s_X10_steps_98, s_X10_steps_99, vm_o k53]
        refine sp_X10_bestOf hL.2.2 (hV.vt hk6) fun c4 f4 hM4 => ?_
        have hL4 := hL.go f4 hM4
        simp only [Option.toList_some, Option.toList_none, List.cons_append, List.nil_append, Option.toList, s_X10_steps_0, s_X10_steps_1, s_X10_steps_2, s_X10_steps_4, s_X10_steps_7, s_X10_steps_10, s_X10_steps_12, s_X10_steps_13, s_X10_steps_14, s_X10_steps_15, s_X10_steps_16, s_X10_steps_18, s_X10_steps_19, s_X10_steps_22, s_X10_steps_23, s_X10_steps_26, s_X10_steps_27, s_X10_steps_31, s_X10_steps_33, s_X10_steps_36, s_X10_steps_37, s_X10_steps_40, s_X10_steps_42, s_X10_steps_43, s_X10_steps_46, s_X10_steps_48, s_X10_steps_49, s_X10_steps_52, s_X10_steps_53, s_X10_steps_56, s_X10_steps_57, s_X10_steps_58, s_X10_steps_61, s_X10_steps_62, s_X10_steps_63, s_X10_steps_66, s_X10_steps_69, s_X10_steps_70, s_X10_steps_71, s_X10_steps_74, s_X10_steps_75, s_X10_steps_78, s_X10_steps_79, s_X10_steps_82, s_X10_steps_83, s_X10_steps_84, s_X10_steps_87, s_X10_steps_88, s_X10_steps_91, s_X10_steps_92, s_X10_steps_95, s_X10_steps_98, s_X10_steps_99, nI_add]
        exact ⟨rfl, rfl, ih (s + 1) c4 _ (by omega) (f1.trans hL4.mm) (hL4.ms hM1)⟩
      have e0 : (nI s ≤ 0) ↔ ¬ 1 ≤ s := by rw [sI_le0 (by omega)]; omega
      have lp2 : ∀ rem j c3 val, j + rem = 7 → frm [59, 61] c1 c3 → isI c3 61 7 (fun j => nI (w j)) → isI c3 59 7 val → (∀ i, i < j → val i = sB (n, m, v, w, fo, si, st) (stN (n, m, v, w, fo, si, st) s) i) → rU ro (d + 5) tb_X10_steps R 29 [.ref 53, .int (nI a), .int (nI (stN (n, m, v, w, fo, si, st) s)), .int (nI s), .int (nI j)] [] (tab c3) := by
        intro rem2
        induction rem2 with
        | zero =>
          intro j c3 val hj f3 h61 h59 hv
          have : j = 7 := by omega
          subst this
          have k53 := (f3 53 rfl).trans h53
          rw [s_X10_steps_29]
          simp only [s_X10_steps_0, s_X10_steps_1, s_X10_steps_2, s_X10_steps_4, s_X10_steps_7, s_X10_steps_10, s_X10_steps_12, s_X10_steps_13, s_X10_steps_14, s_X10_steps_15, s_X10_steps_16, s_X10_steps_18, s_X10_steps_19, s_X10_steps_22, s_X10_steps_23, s_X10_steps_26, s_X10_steps_27, s_X10_steps_31, s_X10_steps_33, s_X10_steps_36, s_X10_steps_37, s_X10_steps_40, s_X10_steps_42, s_X10_steps_43, s_X10_steps_46, s_X10_steps_48, s_X10_steps_49, s_X10_steps_52, s_X10_steps_53, s_X10_steps_56, s_X10_steps_57, s_X10_steps_58, s_X10_steps_61, s_X10_steps_62, s_X10_steps_63, s_X10_steps_66, s_X10_steps_69, s_X10_steps_70, s_X10_steps_71, s_X10_steps_74, s_X10_steps_75, s_X10_steps_78, s_X10_steps_79, s_X10_steps_82, s_X10_steps_83, s_X10_steps_84, s_X10_steps_88, s_X10_steps_91, s_X10_steps_92, s_X10_steps_95, s_X10_steps_98, s_X10_steps_99, gm0 k53, e0, sI_sub (show 1 ≤ n by omega), pm11 k53]
          refine ⟨fun _ => ⟨fun h0 => ?_, fun h0 => ?_⟩, fun hc => absurd ((sI_le (by decide) (by decide)).mpr (Nat.le_refl _)) hc⟩
          · have f4 : frm [53] c3 (fup c3 53 (mobj (nI n) (nI m) (nI v) (nI si) (nI sg) (nI (n - 1)) ru lu)) := frm.rf.fup rfl
            exact fin _ (n - 1) _ ((f3.mono rfl).trans (f4.mono rfl)) fup_self (by rw [← hsK, if_neg h0]) ((h59.cg hv).fr f4 rfl) (h61.fr f4 rfl)
          · have f4 : frm [53] c3 (fup c3 53 (mobj (nI n) (nI m) (nI v) (nI si) (nI sg) (nI 0) ru lu)) := frm.rf.fup rfl
            exact fin _ 0 _ ((f3.mono rfl).trans (f4.mono rfl)) fup_self (by rw [← hsK, if_pos (Decidable.not_not.mp h0)]) ((h59.cg hv).fr f4 rfl) (h61.fr f4 rfl)
        | succ rem2 ih2 =>
          intro j c3 val hj f3 h61 h59 hv
          have k53 := (f3 53 rfl).trans h53
          have hsj := hsB j
          rw [s_X10_steps_29]
          simp only [s_X10_steps_0, s_X10_steps_1, s_X10_steps_2, s_X10_steps_4, s_X10_steps_7, s_X10_steps_10, s_X10_steps_12, s_X10_steps_13, s_X10_steps_14, s_X10_steps_15, s_X10_steps_16, s_X10_steps_18, s_X10_steps_19, s_X10_steps_22, s_X10_steps_23, s_X10_steps_26, s_X10_steps_27, s_X10_steps_31, s_X10_steps_33, s_X10_steps_36, s_X10_steps_37, s_X10_steps_40, s_X10_steps_42, s_X10_steps_43, s_X10_steps_46, s_X10_steps_48, s_X10_steps_49, s_X10_steps_52, s_X10_steps_53, s_X10_steps_56, s_X10_steps_57, s_X10_steps_58, s_X10_steps_61, s_X10_steps_62, s_X10_steps_63, s_X10_steps_66, s_X10_steps_69, s_X10_steps_70, s_X10_steps_71, s_X10_steps_74, s_X10_steps_75, s_X10_steps_78, s_X10_steps_79, s_X10_steps_82, s_X10_steps_83, s_X10_steps_84, s_X10_steps_88, s_X10_steps_91, s_X10_steps_92, s_X10_steps_95, s_X10_steps_98, s_X10_steps_99, gm0 k53, gm10 k53, e0, sI_sub (show 1 ≤ n by omega), sI_le (show 7 < 100000 by decide) (show j < 100000 by omega), sI_eq (show j < 100000 by omega) (show stN (n, m, v, w, fo, si, st) s < 100000 by omega)]
          have nx : ∀ e : Int32, e = sB (n, m, v, w, fo, si, st) (stN (n, m, v, w, fo, si, st) s) j → rSi (tab c3) 59 (nI j) e (fun h => rcl [Value.ref 53, .int (nI a), .int (nI (stN (n, m, v, w, fo, si, st) s)), .int (nI s), .int (nI j)] 4 = true ∧ rU ro (d + 5) tb_X10_steps R 29 [.ref 53, .int (nI a), .int (nI (stN (n, m, v, w, fo, si, st) s)), .int (nI s), .int (nI j + nI 1)] [] h) := by
            intro e he
            refine si_i h59 (by decide) (by omega) (by decide) fun c4 f4 hi4 => ⟨rfl, ?_⟩
            rw [nI_add]
            exact ih2 (j + 1) c4 _ (by omega) (f3.trans (f4.mono rfl)) (h61.fr f4 rfl) hi4 (fillI hv he)
          refine ⟨fun hc => absurd hc (by omega), fun _ => ⟨fun h0 => nx _ (by rw [← hsj, if_neg (fun q => h0 q.1)]), fun h0 => ⟨fun hj => nx _ (by rw [← hsj, if_pos ⟨Decidable.not_not.mp h0, hj⟩]), fun hj => nx _ (by rw [← hsj, if_neg (fun q => hj q.2)])⟩⟩⟩
      obtain ⟨g, hg⟩ := hsc.2.1
      exact lp2 7 0 c2 g (by omega) (f2.mono rfl) hi2 ⟨g, (f2 59 rfl).trans hg, fun _ _ => rfl⟩ (fun j hj => absurd hj (by omega))
  exact lp a 0 c _ (by omega) frm.rf hM
theorem sp_X10_waysOfNobody (hV : VS (n, m, v, w, fo, si, st)) (hM : MS c (n, m, v, w, fo, si, st) sg pd im) (hk : ∀ c', LD c c' n m v si sg (oK (n, m, v, w, fo, si, st) (- nI 6)) w (oB (n, m, v, w, fo, si, st) (- nI 6)) → R (some (.long (lN (n0T (n, m, v, w, fo, si, st))))) (tab c')) : rM ro (d + 4) 135 0 0 [.ref 53] (tab c) R := by
  obtain ⟨⟨⟨fr, ru, lu, h53⟩, h54, h55, h56, h57⟩, hsc, him⟩ := id hM
  have hn := hV.1
  have hm := hV.2.1
  have hko := oK_le (T := (n, m, v, w, fo, si, st)) (x := - nI 6) hn.2
  have hvt := hV.vt hko
  rw [en_X10_waysOfNobody]
  simp only [s_X10_waysOfNobody_0, s_X10_waysOfNobody_1, s_X10_waysOfNobody_2, s_X10_waysOfNobody_3, s_X10_waysOfNobody_5, s_X10_waysOfNobody_8, s_X10_waysOfNobody_9, s_X10_waysOfNobody_12, s_X10_waysOfNobody_13, s_X10_waysOfNobody_15, s_X10_waysOfNobody_18, s_X10_waysOfNobody_19, s_X10_waysOfNobody_22, s_X10_waysOfNobody_23, s_X10_waysOfNobody_24, s_X10_waysOfNobody_25, s_X10_waysOfNobody_28, s_X10_waysOfNobody_31, s_X10_waysOfNobody_34, s_X10_waysOfNobody_35, s_X10_waysOfNobody_38, s_X10_waysOfNobody_41, s_X10_waysOfNobody_42, s_X10_waysOfNobody_43, s_X10_waysOfNobody_44, s_X10_waysOfNobody_45, s_X10_waysOfNobody_48, s_X10_waysOfNobody_49, s_X10_waysOfNobody_52, s_X10_waysOfNobody_53, vm_o h53]
  refine ⟨rfl, ml_lay hV hM fun c1 hL => ?_⟩
  obtain ⟨⟨_, _, _, _, _, e53⟩, h58, h60, h59, h61⟩ := id hL.2.2
  simp only [Option.toList_some, Option.toList_none, List.cons_append, List.nil_append, Option.toList, s_X10_waysOfNobody_0, s_X10_waysOfNobody_1, s_X10_waysOfNobody_2, s_X10_waysOfNobody_3, s_X10_waysOfNobody_5, s_X10_waysOfNobody_8, s_X10_waysOfNobody_9, s_X10_waysOfNobody_12, s_X10_waysOfNobody_13, s_X10_waysOfNobody_15, s_X10_waysOfNobody_18, s_X10_waysOfNobody_19, s_X10_waysOfNobody_22, s_X10_waysOfNobody_23, s_X10_waysOfNobody_24, s_X10_waysOfNobody_25, s_X10_waysOfNobody_28, s_X10_waysOfNobody_31, s_X10_waysOfNobody_34, s_X10_waysOfNobody_35, s_X10_waysOfNobody_38, s_X10_waysOfNobody_41, s_X10_waysOfNobody_42, s_X10_waysOfNobody_43, s_X10_waysOfNobody_44, s_X10_waysOfNobody_45, s_X10_waysOfNobody_48, s_X10_waysOfNobody_49, s_X10_waysOfNobody_52, s_X10_waysOfNobody_53, vm_o e53]
  refine sp_X10_beginFill e53 h60 fun c2 f2 hi2 => ?_
  simp only [Option.toList_some, Option.toList_none, List.cons_append, List.nil_append, Option.toList, s_X10_waysOfNobody_0, s_X10_waysOfNobody_1, s_X10_waysOfNobody_2, s_X10_waysOfNobody_3, s_X10_waysOfNobody_5, s_X10_waysOfNobody_8, s_X10_waysOfNobody_9, s_X10_waysOfNobody_12, s_X10_waysOfNobody_13, s_X10_waysOfNobody_15, s_X10_waysOfNobody_18, s_X10_waysOfNobody_19, s_X10_waysOfNobody_22, s_X10_waysOfNobody_23, s_X10_waysOfNobody_24, s_X10_waysOfNobody_25, s_X10_waysOfNobody_28, s_X10_waysOfNobody_31, s_X10_waysOfNobody_34, s_X10_waysOfNobody_35, s_X10_waysOfNobody_38, s_X10_waysOfNobody_41, s_X10_waysOfNobody_42, s_X10_waysOfNobody_43, s_X10_waysOfNobody_44, s_X10_waysOfNobody_45, s_X10_waysOfNobody_48, s_X10_waysOfNobody_49, s_X10_waysOfNobody_52, s_X10_waysOfNobody_53]
  refine ⟨rfl, ?_⟩
  refine fill_ind (c := c1) hm hko (fun l => if winF v m (ctF (oB (n, m, v, w, fo, si, st) (- nI 6)) l) = 0 then 1 * wyF w (fll l) m 1 (oK (n, m, v, w, fo, si, st) (- nI 6)) else 0) (fun c2 s => rU ro (d + 3) tb_X10_waysOfNobody R 14 [.ref 53, .long (lN s), .null, .int (nI 1)] [] (tab c2)) ?_ c2 (f2.mono rfl) (h58.fr f2 rfl) hi2
  intro a s c3 hok f3 t58 t60 ⟨hend, hnext⟩
  have hfl := fll_lt hok hko
  simp only [okL, Bool.and_eq_true, beq_iff_eq] at hok
  have k53 := (f3 53 rfl).trans e53
  show rU ro (d + 3) tb_X10_waysOfNobody R 14 [.ref 53, .long (lN s), .null, .int (nI 1)] [] (tab c3)
  rw [s_X10_waysOfNobody_14]
  simp only [s_X10_waysOfNobody_0, s_X10_waysOfNobody_1, s_X10_waysOfNobody_2, s_X10_waysOfNobody_3, s_X10_waysOfNobody_5, s_X10_waysOfNobody_8, s_X10_waysOfNobody_9, s_X10_waysOfNobody_12, s_X10_waysOfNobody_13, s_X10_waysOfNobody_15, s_X10_waysOfNobody_18, s_X10_waysOfNobody_19, s_X10_waysOfNobody_22, s_X10_waysOfNobody_23, s_X10_waysOfNobody_24, s_X10_waysOfNobody_25, s_X10_waysOfNobody_28, s_X10_waysOfNobody_31, s_X10_waysOfNobody_34, s_X10_waysOfNobody_35, s_X10_waysOfNobody_38, s_X10_waysOfNobody_41, s_X10_waysOfNobody_42, s_X10_waysOfNobody_43, s_X10_waysOfNobody_44, s_X10_waysOfNobody_45, s_X10_waysOfNobody_48, s_X10_waysOfNobody_49, s_X10_waysOfNobody_52, s_X10_waysOfNobody_53, vm_o k53]
  refine ⟨fun q => absurd q (by decide), fun _ => sp_X10_both k53 t58 (h59.fr f3 rfl) t60 fun c4 f4 hi4 => ?_⟩
  have g4 : frm [58, 60] c1 c4 := f3.trans (f4.mono rfl)
  have k53 := (f4 53 rfl).trans k53
  simp only [Option.toList_some, Option.toList_none, List.cons_append, List.nil_append, Option.toList, s_X10_waysOfNobody_0, s_X10_waysOfNobody_1, s_X10_waysOfNobody_2, s_X10_waysOfNobody_3, s_X10_waysOfNobody_5, s_X10_waysOfNobody_8, s_X10_waysOfNobody_9, s_X10_waysOfNobody_12, s_X10_waysOfNobody_13, s_X10_waysOfNobody_15, s_X10_waysOfNobody_18, s_X10_waysOfNobody_19, s_X10_waysOfNobody_22, s_X10_waysOfNobody_23, s_X10_waysOfNobody_24, s_X10_waysOfNobody_25, s_X10_waysOfNobody_28, s_X10_waysOfNobody_31, s_X10_waysOfNobody_34, s_X10_waysOfNobody_35, s_X10_waysOfNobody_38, s_X10_waysOfNobody_41, s_X10_waysOfNobody_42, s_X10_waysOfNobody_43, s_X10_waysOfNobody_44, s_X10_waysOfNobody_45, s_X10_waysOfNobody_48, s_X10_waysOfNobody_49, s_X10_waysOfNobody_52, s_X10_waysOfNobody_53, gm9 k53, vm_o k53]
  refine sp_X10_winner' k53 hi4 (by decide) hm.2 hV.2.2.1 ?_
  have hwq : winF v m (fun j => oB (n, m, v, w, fo, si, st) (- nI 6) j + nI (fll a j)) = winF v m (ctF (oB (n, m, v, w, fo, si, st) (- nI 6)) a) := rfl
  have fin : ∀ e : Nat, e = (if winF v m (ctF (oB (n, m, v, w, fo, si, st) (- nI 6)) a) = 0 then 1 * wyF w (fll a) m 1 (oK (n, m, v, w, fo, si, st) (- nI 6)) else 0) → rU ro (d + 3) tb_X10_waysOfNobody R 42 [.ref 53, .long (lN s), .null, .int (nI 1)] [.long (lN e), .long (lN s)] (tab c4) := by
    intro e he
    simp only [s_X10_waysOfNobody_0, s_X10_waysOfNobody_1, s_X10_waysOfNobody_2, s_X10_waysOfNobody_3, s_X10_waysOfNobody_5, s_X10_waysOfNobody_8, s_X10_waysOfNobody_9, s_X10_waysOfNobody_12, s_X10_waysOfNobody_13, s_X10_waysOfNobody_15, s_X10_waysOfNobody_18, s_X10_waysOfNobody_19, s_X10_waysOfNobody_22, s_X10_waysOfNobody_23, s_X10_waysOfNobody_24, s_X10_waysOfNobody_25, s_X10_waysOfNobody_28, s_X10_waysOfNobody_31, s_X10_waysOfNobody_34, s_X10_waysOfNobody_35, s_X10_waysOfNobody_38, s_X10_waysOfNobody_41, s_X10_waysOfNobody_42, s_X10_waysOfNobody_43, s_X10_waysOfNobody_44, s_X10_waysOfNobody_45, s_X10_waysOfNobody_48, s_X10_waysOfNobody_49, s_X10_waysOfNobody_52, s_X10_waysOfNobody_53, vm_o k53, lN_add]
    refine ⟨rfl, sp_X10_nextFill k53 hm (t60.fr f4 rfl) (fun j _ => by have := hfl j; omega) (fun h0 => ?_) (fun h0 c5 f5 hi5 => ?_)⟩
    · simp only [Option.toList_some, Option.toList_none, List.cons_append, List.nil_append, Option.toList, s_X10_waysOfNobody_0, s_X10_waysOfNobody_1, s_X10_waysOfNobody_2, s_X10_waysOfNobody_3, s_X10_waysOfNobody_5, s_X10_waysOfNobody_8, s_X10_waysOfNobody_9, s_X10_waysOfNobody_12, s_X10_waysOfNobody_13, s_X10_waysOfNobody_15, s_X10_waysOfNobody_18, s_X10_waysOfNobody_19, s_X10_waysOfNobody_22, s_X10_waysOfNobody_23, s_X10_waysOfNobody_24, s_X10_waysOfNobody_25, s_X10_waysOfNobody_28, s_X10_waysOfNobody_31, s_X10_waysOfNobody_34, s_X10_waysOfNobody_35, s_X10_waysOfNobody_38, s_X10_waysOfNobody_41, s_X10_waysOfNobody_42, s_X10_waysOfNobody_43, s_X10_waysOfNobody_44, s_X10_waysOfNobody_45, s_X10_waysOfNobody_48, s_X10_waysOfNobody_49, s_X10_waysOfNobody_52, s_X10_waysOfNobody_53]
      refine ⟨rfl, ?_⟩
      rw [s_X10_waysOfNobody_14]
      simp only [s_X10_waysOfNobody_0, s_X10_waysOfNobody_1, s_X10_waysOfNobody_2, s_X10_waysOfNobody_3, s_X10_waysOfNobody_5, s_X10_waysOfNobody_8, s_X10_waysOfNobody_9, s_X10_waysOfNobody_12, s_X10_waysOfNobody_13, s_X10_waysOfNobody_15, s_X10_waysOfNobody_18, s_X10_waysOfNobody_19, s_X10_waysOfNobody_22, s_X10_waysOfNobody_23, s_X10_waysOfNobody_24, s_X10_waysOfNobody_25, s_X10_waysOfNobody_28, s_X10_waysOfNobody_31, s_X10_waysOfNobody_34, s_X10_waysOfNobody_35, s_X10_waysOfNobody_38, s_X10_waysOfNobody_41, s_X10_waysOfNobody_42, s_X10_waysOfNobody_43, s_X10_waysOfNobody_44, s_X10_waysOfNobody_45, s_X10_waysOfNobody_48, s_X10_waysOfNobody_49, s_X10_waysOfNobody_52, s_X10_waysOfNobody_53]
      refine ⟨fun _ => ?_, fun q => absurd nI_0 q⟩
      have h1 := hend h0
      rw [← he, tl_sum hm hko, Nat.one_mul] at h1
      rw [h1]
      have gg : frm [58, 59, 60] c1 c4 := g4.mono rfl
      exact hk c4 (hL.go gg ⟨⟨_, _, _, _, _, k53⟩, hi4.ty, (t60.fr f4 rfl).ty, h59.fr g4 rfl, h61.fr g4 rfl⟩)
    · simp only [Option.toList_some, Option.toList_none, List.cons_append, List.nil_append, Option.toList, s_X10_waysOfNobody_0, s_X10_waysOfNobody_1, s_X10_waysOfNobody_2, s_X10_waysOfNobody_3, s_X10_waysOfNobody_5, s_X10_waysOfNobody_8, s_X10_waysOfNobody_9, s_X10_waysOfNobody_12, s_X10_waysOfNobody_13, s_X10_waysOfNobody_15, s_X10_waysOfNobody_18, s_X10_waysOfNobody_19, s_X10_waysOfNobody_22, s_X10_waysOfNobody_23, s_X10_waysOfNobody_24, s_X10_waysOfNobody_25, s_X10_waysOfNobody_28, s_X10_waysOfNobody_31, s_X10_waysOfNobody_34, s_X10_waysOfNobody_35, s_X10_waysOfNobody_38, s_X10_waysOfNobody_41, s_X10_waysOfNobody_42, s_X10_waysOfNobody_43, s_X10_waysOfNobody_44, s_X10_waysOfNobody_45, s_X10_waysOfNobody_48, s_X10_waysOfNobody_49, s_X10_waysOfNobody_52, s_X10_waysOfNobody_53]
      refine ⟨rfl, ?_⟩
      have := hnext h0 c5 (g4.trans (f5.mono rfl)) (hi4.ty.fr f5 rfl) hi5
      rw [← he] at this
      exact this
  simp only [Option.toList_some, Option.toList_none, List.cons_append, List.nil_append, Option.toList, s_X10_waysOfNobody_0, s_X10_waysOfNobody_1, s_X10_waysOfNobody_2, s_X10_waysOfNobody_3, s_X10_waysOfNobody_5, s_X10_waysOfNobody_8, s_X10_waysOfNobody_9, s_X10_waysOfNobody_12, s_X10_waysOfNobody_13, s_X10_waysOfNobody_15, s_X10_waysOfNobody_18, s_X10_waysOfNobody_19, s_X10_waysOfNobody_22, s_X10_waysOfNobody_23, s_X10_waysOfNobody_24, s_X10_waysOfNobody_25, s_X10_waysOfNobody_28, s_X10_waysOfNobody_31, s_X10_waysOfNobody_34, s_X10_waysOfNobody_35, s_X10_waysOfNobody_38, s_X10_waysOfNobody_41, s_X10_waysOfNobody_43, s_X10_waysOfNobody_44, s_X10_waysOfNobody_45, s_X10_waysOfNobody_48, s_X10_waysOfNobody_49, s_X10_waysOfNobody_52, s_X10_waysOfNobody_53, vm_o k53]
  have hpos : (0 ≤ wrM (winF v m (fun j => oB (n, m, v, w, fo, si, st) (- nI 6) j + nI (fll a j)))) ↔ ¬ winF v m (ctF (oB (n, m, v, w, fo, si, st) (- nI 6)) a) = 0 := by
    rw [hwq, ← wrM_neg (Nat.le_trans winF_le hm.2), Int32.not_lt]
  rw [hpos]
  refine ⟨fun q => fin 0 (by rw [if_neg q]), fun q => ?_⟩
  have q := Decidable.not_not.mp q
  refine sp_X10_waysOfFill k53 hm.2 hko (t60.fr f4 rfl) (h61.fr g4 rfl) hvt.2.2.2.1 hok.2 ?_
  simp only [Option.toList_some, Option.toList_none, List.cons_append, List.nil_append, Option.toList, s_X10_waysOfNobody_0, s_X10_waysOfNobody_1, s_X10_waysOfNobody_2, s_X10_waysOfNobody_3, s_X10_waysOfNobody_5, s_X10_waysOfNobody_8, s_X10_waysOfNobody_9, s_X10_waysOfNobody_12, s_X10_waysOfNobody_13, s_X10_waysOfNobody_15, s_X10_waysOfNobody_18, s_X10_waysOfNobody_19, s_X10_waysOfNobody_22, s_X10_waysOfNobody_23, s_X10_waysOfNobody_24, s_X10_waysOfNobody_25, s_X10_waysOfNobody_28, s_X10_waysOfNobody_31, s_X10_waysOfNobody_34, s_X10_waysOfNobody_35, s_X10_waysOfNobody_38, s_X10_waysOfNobody_41, s_X10_waysOfNobody_43, s_X10_waysOfNobody_44, s_X10_waysOfNobody_45, s_X10_waysOfNobody_48, s_X10_waysOfNobody_49, s_X10_waysOfNobody_52, s_X10_waysOfNobody_53]
  exact fin _ (by rw [if_pos q, Nat.one_mul])
theorem ml_nobody (hV : VS (n, m, v, w, fo, si, st)) (hM : MS c (n, m, v, w, fo, si, st) sg pd im) (hk : ∀ c', frm MM c c' → MS c' (n, m, v, w, fo, si, st) sg pd im → R (some (.long (nobA (n, m, v, w, fo, si, st) z))) (tab c')) : rM ro (d + 6) 136 0 0 [.ref 53, .int z] (tab c) R := by
  obtain ⟨⟨⟨fr, ru, lu, h53⟩, h54, h55, h56, h57⟩, hsc, him⟩ := id hM
  have hn := hV.1
  have hm := hV.2.1
  have hW := hV.2.2.2.2.2.2.1
  have hko := oK_le (T := (n, m, v, w, fo, si, st)) (x := - nI 6) hn.2
  have hvt := hV.vt hko
  rw [en_X10_nobody]
  simp only [s_X10_nobody_0, s_X10_nobody_1, s_X10_nobody_2, s_X10_nobody_3, s_X10_nobody_6, s_X10_nobody_9, s_X10_nobody_12, s_X10_nobody_13, s_X10_nobody_14, s_X10_nobody_17, s_X10_nobody_18, s_X10_nobody_19, s_X10_nobody_20, s_X10_nobody_23, s_X10_nobody_26, s_X10_nobody_27, s_X10_nobody_28, s_X10_nobody_31]
  refine sp_in2 ?_
  simp only [Option.toList_some, Option.toList_none, List.cons_append, List.nil_append, Option.toList, s_X10_nobody_0, s_X10_nobody_1, s_X10_nobody_2, s_X10_nobody_3, s_X10_nobody_6, s_X10_nobody_9, s_X10_nobody_12, s_X10_nobody_13, s_X10_nobody_14, s_X10_nobody_17, s_X10_nobody_18, s_X10_nobody_19, s_X10_nobody_20, s_X10_nobody_23, s_X10_nobody_26, s_X10_nobody_27, s_X10_nobody_28, s_X10_nobody_31, b2_0, vm_o h53]
  refine ⟨fun hz => ?_, fun hz => sp_X10_waysOfNobody hV hM fun c1 hL => ?_⟩
  · have := hk c frm.rf hM
    rw [nobA, if_neg hz] at this
    exact this
  have hz := Decidable.not_not.mp hz
  obtain ⟨_, _, _, e53⟩ := id hL.2.1
  simp only [Option.toList_some, Option.toList_none, List.cons_append, List.nil_append, Option.toList, s_X10_nobody_0, s_X10_nobody_1, s_X10_nobody_2, s_X10_nobody_3, s_X10_nobody_6, s_X10_nobody_9, s_X10_nobody_12, s_X10_nobody_13, s_X10_nobody_14, s_X10_nobody_17, s_X10_nobody_18, s_X10_nobody_19, s_X10_nobody_20, s_X10_nobody_23, s_X10_nobody_26, s_X10_nobody_27, s_X10_nobody_28, s_X10_nobody_31, vm_o e53]
  refine ⟨rfl, sp_X10_lowOf hL.2.2 hvt ?_⟩
  have hl := lw2 hW (show oK (n, m, v, w, fo, si, st) (- nI 6) ≤ 7 by omega)
  simp only [Option.toList_some, Option.toList_none, List.cons_append, List.nil_append, Option.toList, s_X10_nobody_0, s_X10_nobody_1, s_X10_nobody_2, s_X10_nobody_3, s_X10_nobody_6, s_X10_nobody_9, s_X10_nobody_12, s_X10_nobody_13, s_X10_nobody_14, s_X10_nobody_17, s_X10_nobody_18, s_X10_nobody_19, s_X10_nobody_20, s_X10_nobody_23, s_X10_nobody_26, s_X10_nobody_27, s_X10_nobody_28, s_X10_nobody_31, lN_div hl.1 (show 2 < 2 ^ 62 by decide), Nat.mul_div_cancel_left _ (show 0 < 2 by decide)]
  refine ⟨by decide, ?_⟩
  have h0 : n0T (n, m, v, w, fo, si, st) ≤ smF w m 1 ^ oK (n, m, v, w, fo, si, st) (- nI 6) := tl_le
  refine sp_X10_term (by omega) (by omega) hl.2.2.2 ?_
  simp only [Option.toList_some, Option.toList_none, List.cons_append, List.nil_append, Option.toList, s_X10_nobody_0, s_X10_nobody_1, s_X10_nobody_2, s_X10_nobody_3, s_X10_nobody_6, s_X10_nobody_9, s_X10_nobody_12, s_X10_nobody_13, s_X10_nobody_14, s_X10_nobody_17, s_X10_nobody_18, s_X10_nobody_19, s_X10_nobody_20, s_X10_nobody_23, s_X10_nobody_26, s_X10_nobody_27, s_X10_nobody_28, s_X10_nobody_31]
  have := hk c1 hL.mm (hL.ms hM)
  rw [nobA, if_pos hz] at this
  exact this
theorem ml_prize (hV : VS (n, m, v, w, fo, si, st)) (hM : MS c (n, m, v, w, fo, si, st) sg pd im) (hk : ∀ c', frm MM c c' → MS c' (n, m, v, w, fo, si, st) sg pd im → R (some (.long (priA (n, m, v, w, fo, si, st) x y z))) (tab c')) : rM ro (d + 6) 155 0 0 [.ref 53, .int x, .int y, .int z] (tab c) R := by
  obtain ⟨⟨⟨fr, ru, lu, h53⟩, h54, h55, h56, h57⟩, hsc, him⟩ := id hM
  have hn := hV.1
  have hm := hV.2.1
  have hW := hV.2.2.2.2.2.2.1
  have hko := oK_le (T := (n, m, v, w, fo, si, st)) (x := - nI 6) hn.2
  have hvt := hV.vt hko
  have no : ¬ (inR 1 999 x ∧ inR 0 99 y ∧ inR 0 1 z) → R (some (.long L2)) (tab c) := fun q => by
    have := hk c frm.rf hM
    rw [priA, if_neg q] at this
    exact this
  rw [en_X10_prize]
  simp only [s_X10_prize_0, s_X10_prize_1, s_X10_prize_2, s_X10_prize_5, s_X10_prize_8, s_X10_prize_11, s_X10_prize_12, s_X10_prize_13, s_X10_prize_15, s_X10_prize_18, s_X10_prize_21, s_X10_prize_22, s_X10_prize_23, s_X10_prize_24, s_X10_prize_27, s_X10_prize_30, s_X10_prize_33, s_X10_prize_34, s_X10_prize_35, s_X10_prize_38, s_X10_prize_40, s_X10_prize_41, s_X10_prize_44, s_X10_prize_47, s_X10_prize_48, s_X10_prize_50, s_X10_prize_52, s_X10_prize_54, s_X10_prize_55, s_X10_prize_58, s_X10_prize_61, s_X10_prize_62, s_X10_prize_63, s_X10_prize_66, s_X10_prize_67, s_X10_prize_68, s_X10_prize_70, s_X10_prize_71, s_X10_prize_73, s_X10_prize_75, s_X10_prize_76, s_X10_prize_77, s_X10_prize_80, s_X10_prize_83, s_X10_prize_84, s_X10_prize_85, s_X10_prize_87, s_X10_prize_88, s_X10_prize_89, s_X10_prize_90, s_X10_prize_91, s_X10_prize_93, s_X10_prize_95, s_X10_prize_96, s_X10_prize_99, s_X10_prize_100, s_X10_prize_101, s_X10_prize_104]
  refine sp_in2 ?_
  simp only [Option.toList_some, Option.toList_none, List.cons_append, List.nil_append, Option.toList, s_X10_prize_0, s_X10_prize_1, s_X10_prize_2, s_X10_prize_5, s_X10_prize_8, s_X10_prize_11, s_X10_prize_12, s_X10_prize_13, s_X10_prize_15, s_X10_prize_18, s_X10_prize_21, s_X10_prize_22, s_X10_prize_23, s_X10_prize_24, s_X10_prize_27, s_X10_prize_30, s_X10_prize_33, s_X10_prize_34, s_X10_prize_35, s_X10_prize_38, s_X10_prize_40, s_X10_prize_41, s_X10_prize_44, s_X10_prize_47, s_X10_prize_48, s_X10_prize_50, s_X10_prize_52, s_X10_prize_54, s_X10_prize_55, s_X10_prize_58, s_X10_prize_61, s_X10_prize_62, s_X10_prize_63, s_X10_prize_66, s_X10_prize_67, s_X10_prize_68, s_X10_prize_70, s_X10_prize_71, s_X10_prize_73, s_X10_prize_75, s_X10_prize_76, s_X10_prize_77, s_X10_prize_80, s_X10_prize_83, s_X10_prize_84, s_X10_prize_85, s_X10_prize_87, s_X10_prize_88, s_X10_prize_89, s_X10_prize_90, s_X10_prize_91, s_X10_prize_93, s_X10_prize_95, s_X10_prize_96, s_X10_prize_99, s_X10_prize_100, s_X10_prize_101, s_X10_prize_104, b2_0]
  refine ⟨fun hx => no (fun q => hx q.1), fun hx => sp_in2 ?_⟩
  simp only [Option.toList_some, Option.toList_none, List.cons_append, List.nil_append, Option.toList, s_X10_prize_0, s_X10_prize_1, s_X10_prize_2, s_X10_prize_5, s_X10_prize_8, s_X10_prize_11, s_X10_prize_12, s_X10_prize_13, s_X10_prize_15, s_X10_prize_18, s_X10_prize_21, s_X10_prize_22, s_X10_prize_23, s_X10_prize_24, s_X10_prize_27, s_X10_prize_30, s_X10_prize_33, s_X10_prize_34, s_X10_prize_35, s_X10_prize_38, s_X10_prize_40, s_X10_prize_41, s_X10_prize_44, s_X10_prize_47, s_X10_prize_48, s_X10_prize_50, s_X10_prize_52, s_X10_prize_54, s_X10_prize_55, s_X10_prize_58, s_X10_prize_61, s_X10_prize_62, s_X10_prize_63, s_X10_prize_66, s_X10_prize_67, s_X10_prize_68, s_X10_prize_70, s_X10_prize_71, s_X10_prize_73, s_X10_prize_75, s_X10_prize_76, s_X10_prize_77, s_X10_prize_80, s_X10_prize_83, s_X10_prize_84, s_X10_prize_85, s_X10_prize_87, s_X10_prize_88, s_X10_prize_89, s_X10_prize_90, s_X10_prize_91, s_X10_prize_93, s_X10_prize_95, s_X10_prize_96, s_X10_prize_99, s_X10_prize_100, s_X10_prize_101, s_X10_prize_104, b2_0]
  refine ⟨fun hy => no (fun q => hy q.2.1), fun hy => sp_in2 ?_⟩
  simp only [Option.toList_some, Option.toList_none, List.cons_append, List.nil_append, Option.toList, s_X10_prize_0, s_X10_prize_1, s_X10_prize_2, s_X10_prize_5, s_X10_prize_8, s_X10_prize_11, s_X10_prize_12, s_X10_prize_13, s_X10_prize_15, s_X10_prize_18, s_X10_prize_21, s_X10_prize_22, s_X10_prize_23, s_X10_prize_24, s_X10_prize_27, s_X10_prize_30, s_X10_prize_33, s_X10_prize_34, s_X10_prize_35, s_X10_prize_38, s_X10_prize_40, s_X10_prize_41, s_X10_prize_44, s_X10_prize_47, s_X10_prize_48, s_X10_prize_50, s_X10_prize_52, s_X10_prize_54, s_X10_prize_55, s_X10_prize_58, s_X10_prize_61, s_X10_prize_62, s_X10_prize_63, s_X10_prize_66, s_X10_prize_67, s_X10_prize_68, s_X10_prize_70, s_X10_prize_71, s_X10_prize_73, s_X10_prize_75, s_X10_prize_76, s_X10_prize_77, s_X10_prize_80, s_X10_prize_83, s_X10_prize_84, s_X10_prize_85, s_X10_prize_87, s_X10_prize_88, s_X10_prize_89, s_X10_prize_90, s_X10_prize_91, s_X10_prize_93, s_X10_prize_95, s_X10_prize_96, s_X10_prize_99, s_X10_prize_100, s_X10_prize_101, s_X10_prize_104, b2_0, vm_o h53]
  refine ⟨fun hz => no (fun q => hz q.2.2), fun hz => sp_X10_waysOfNobody hV hM fun c1 hL => ?_⟩
  have hx := Decidable.not_not.mp hx
  have hy := Decidable.not_not.mp hy
  have hz := Decidable.not_not.mp hz
  have hxyz : inR 1 999 x ∧ inR 0 99 y ∧ inR 0 1 z := ⟨hx, hy, hz⟩
  obtain ⟨_, _, _, e53⟩ := id hL.2.1
  have hfin := hk c1 hL.mm (hL.ms hM)
  rw [priA, if_pos hxyz] at hfin
  obtain ⟨p, hp1, hp2, rfl⟩ := inR_nI hx (by decide) (by decide)
  obtain ⟨q, hq1, hq2, rfl⟩ := inR_nI hy (by decide) (by decide)
  rw [nI_c (show p < 100000 by omega), nI_c (show q < 100000 by omega)] at hfin
  simp only [Option.toList_some, Option.toList_none, List.cons_append, List.nil_append, Option.toList, s_X10_prize_0, s_X10_prize_1, s_X10_prize_2, s_X10_prize_5, s_X10_prize_8, s_X10_prize_11, s_X10_prize_12, s_X10_prize_13, s_X10_prize_15, s_X10_prize_18, s_X10_prize_21, s_X10_prize_22, s_X10_prize_23, s_X10_prize_24, s_X10_prize_27, s_X10_prize_30, s_X10_prize_33, s_X10_prize_34, s_X10_prize_35, s_X10_prize_38, s_X10_prize_40, s_X10_prize_41, s_X10_prize_44, s_X10_prize_47, s_X10_prize_48, s_X10_prize_50, s_X10_prize_52, s_X10_prize_54, s_X10_prize_55, s_X10_prize_58, s_X10_prize_61, s_X10_prize_62, s_X10_prize_63, s_X10_prize_66, s_X10_prize_67, s_X10_prize_68, s_X10_prize_70, s_X10_prize_71, s_X10_prize_73, s_X10_prize_75, s_X10_prize_76, s_X10_prize_77, s_X10_prize_80, s_X10_prize_83, s_X10_prize_84, s_X10_prize_85, s_X10_prize_87, s_X10_prize_88, s_X10_prize_89, s_X10_prize_90, s_X10_prize_91, s_X10_prize_93, s_X10_prize_95, s_X10_prize_96, s_X10_prize_99, s_X10_prize_100, s_X10_prize_101, s_X10_prize_104, vm_o e53]
  refine ⟨rfl, sp_X10_lowOf hL.2.2 hvt ?_⟩
  have hl := lw2 hW (show oK (n, m, v, w, fo, si, st) (- nI 6) ≤ 7 by omega)
  have h0 : n0T (n, m, v, w, fo, si, st) ≤ smF w m 1 ^ oK (n, m, v, w, fo, si, st) (- nI 6) := tl_le
  have hA : smF w m 1 ^ oK (n, m, v, w, fo, si, st) (- nI 6) ≤ 2985984 := pow12 hW.2 hko
  have hwt : wT (n, m, v, w, fo, si, st) = smF w m 1 := rfl
  rw [hwt] at hfin
  obtain ⟨A, hAe⟩ : ∃ A, A = smF w m 1 ^ oK (n, m, v, w, fo, si, st) (- nI 6) := ⟨_, rfl⟩
  rw [← hAe] at hfin h0 hA hl ⊢
  obtain ⟨N, hN⟩ : ∃ N, N = n0T (n, m, v, w, fo, si, st) := ⟨_, rfl⟩
  rw [← hN] at hfin h0 ⊢
  have hq0 : (nI q = 0) ↔ q = 0 := by rw [← nI_0]; exact sI_eq (by omega) (by decide)
  simp only [hq0] at hfin
  simp only [Option.toList_some, Option.toList_none, List.cons_append, List.nil_append, Option.toList, s_X10_prize_0, s_X10_prize_1, s_X10_prize_2, s_X10_prize_5, s_X10_prize_8, s_X10_prize_11, s_X10_prize_12, s_X10_prize_13, s_X10_prize_15, s_X10_prize_18, s_X10_prize_21, s_X10_prize_22, s_X10_prize_23, s_X10_prize_24, s_X10_prize_27, s_X10_prize_30, s_X10_prize_33, s_X10_prize_34, s_X10_prize_35, s_X10_prize_38, s_X10_prize_40, s_X10_prize_41, s_X10_prize_44, s_X10_prize_47, s_X10_prize_48, s_X10_prize_50, s_X10_prize_52, s_X10_prize_54, s_X10_prize_55, s_X10_prize_58, s_X10_prize_61, s_X10_prize_62, s_X10_prize_63, s_X10_prize_66, s_X10_prize_67, s_X10_prize_68, s_X10_prize_70, s_X10_prize_71, s_X10_prize_73, s_X10_prize_75, s_X10_prize_76, s_X10_prize_77, s_X10_prize_80, s_X10_prize_83, s_X10_prize_84, s_X10_prize_85, s_X10_prize_87, s_X10_prize_88, s_X10_prize_89, s_X10_prize_90, s_X10_prize_91, s_X10_prize_93, s_X10_prize_95, s_X10_prize_96, s_X10_prize_99, s_X10_prize_100, s_X10_prize_101, s_X10_prize_104, lN_div hl.1 (show 2 < 2 ^ 62 by decide), Nat.mul_div_cancel_left _ (show 0 < 2 by decide), lceq (show N < 2 ^ 62 by omega) (show A < 2 ^ 62 by omega), hq0, nI_l (show p < 2 ^ 31 by omega), nI_l (show q < 2 ^ 31 by omega), lN_mul, lN_sub h0]
  have hpA : p * A ≤ 999 * 2985984 := Nat.mul_le_mul hp2 hA
  refine ⟨by decide, rfl, fun he => ?_, fun he => ⟨fun h1 => ?_, fun h1 => ?_⟩⟩
  · rw [if_pos he] at hfin
    exact hfin
  · rw [if_neg he, if_pos h1] at hfin
    refine sp_X10_term (by omega) (by omega) (by omega) ?_
    simp only [Option.toList_some, Option.toList_none, List.cons_append, List.nil_append, Option.toList, s_X10_prize_0, s_X10_prize_1, s_X10_prize_2, s_X10_prize_5, s_X10_prize_8, s_X10_prize_11, s_X10_prize_12, s_X10_prize_13, s_X10_prize_15, s_X10_prize_18, s_X10_prize_21, s_X10_prize_22, s_X10_prize_23, s_X10_prize_24, s_X10_prize_27, s_X10_prize_30, s_X10_prize_33, s_X10_prize_34, s_X10_prize_35, s_X10_prize_38, s_X10_prize_40, s_X10_prize_41, s_X10_prize_44, s_X10_prize_47, s_X10_prize_48, s_X10_prize_50, s_X10_prize_52, s_X10_prize_54, s_X10_prize_55, s_X10_prize_58, s_X10_prize_61, s_X10_prize_62, s_X10_prize_63, s_X10_prize_66, s_X10_prize_67, s_X10_prize_68, s_X10_prize_70, s_X10_prize_71, s_X10_prize_73, s_X10_prize_75, s_X10_prize_76, s_X10_prize_77, s_X10_prize_80, s_X10_prize_83, s_X10_prize_84, s_X10_prize_85, s_X10_prize_87, s_X10_prize_88, s_X10_prize_89, s_X10_prize_90, s_X10_prize_91, s_X10_prize_93, s_X10_prize_95, s_X10_prize_96, s_X10_prize_99, s_X10_prize_100, s_X10_prize_101, s_X10_prize_104]
    exact hfin
  · rw [if_neg he, if_neg h1] at hfin
    have e1 : p * A * q = q * p * A := by rw [Nat.mul_comm, Nat.mul_assoc]
    have h3 : p * A * q ≤ 999 * 2985984 * 99 := Nat.mul_le_mul hpA hq2
    refine sp_X10_term (by omega) (by omega) (by omega) ?_
    simp only [Option.toList_some, Option.toList_none, List.cons_append, List.nil_append, Option.toList, s_X10_prize_0, s_X10_prize_1, s_X10_prize_2, s_X10_prize_5, s_X10_prize_8, s_X10_prize_11, s_X10_prize_12, s_X10_prize_13, s_X10_prize_15, s_X10_prize_18, s_X10_prize_21, s_X10_prize_22, s_X10_prize_23, s_X10_prize_24, s_X10_prize_27, s_X10_prize_30, s_X10_prize_33, s_X10_prize_34, s_X10_prize_35, s_X10_prize_38, s_X10_prize_40, s_X10_prize_41, s_X10_prize_44, s_X10_prize_47, s_X10_prize_48, s_X10_prize_50, s_X10_prize_52, s_X10_prize_54, s_X10_prize_55, s_X10_prize_58, s_X10_prize_61, s_X10_prize_62, s_X10_prize_63, s_X10_prize_66, s_X10_prize_67, s_X10_prize_68, s_X10_prize_70, s_X10_prize_71, s_X10_prize_73, s_X10_prize_75, s_X10_prize_76, s_X10_prize_77, s_X10_prize_80, s_X10_prize_83, s_X10_prize_84, s_X10_prize_85, s_X10_prize_87, s_X10_prize_88, s_X10_prize_89, s_X10_prize_90, s_X10_prize_91, s_X10_prize_93, s_X10_prize_95, s_X10_prize_96, s_X10_prize_99, s_X10_prize_100, s_X10_prize_101, s_X10_prize_104]
    rw [e1]
    exact hfin
end MO
