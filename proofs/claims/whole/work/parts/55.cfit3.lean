/-! ===== the class: rows that fit, its two calls ===== -/
def bnd (S : FST) (a b : Nat) : FST := (updN S.1 a b, S.2.1, S.2.2)
theorem bnd_bn {S : FST} {a b : Nat} (h : S.1 a = 0 ∨ S.1 a = b) : bnd S a b = bnS S a b := by
  unfold bnd bnS
  have : (decide (S.1 a ≠ 0) && decide (S.1 a ≠ b)) = false := by
    rcases h with h | h <;> simp [h]
  rw [this, Bool.or_false]
theorem bnd_ok {n m a b : Nat} {S : FST} (h : fOK n m S) (ha : a < n) (hb : b ≤ m) : fOK n m (bnd S a b) := (bn_ok h ha hb : fOK n m (bnS S a b))
def pC (T : TS) (c : Nat) : Bool := seeB T (rwC T.2.1 T.1 c) T.2.2.2.2.2.1
def fitN (T : TS) : Nat := suR (T.2.1 ^ T.1) (fun c => if pC T c then 1 else 0)
def fitA (T : TS) (x : Int32) : Int32 := if x = - nI 1 then nI (fitN T) else if inR 0 (T.1 - 1) x then (match fsC (pC T) (T.2.1 ^ T.1) with
  | none => - nI 6
  | some a => nI (rwC T.2.1 T.1 a x.toNatClampNeg)) else - nI 6
def exB (T : TS) (N i y : Nat) : Bool := (fsC (fun c => pC T c && (rwC T.2.1 T.1 c i == y)) N).isSome
def couA (T : TS) (x : Int32) : Int32 := if inR 0 (T.1 - 1) x then orS (exB T (T.2.1 ^ T.1) x.toNatClampNeg) T.2.1 1 (nI 0) else - nI 1
theorem exB_iff {T : TS} {N i y : Nat} : exB T N i y = true ↔ ∃ c, c < N ∧ pC T c = true ∧ rwC T.2.1 T.1 c i = y := by
  unfold exB
  cases h : fsC (fun c => pC T c && (rwC T.2.1 T.1 c i == y)) N with
  | none =>
    have := fsC_no N h
    refine ⟨fun q => absurd q (by simp), fun ⟨c, h1, h2, h3⟩ => ?_⟩
    have := this c h1
    simp [h2, h3] at this
  | some a =>
    obtain ⟨h1, h2, -⟩ := fsC_yes N a h
    refine ⟨fun _ => ⟨a, h1, ?_⟩, fun _ => rfl⟩
    simpa using h2
/-- the first of the numbers from y on that leaves a row -/
def bfQ (T : TS) (S : FST) (i : Nat) : Nat → Nat → FST → FST
  | 0, _, A => A
  | r + 1, y, _ => if 0 < rwN T (bnd S i y) then bnd S i y else bfQ T S i r (y + 1) (bnd S i y)
def bfS (T : TS) (S : FST) : Nat → FST
  | 0 => S
  | i + 1 => if (bfS T S i).1 i = 0 then bfQ T (bfS T S i) i T.2.1 1 (bfS T S i) else bfS T S i
theorem lex {m n c a i : Nat} (hm : 1 ≤ m) (hi : i < n) (hc : c < m ^ n) (ha : a < m ^ n) (he : ∀ j, j < i → rwC m n c j = rwC m n a j) (hl : rwC m n c i < rwC m n a i) : c < a := by
  have pre : ∀ j, j ≤ i → c / m ^ (n - j) = a / m ^ (n - j) := by
    intro j
    induction j with
    | zero => intro _; rw [Nat.sub_zero, Nat.div_eq_of_lt hc, Nat.div_eq_of_lt ha]
    | succ j ih =>
      intro hj
      have h1 := ih (by omega)
      have h2 := he j (by omega)
      unfold rwC at h2
      have e : n - j = (n - 1 - j) + 1 := by omega
      rw [e, Nat.pow_succ, ← Nat.div_div_eq_div_mul, ← Nat.div_div_eq_div_mul] at h1
      rw [show n - (j + 1) = n - 1 - j by omega]
      have k1 := Nat.div_add_mod (c / m ^ (n - 1 - j)) m
      have k2 := Nat.div_add_mod (a / m ^ (n - 1 - j)) m
      rw [h1] at k1
      omega
  have h1 := pre i (Nat.le_refl _)
  unfold rwC at hl
  have e : n - i = (n - 1 - i) + 1 := by omega
  rw [e, Nat.pow_succ, ← Nat.div_div_eq_div_mul, ← Nat.div_div_eq_div_mul] at h1
  have k1 := Nat.div_add_mod (c / m ^ (n - 1 - i)) m
  have k2 := Nat.div_add_mod (a / m ^ (n - 1 - i)) m
  rw [h1] at k1
  have h3 : c / m ^ (n - 1 - i) < a / m ^ (n - 1 - i) := by omega
  rcases Nat.lt_or_ge c a with q | q
  · exact q
  · exact absurd (Nat.div_le_div_right (c := m ^ (n - 1 - i)) q) (by omega)
theorem bfQ_find {T : TS} {S : FST} {i y0 : Nat} (hy : 0 < rwN T (bnd S i y0)) (hno : ∀ y, 1 ≤ y → y < y0 → ¬ 0 < rwN T (bnd S i y)) : ∀ r y A, 1 ≤ y → y ≤ y0 → y0 < y + r → bfQ T S i r y A = bnd S i y0
  | 0, y, A, h1, h2, h3 => by omega
  | r + 1, y, A, h1, h2, h3 => by
    rw [bfQ]
    by_cases e : y = y0
    · subst e; rw [if_pos hy]
    · rw [if_neg (hno y h1 (by omega))]
      exact bfQ_find hy hno r (y + 1) _ (by omega) (by omega) (by omega)
theorem bfS_spec {T : TS} {S : FST} {a : Nat} (hm : 1 ≤ T.2.1 ∧ T.2.1 ≤ 6) (hS : fOK T.1 T.2.1 S) (ha : a < T.2.1 ^ T.1) (hpa : FP T S (rwC T.2.1 T.1 a)) (hmin : ∀ c, c < a → ¬ FP T S (rwC T.2.1 T.1 c)) : ∀ i, i ≤ T.1 → fOK T.1 T.2.1 (bfS T S i) ∧ (∀ j, j < i → (bfS T S i).1 j = rwC T.2.1 T.1 a j) ∧ (∀ s, FP T (bfS T S i) s ↔ (FP T S s ∧ ∀ j, j < i → s j = rwC T.2.1 T.1 a j))
  | 0, _ => ⟨hS, fun j hj => absurd hj (by omega), fun s => ⟨fun h => ⟨h, fun j hj => absurd hj (by omega)⟩, fun h => h.1⟩⟩
  | i + 1, hi => by
    obtain ⟨ih1, ih2, ih3⟩ := bfS_spec hm hS ha hpa hmin i (by omega)
    have hya := rwC_le (m := T.2.1) (r := T.1) (c := a) (j := i) hm.1
    rw [bfS]
    by_cases h0 : (bfS T S i).1 i = 0
    · rw [if_pos h0]
      have key : ∀ y, 1 ≤ y → ∀ s, FP T (bnd (bfS T S i) i y) s ↔ (FP T S s ∧ (∀ j, j < i → s j = rwC T.2.1 T.1 a j) ∧ s i = y) := by
        intro y hy s
        rw [bnd_bn (Or.inl h0), bn_iff (by omega) hy, ih3 s, and_assoc]
      have hpos : 0 < rwN T (bnd (bfS T S i) i (rwC T.2.1 T.1 a i)) := (rwN_pos hm (bnd_ok ih1 (by omega) hya.2).1).mpr ⟨a, ha, (key _ hya.1 _).mpr ⟨hpa, fun _ _ => rfl, rfl⟩⟩
      have hno : ∀ y, 1 ≤ y → y < rwC T.2.1 T.1 a i → ¬ 0 < rwN T (bnd (bfS T S i) i y) := by
        intro y h1 h2 hp
        obtain ⟨c, hc, hF⟩ := (rwN_pos hm (bnd_ok ih1 (by omega) (by omega)).1).mp hp
        obtain ⟨k1, k2, k3⟩ := (key y h1 _).mp hF
        exact hmin c (lex hm.1 (by omega) hc ha k2 (by omega)) k1
      rw [bfQ_find hpos hno T.2.1 1 _ (Nat.le_refl _) hya.1 (by omega)]
      refine ⟨bnd_ok ih1 (by omega) hya.2, fun j hj => ?_, fun s => ?_⟩
      · show updN (bfS T S i).1 i (rwC T.2.1 T.1 a i) j = _
        unfold updN
        by_cases e : j = i
        · rw [if_pos e, e]
        · rw [if_neg e]; exact ih2 j (by omega)
      · rw [key _ hya.1 s]
        refine and_congr_right fun _ => ⟨fun q j hj => ?_, fun q => ⟨fun j hj => q j (by omega), q i (by omega)⟩⟩
        by_cases e : j = i
        · rw [e]; exact q.2
        · exact q.1 j (by omega)
    · rw [if_neg h0]
      have hv : (bfS T S i).1 i = rwC T.2.1 T.1 a i := by
        have := ((ih3 (rwC T.2.1 T.1 a)).mpr ⟨hpa, fun _ _ => rfl⟩).2.1 i (by omega)
        exact (this.resolve_left h0).symm
      refine ⟨ih1, fun j hj => ?_, fun s => ?_⟩
      · by_cases e : j = i
        · rw [e]; exact hv
        · exact ih2 j (by omega)
      · constructor
        · intro q
          have q3 := (ih3 s).mp q
          refine ⟨q3.1, fun j hj => ?_⟩
          by_cases e : j = i
          · rw [e, ← hv]; exact (q.2.1 i (by omega)).resolve_left h0
          · exact q3.2 j (by omega)
        · intro q
          exact (ih3 s).mpr ⟨q.1, fun j hj => q.2 j (by omega)⟩
theorem one_le : ∀ j, j < 7 → oneF j ≤ 12 := by decide +kernel
theorem sI_le0 {a : Nat} (ha : a < 100000) : (nI a ≤ 0) ↔ a = 0 := by
  rw [← nI_0, sI_le ha (by decide)]
  omega
theorem mw_lt {mw : Option Nat} (h : ∀ q, mw = some q → q ≤ 6) : (mwI mw < 0) ↔ mw = none := by
  cases mw with
  | none => exact ⟨fun _ => rfl, fun _ => by unfold mwI; decide⟩
  | some q =>
    have := h q rfl
    refine ⟨fun q => ?_, fun q => absurd q (by simp)⟩
    exact absurd q ((sI_lt0 (by omega)).mp)
section CG
variable {ro : rQ} {LL : Nat} {xs : Nat → Int32} {d : Nat} {R : rR} {c : Nat → rE} {h : rH} {n m v si sg k t q l : Nat} {w fo o f : Nat → Nat} {st pd e : Nat → Int32} {im : Nat → Option TS} {x y a0 a1 a2 a3 a4 : Int32} {S : FST}
theorem sp_X3_rows {T : TS} (hm : 2 ≤ T.2.1 ∧ T.2.1 ≤ 6) (hn : T.1 ≤ 6) (hv : T.2.2.1 ≤ 3) (hF : FTS c T S) (hS : fOK T.1 T.2.1 S) (hk : ∀ c', frm [49, 50, 51] c c' → FTS c' T S → R (some (.int (nI (rwN T S)))) (tab c')) : rM (rRo LL xs) (d + 11) 17 0 0 [.ref 48] (tab c) R := by
  obtain ⟨n, m, v, T4⟩ := T
  obtain ⟨h48, hg, h52⟩ := id hF
  obtain ⟨⟨g0, g1, g2, h49⟩, h50, h51⟩ := id hg
  have hm : 2 ≤ m ∧ m ≤ 6 := hm
  have hn : n ≤ 6 := hn
  have hv : v ≤ 3 := hv
  have h48 : c 48 = fob (nI v) (nI n) (nI m) (mwI S.2.1) (b01 S.2.2) := h48
  have hle := rwN_le (T := (n, m, v, T4)) (S := S) (by show 1 ≤ m ∧ m ≤ 6; omega) hn
  rw [en_X3_rows]
  simp only [s_X3_rows_0, s_X3_rows_1, s_X3_rows_4, s_X3_rows_7, s_X3_rows_8, s_X3_rows_9, s_X3_rows_10, s_X3_rows_13, s_X3_rows_14, s_X3_rows_17, s_X3_rows_18, s_X3_rows_21, s_X3_rows_24, s_X3_rows_25, s_X3_rows_27, s_X3_rows_28, s_X3_rows_31, s_X3_rows_34, s_X3_rows_35, s_X3_rows_37, s_X3_rows_40, s_X3_rows_41, s_X3_rows_44, s_X3_rows_45, s_X3_rows_48, s_X3_rows_49, s_X3_rows_50, s_X3_rows_53, s_X3_rows_56, s_X3_rows_59, s_X3_rows_60, s_X3_rows_63, s_X3_rows_66, s_X3_rows_67, s_X3_rows_70, s_X3_rows_72, s_X3_rows_75, s_X3_rows_76, s_X3_rows_79, s_X3_rows_80, s_X3_rows_81, s_X3_rows_84, s_X3_rows_87, s_X3_rows_90, s_X3_rows_91, s_X3_rows_92, s_X3_rows_93, s_X3_rows_96, s_X3_rows_99, s_X3_rows_102, s_X3_rows_103, s_X3_rows_106, s_X3_rows_109, s_X3_rows_110, s_X3_rows_113, s_X3_rows_114, s_X3_rows_115, gf6 h48, gf0 h48, gf2 h48, gf4 h48, vg7 h49 (show 49 < 70 by decide)]
  refine ⟨fun hc => ?_, fun hc => ?_⟩
  · have hcl : S.2.2 = false := by
      cases hq : S.2.2 with
      | false => rfl
      | true => rw [hq] at hc; exact absurd hc (by decide)
    refine sp_X7_clear h49 (Or.inr rfl) (by decide) h50 fun c1 hf1 e1 b1 => ?_
    simp only [Option.toList_some, Option.toList_none, List.cons_append, List.nil_append, Option.toList, s_X3_rows_0, s_X3_rows_1, s_X3_rows_4, s_X3_rows_7, s_X3_rows_8, s_X3_rows_9, s_X3_rows_10, s_X3_rows_13, s_X3_rows_14, s_X3_rows_17, s_X3_rows_18, s_X3_rows_21, s_X3_rows_24, s_X3_rows_25, s_X3_rows_27, s_X3_rows_28, s_X3_rows_31, s_X3_rows_34, s_X3_rows_35, s_X3_rows_37, s_X3_rows_40, s_X3_rows_41, s_X3_rows_44, s_X3_rows_45, s_X3_rows_48, s_X3_rows_49, s_X3_rows_50, s_X3_rows_53, s_X3_rows_56, s_X3_rows_59, s_X3_rows_60, s_X3_rows_63, s_X3_rows_66, s_X3_rows_67, s_X3_rows_70, s_X3_rows_72, s_X3_rows_75, s_X3_rows_76, s_X3_rows_79, s_X3_rows_80, s_X3_rows_81, s_X3_rows_84, s_X3_rows_87, s_X3_rows_90, s_X3_rows_91, s_X3_rows_92, s_X3_rows_93, s_X3_rows_96, s_X3_rows_99, s_X3_rows_102, s_X3_rows_103, s_X3_rows_106, s_X3_rows_109, s_X3_rows_110, s_X3_rows_113, s_X3_rows_114, s_X3_rows_115]
    refine ⟨rfl, ?_⟩
    have lp : ∀ rem i c2 b k, i + rem = n → k ≤ i → frm [49, 50] c c2 → c2 49 = gobj 7 49 (nI v) (nI m) (nI k) → isI c2 50 7 b → jnB (fun i => some (S.1 i)) rem i b = jnB (fun i => some (S.1 i)) n 0 zrB → jnK (fun i => some (S.1 i)) rem i k = jnK (fun i => some (S.1 i)) n 0 0 → rU (rRo LL xs) (d + 10) tb_X3_rows R 26 [.ref 48, .int (nI i)] [] (tab c2) := by
      intro rem
      induction rem with
      | zero =>
        intro i c2 b k hi hki hf e0 e1 hB hK
        have : i = n := by omega
        subst this
        rw [jnB] at hB
        rw [jnK] at hK
        subst hB
        subst hK
        have k48 := (hf 48 rfl).trans h48
        have hF2 : FTS c2 (i, m, v, T4) S := ⟨k48, ⟨⟨_, _, _, e0⟩, e1.ty, h51.fr hf rfl⟩, h52.fr hf rfl⟩
        rw [s_X3_rows_26]
        simp only [s_X3_rows_0, s_X3_rows_1, s_X3_rows_4, s_X3_rows_7, s_X3_rows_8, s_X3_rows_9, s_X3_rows_10, s_X3_rows_13, s_X3_rows_14, s_X3_rows_17, s_X3_rows_18, s_X3_rows_21, s_X3_rows_24, s_X3_rows_25, s_X3_rows_27, s_X3_rows_28, s_X3_rows_31, s_X3_rows_34, s_X3_rows_35, s_X3_rows_37, s_X3_rows_40, s_X3_rows_41, s_X3_rows_44, s_X3_rows_45, s_X3_rows_48, s_X3_rows_49, s_X3_rows_50, s_X3_rows_53, s_X3_rows_56, s_X3_rows_59, s_X3_rows_60, s_X3_rows_63, s_X3_rows_66, s_X3_rows_67, s_X3_rows_70, s_X3_rows_72, s_X3_rows_76, s_X3_rows_79, s_X3_rows_80, s_X3_rows_81, s_X3_rows_84, s_X3_rows_87, s_X3_rows_90, s_X3_rows_91, s_X3_rows_93, s_X3_rows_96, s_X3_rows_99, s_X3_rows_102, s_X3_rows_103, s_X3_rows_106, s_X3_rows_109, s_X3_rows_110, s_X3_rows_113, s_X3_rows_114, s_X3_rows_115, gf3 k48, gf5 k48, mw_lt (fun q hq => Nat.le_trans (hS.2.2 q hq) hm.2)]
        have pw : S.2.1 = none → rU (rRo LL xs) (d + 10) tb_X3_rows R 75 [.ref 48, .int (nI i)] [] (tab c2) := by
          intro hno
          simp only [s_X3_rows_0, s_X3_rows_1, s_X3_rows_4, s_X3_rows_7, s_X3_rows_8, s_X3_rows_9, s_X3_rows_10, s_X3_rows_13, s_X3_rows_14, s_X3_rows_17, s_X3_rows_18, s_X3_rows_21, s_X3_rows_24, s_X3_rows_25, s_X3_rows_27, s_X3_rows_28, s_X3_rows_31, s_X3_rows_34, s_X3_rows_35, s_X3_rows_37, s_X3_rows_40, s_X3_rows_41, s_X3_rows_44, s_X3_rows_45, s_X3_rows_48, s_X3_rows_49, s_X3_rows_50, s_X3_rows_53, s_X3_rows_56, s_X3_rows_59, s_X3_rows_60, s_X3_rows_63, s_X3_rows_66, s_X3_rows_67, s_X3_rows_70, s_X3_rows_72, s_X3_rows_75, s_X3_rows_76, s_X3_rows_79, s_X3_rows_80, s_X3_rows_81, s_X3_rows_84, s_X3_rows_87, s_X3_rows_90, s_X3_rows_91, s_X3_rows_93, s_X3_rows_96, s_X3_rows_99, s_X3_rows_102, s_X3_rows_103, s_X3_rows_106, s_X3_rows_109, s_X3_rows_110, s_X3_rows_113, s_X3_rows_114, s_X3_rows_115, gf4 k48, gf0 k48, gg4 (cs := [7]) e0 (show 49 < 70 by decide) rfl, nI_l (show m < 2 ^ 31 by omega)]
          refine sp_X9_power (by omega) ?_
          simp only [Option.toList_some, Option.toList_none, List.cons_append, List.nil_append, Option.toList, s_X3_rows_0, s_X3_rows_1, s_X3_rows_4, s_X3_rows_7, s_X3_rows_8, s_X3_rows_9, s_X3_rows_10, s_X3_rows_13, s_X3_rows_14, s_X3_rows_17, s_X3_rows_18, s_X3_rows_21, s_X3_rows_24, s_X3_rows_25, s_X3_rows_27, s_X3_rows_28, s_X3_rows_31, s_X3_rows_34, s_X3_rows_35, s_X3_rows_37, s_X3_rows_40, s_X3_rows_41, s_X3_rows_44, s_X3_rows_45, s_X3_rows_48, s_X3_rows_49, s_X3_rows_50, s_X3_rows_53, s_X3_rows_56, s_X3_rows_59, s_X3_rows_60, s_X3_rows_63, s_X3_rows_66, s_X3_rows_67, s_X3_rows_70, s_X3_rows_72, s_X3_rows_75, s_X3_rows_76, s_X3_rows_79, s_X3_rows_80, s_X3_rows_81, s_X3_rows_84, s_X3_rows_87, s_X3_rows_90, s_X3_rows_91, s_X3_rows_93, s_X3_rows_96, s_X3_rows_99, s_X3_rows_102, s_X3_rows_103, s_X3_rows_106, s_X3_rows_109, s_X3_rows_110, s_X3_rows_113, s_X3_rows_114, s_X3_rows_115, pwL_lN]
          have e2 : rwN (i, m, v, T4) S = m ^ jnK (fun i => some (S.1 i)) i 0 0 := by
            unfold rwN
            rw [hcl, hno, if_neg (by decide)]
            show FF oneF (fun _ => 1) m 1 _ _ = _
            rw [FF_one, one_sm m (by omega)]
          rw [e2] at hle
          rw [l2i_lN (by omega), ← e2]
          exact hk c2 (hf.mono rfl) hF2
        have rn : ∀ q, S.2.1 = some q → rU (rRo LL xs) (d + 10) tb_X3_rows R 92 [.ref 48, .int (nI i)] [] (tab c2) := by
          intro q hq
          have hq6 := hS.2.2 q hq
          have hq6 : q ≤ m := hq6
          simp only [s_X3_rows_0, s_X3_rows_1, s_X3_rows_4, s_X3_rows_7, s_X3_rows_8, s_X3_rows_9, s_X3_rows_10, s_X3_rows_13, s_X3_rows_14, s_X3_rows_17, s_X3_rows_18, s_X3_rows_21, s_X3_rows_24, s_X3_rows_25, s_X3_rows_27, s_X3_rows_28, s_X3_rows_31, s_X3_rows_34, s_X3_rows_35, s_X3_rows_37, s_X3_rows_40, s_X3_rows_41, s_X3_rows_44, s_X3_rows_45, s_X3_rows_48, s_X3_rows_49, s_X3_rows_50, s_X3_rows_53, s_X3_rows_56, s_X3_rows_59, s_X3_rows_60, s_X3_rows_63, s_X3_rows_66, s_X3_rows_67, s_X3_rows_70, s_X3_rows_72, s_X3_rows_76, s_X3_rows_79, s_X3_rows_80, s_X3_rows_81, s_X3_rows_84, s_X3_rows_87, s_X3_rows_90, s_X3_rows_91, s_X3_rows_92, s_X3_rows_93, s_X3_rows_96, s_X3_rows_99, s_X3_rows_102, s_X3_rows_103, s_X3_rows_106, s_X3_rows_109, s_X3_rows_110, s_X3_rows_113, s_X3_rows_114, s_X3_rows_115, gf0 k48, vg7 e0 (show 49 < 70 by decide)]
          refine sp_X7_run (w := oneF) (Or.inr rfl) (by decide) hm hv (by omega) one_le e0 e1 (h51.fr hf rfl) (Or.inr ⟨rfl, fun _ _ => rfl⟩) fun c3 o3 hf3 hT3 ho3 => ?_
          have k48 := (hf3 48 rfl).trans k48
          have hff : frm [49, 50, 51] c c3 := (hf.mono rfl).trans hf3
          simp only [Option.toList_some, Option.toList_none, List.cons_append, List.nil_append, Option.toList, s_X3_rows_0, s_X3_rows_1, s_X3_rows_4, s_X3_rows_7, s_X3_rows_8, s_X3_rows_9, s_X3_rows_10, s_X3_rows_13, s_X3_rows_14, s_X3_rows_17, s_X3_rows_18, s_X3_rows_21, s_X3_rows_24, s_X3_rows_25, s_X3_rows_27, s_X3_rows_28, s_X3_rows_31, s_X3_rows_34, s_X3_rows_35, s_X3_rows_37, s_X3_rows_40, s_X3_rows_41, s_X3_rows_44, s_X3_rows_45, s_X3_rows_48, s_X3_rows_49, s_X3_rows_50, s_X3_rows_53, s_X3_rows_56, s_X3_rows_59, s_X3_rows_60, s_X3_rows_63, s_X3_rows_66, s_X3_rows_67, s_X3_rows_70, s_X3_rows_72, s_X3_rows_76, s_X3_rows_79, s_X3_rows_80, s_X3_rows_81, s_X3_rows_84, s_X3_rows_87, s_X3_rows_90, s_X3_rows_91, s_X3_rows_92, s_X3_rows_93, s_X3_rows_96, s_X3_rows_99, s_X3_rows_102, s_X3_rows_103, s_X3_rows_106, s_X3_rows_109, s_X3_rows_110, s_X3_rows_113, s_X3_rows_114, s_X3_rows_115, gf0 k48, gf5 k48, gg1 (cs := [7]) hT3.1 (show 49 < 70 by decide) rfl]
          rw [show mwI S.2.1 = nI q by rw [hq]; rfl]
          simp only [al_i hT3.2.2 (show 49 + 2 < 70 by decide) (show q < 7 by omega) (by decide), s_X3_rows_0, s_X3_rows_1, s_X3_rows_4, s_X3_rows_7, s_X3_rows_8, s_X3_rows_9, s_X3_rows_10, s_X3_rows_13, s_X3_rows_14, s_X3_rows_17, s_X3_rows_18, s_X3_rows_21, s_X3_rows_24, s_X3_rows_25, s_X3_rows_27, s_X3_rows_28, s_X3_rows_31, s_X3_rows_34, s_X3_rows_35, s_X3_rows_37, s_X3_rows_40, s_X3_rows_41, s_X3_rows_44, s_X3_rows_45, s_X3_rows_48, s_X3_rows_49, s_X3_rows_50, s_X3_rows_53, s_X3_rows_56, s_X3_rows_59, s_X3_rows_60, s_X3_rows_63, s_X3_rows_66, s_X3_rows_67, s_X3_rows_70, s_X3_rows_72, s_X3_rows_76, s_X3_rows_79, s_X3_rows_80, s_X3_rows_81, s_X3_rows_84, s_X3_rows_87, s_X3_rows_90, s_X3_rows_91, s_X3_rows_92, s_X3_rows_93, s_X3_rows_96, s_X3_rows_99, s_X3_rows_102, s_X3_rows_103, s_X3_rows_106, s_X3_rows_109, s_X3_rows_110, s_X3_rows_113, s_X3_rows_114, s_X3_rows_115]
          have e2 : rwN (i, m, v, T4) S = o3 q := by
            rw [ho3 q (by omega)]
            unfold rwN
            rw [hcl, hq, if_neg (by decide)]
            rfl
          rw [e2] at hle
          rw [l2i_lN (by omega), ← e2]
          exact hk c3 hff ⟨k48, ⟨⟨_, _, _, hT3.1⟩, hT3.2.1.ty, hT3.2.2.ty⟩, h52.fr hff rfl⟩
        refine ⟨fun _ => ⟨fun hno => pw hno, fun hno => ?_⟩, fun hc => absurd ((sI_le (by omega) (by omega)).mpr (Nat.le_refl _)) hc⟩
        cases hq : S.2.1 with
        | none => exact absurd hq hno
        | some q =>
          have hq6 : q ≤ m := hS.2.2 q hq
          refine ⟨fun _ => rn q hq, fun hc => absurd ((sI_lt (a := q) (b := 7) (by omega) (by decide)).mpr (by omega)) hc⟩
      | succ rem ih =>
        intro i c2 b k hi hki hf e0 e1 hB hK
        rw [jnB] at hB
        rw [jnK] at hK
        have k48 := (hf 48 rfl).trans h48
        have hfi : S.1 i ≤ m := hS.1 i
        rw [s_X3_rows_26]
        simp only [s_X3_rows_0, s_X3_rows_1, s_X3_rows_4, s_X3_rows_7, s_X3_rows_8, s_X3_rows_9, s_X3_rows_10, s_X3_rows_13, s_X3_rows_14, s_X3_rows_17, s_X3_rows_18, s_X3_rows_21, s_X3_rows_24, s_X3_rows_25, s_X3_rows_27, s_X3_rows_28, s_X3_rows_31, s_X3_rows_34, s_X3_rows_35, s_X3_rows_37, s_X3_rows_40, s_X3_rows_41, s_X3_rows_44, s_X3_rows_45, s_X3_rows_48, s_X3_rows_49, s_X3_rows_50, s_X3_rows_53, s_X3_rows_56, s_X3_rows_60, s_X3_rows_63, s_X3_rows_66, s_X3_rows_67, s_X3_rows_70, s_X3_rows_72, s_X3_rows_75, s_X3_rows_76, s_X3_rows_79, s_X3_rows_80, s_X3_rows_81, s_X3_rows_84, s_X3_rows_87, s_X3_rows_90, s_X3_rows_91, s_X3_rows_92, s_X3_rows_93, s_X3_rows_96, s_X3_rows_99, s_X3_rows_102, s_X3_rows_103, s_X3_rows_106, s_X3_rows_109, s_X3_rows_110, s_X3_rows_113, s_X3_rows_114, s_X3_rows_115, gf0 k48, gf1 k48, gf3 k48, vg7 e0 (show 49 < 70 by decide), sI_le (show n < 100000 by omega) (show i < 100000 by omega), sI_le (show 6 < 100000 by decide) (show i < 100000 by omega), ai_i (h52.fr hf rfl) (show 52 < 70 by decide) (show i < 6 by omega) (by decide), nI_add]
        refine ⟨fun hc => absurd hc (by omega), fun _ => ⟨fun hc => absurd hc (by omega), fun _ => sp_X7_join e0 (Or.inr rfl) (by decide) e1 hm.2 hfi fun c3 hf3 e03 e13 => ?_⟩⟩
        simp only [Option.toList_some, Option.toList_none, List.cons_append, List.nil_append, Option.toList, s_X3_rows_0, s_X3_rows_1, s_X3_rows_4, s_X3_rows_7, s_X3_rows_8, s_X3_rows_9, s_X3_rows_10, s_X3_rows_13, s_X3_rows_14, s_X3_rows_17, s_X3_rows_18, s_X3_rows_21, s_X3_rows_24, s_X3_rows_25, s_X3_rows_27, s_X3_rows_28, s_X3_rows_31, s_X3_rows_34, s_X3_rows_35, s_X3_rows_37, s_X3_rows_40, s_X3_rows_41, s_X3_rows_44, s_X3_rows_45, s_X3_rows_48, s_X3_rows_49, s_X3_rows_50, s_X3_rows_53, s_X3_rows_56, s_X3_rows_60, s_X3_rows_63, s_X3_rows_66, s_X3_rows_67, s_X3_rows_70, s_X3_rows_72, s_X3_rows_75, s_X3_rows_76, s_X3_rows_79, s_X3_rows_80, s_X3_rows_81, s_X3_rows_84, s_X3_rows_87, s_X3_rows_90, s_X3_rows_91, s_X3_rows_92, s_X3_rows_93, s_X3_rows_96, s_X3_rows_99, s_X3_rows_102, s_X3_rows_103, s_X3_rows_106, s_X3_rows_109, s_X3_rows_110, s_X3_rows_113, s_X3_rows_114, s_X3_rows_115, nI_add]
        refine ⟨rfl, ?_⟩
        have hf' := hf.trans hf3
        by_cases hz : S.1 i = 0
        · rw [hz] at hB hK
          rw [if_pos hz] at e03 e13
          exact ih (i + 1) c3 b (k + 1) (by omega) (by omega) hf' e03 e13 hB hK
        · obtain ⟨yy, hy⟩ : ∃ y, S.1 i = y + 1 := ⟨S.1 i - 1, by omega⟩
          rw [if_neg hz] at e03 e13
          rw [hy] at hB hK e13
          exact ih (i + 1) c3 _ k (by omega) (by omega) hf' e03 e13 hB hK
    exact lp n 0 c1 zrB 0 (by omega) (Nat.le_refl _) hf1 e1 b1 rfl rfl
  · have hcl : S.2.2 = true := by
      cases hq : S.2.2 with
      | true => rfl
      | false => rw [hq] at hc; exact absurd rfl hc
    have := hk c frm.rf hF
    rw [show rwN (n, m, v, T4) S = 0 by unfold rwN; rw [hcl]; rfl] at this
    exact this
end CG
