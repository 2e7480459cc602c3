/-! ===== who writes what: joined one by one ===== -/
def jnB (q : Nat → Option Nat) : Nat → Nat → (Nat → Int32) → Nat → Int32
  | 0, _, b => b
  | r + 1, i, b => jnB q r (i + 1) (match q i with
    | some (x + 1) => ad1 b (x + 1) 1
    | _ => b)
def jnK (q : Nat → Option Nat) : Nat → Nat → Nat → Nat
  | 0, _, k => k
  | r + 1, i, k => jnK q r (i + 1) (match q i with
    | some 0 => k + 1
    | _ => k)
theorem jnK_le (q : Nat → Option Nat) : ∀ r i k, jnK q r i k ≤ k + r
  | 0, _, _ => Nat.le_refl _
  | r + 1, i, k => by
    rw [jnK]
    have h1 := jnK_le q r (i + 1) (k + 1)
    have h2 := jnK_le q r (i + 1) k
    split <;> omega
def zrB : Nat → Int32 := fun _ => nI 0
def othQ (fo : Nat → Nat) (x : Int32) (i : Nat) : Option Nat := if nI i = x then none else some (fo i)
theorem lN_toI {n : Nat} (h : n < 2 ^ 63) : (lN n).toInt = (n : Int) := lg_ofNat_toInt h
theorem lN_div {a b : Nat} (ha : a < 2 ^ 62) (hb : b < 2 ^ 62) : lN a / lN b = lN (a / b) := by
  apply Int64.toInt_inj.mp
  have hd := Nat.div_le_self a b
  rw [Int64.toInt_div_of_ne_left _ _ (by
    intro e
    have := lN_toI (n := a) (by omega)
    rw [e] at this
    simp [Int64.toInt_minValue] at this), lN_toI (by omega), lN_toI (by omega), lN_toI (by omega)]
  simp
theorem lN_rem {a b : Nat} (ha : a < 2 ^ 62) (hb : b < 2 ^ 62) : lN a - lN a / lN b * lN b = lN (a % b) := by
  have h := Nat.div_mul_le_self a b
  rw [lN_div ha hb, lN_mul, lN_sub h]
  congr 1
  have := Nat.div_add_mod a b
  rw [Nat.mul_comm] at this
  omega
theorem lN_ne {a : Nat} (ha : a < 2 ^ 62) : lN a = 0 ↔ a = 0 := by
  constructor
  · intro e
    have := lN_toI (n := a) (by omega)
    rw [e] at this
    simp at this
    omega
  · intro e; rw [e]; rfl
theorem lcmp0 {a : Nat} (ha : a < 2 ^ 62) : (lg_cmp (lN a) (lN 0) = 0) ↔ a = 0 := by
  unfold lg_cmp
  have h0 : lN 0 = 0 := rfl
  by_cases h : a = 0
  · subst h
    rw [if_neg (by decide), if_pos rfl]
    exact ⟨fun _ => rfl, fun _ => rfl⟩
  · refine ⟨fun q => ?_, fun q => absurd q h⟩
    split at q
    · exact absurd q (by decide)
    · split at q
      · rename_i _ e
        rw [h0] at e
        exact (lN_ne ha).mp e
      · exact absurd q (by decide)
section MY
variable {ro : rQ} {d : Nat} {R : rR} {c : Nat → rE} {men num law si sg fr : Int32} {ru lu : Int64} {n m v r k x : Nat} {w fo fl : Nat → Nat} {b f : Nat → Int32}
theorem sp_X10_term {u lo : Nat} {pt : Int32} {h : rH} (hu : u < 2 ^ 62) (hl : lo < 2 ^ 62) (h0 : 0 < lo) (hk : R (some (.long (lN ((if pt = 0 then u else lo) / Nat.gcd u lo)))) h) : rM ro (d + 1) 128 0 0 [.long (lN u), .long (lN lo), .int pt] h R := by
  rw [en_X10_term]
  simp only [s_X10_term_0, s_X10_term_1, s_X10_term_3, s_X10_term_4, s_X10_term_8, s_X10_term_9, s_X10_term_10, s_X10_term_13, s_X10_term_15, s_X10_term_17, s_X10_term_18, s_X10_term_20, s_X10_term_22, s_X10_term_24, s_X10_term_26, s_X10_term_28, s_X10_term_31, s_X10_term_33, s_X10_term_36, s_X10_term_37, s_X10_term_39, s_X10_term_40, s_X10_term_43, s_X10_term_44, s_X10_term_46, s_X10_term_47]
  refine ⟨rfl, rfl, ?_⟩
  have lp : ∀ N y x (g9 g10 : Value), y < N → x < 2 ^ 62 → y < 2 ^ 62 → Nat.gcd x y = Nat.gcd u lo → rU ro d tb_X10_term R 6 [.long (lN u), .null, .long (lN lo), .null, .int pt, .long (lN x), .null, .long (lN y), .null, g9, g10] [] h := by
    intro N
    induction N with
    | zero => intro y x g9 g10 hy; exact absurd hy (Nat.not_lt_zero _)
    | succ N ih =>
      intro y x g9 g10 hy hx2 hy2 hg
      rw [s_X10_term_6]
      simp only [s_X10_term_0, s_X10_term_1, s_X10_term_3, s_X10_term_4, s_X10_term_8, s_X10_term_9, s_X10_term_10, s_X10_term_13, s_X10_term_15, s_X10_term_17, s_X10_term_18, s_X10_term_20, s_X10_term_22, s_X10_term_24, s_X10_term_26, s_X10_term_28, s_X10_term_31, s_X10_term_33, s_X10_term_36, s_X10_term_37, s_X10_term_39, s_X10_term_40, s_X10_term_43, s_X10_term_44, s_X10_term_46, s_X10_term_47, lcmp0 hy2, lN_ne hy2]
      refine ⟨fun hz => ?_, fun hz => ⟨hz, rfl, rfl, rfl, ?_⟩⟩
      · subst hz
        rw [Nat.gcd_zero_right] at hg
        have hxp : 0 < x := by rw [hg]; exact Nat.gcd_pos_of_pos_right _ h0
        simp only [lN_ne hx2, lN_div hu hx2, lN_div hl hx2]
        refine ⟨fun hp => ⟨by omega, ?_⟩, fun hp => ⟨by omega, ?_⟩⟩
        · rw [if_pos hp] at hk; rw [hg]; exact hk
        · rw [if_neg hp] at hk; rw [hg]; exact hk
      · rw [lN_rem hx2 hy2]
        have hlt := Nat.mod_lt x (show 0 < y by omega)
        refine ih (x % y) y _ _ (by omega) hy2 (by omega) ?_
        rw [← hg, Nat.gcd_comm x y, Nat.gcd_comm y (x % y), ← Nat.gcd_rec]
  exact lp (lo + 1) lo u _ _ (by omega) hu hl rfl
theorem sp_X10_lowOf (hM : MT c m v k w b) (hV : VT m v k w) (hk : R (some (.long (lN (2 * smF w m 1 ^ k)))) (tab c)) : rM ro (d + 2) 125 0 0 [.ref 53] (tab c) R := by
  obtain ⟨⟨men, si, sg, ru, lu, h53⟩, h58, h60, h59, h61⟩ := hM
  have hW := hV.2.2.2.2
  have hk6 := hV.2.2.1
  rw [en_X10_lowOf]
  simp only [s_X10_lowOf_0, s_X10_lowOf_3, s_X10_lowOf_4, s_X10_lowOf_7, s_X10_lowOf_8, s_X10_lowOf_9, s_X10_lowOf_12, s_X10_lowOf_15, s_X10_lowOf_16, vm_o h53]
  refine sp_X10_sumOfWeights h53 hV.1.2 h61 ?_
  simp only [Option.toList_some, Option.toList_none, List.cons_append, List.nil_append, Option.toList, s_X10_lowOf_0, s_X10_lowOf_3, s_X10_lowOf_4, s_X10_lowOf_7, s_X10_lowOf_8, s_X10_lowOf_9, s_X10_lowOf_12, s_X10_lowOf_15, s_X10_lowOf_16, gm11 h53, nI_l (show smF w m 1 < 2 ^ 31 by omega)]
  refine sp_X10_power (by omega) ?_
  simp only [Option.toList_some, Option.toList_none, List.cons_append, List.nil_append, Option.toList, s_X10_lowOf_0, s_X10_lowOf_3, s_X10_lowOf_4, s_X10_lowOf_7, s_X10_lowOf_8, s_X10_lowOf_9, s_X10_lowOf_12, s_X10_lowOf_15, s_X10_lowOf_16, pwL_lN, lN_mul]
  exact hk
theorem sp_X10_layOthers {x : Int32} (h53 : c 53 = mobj (nI n) num law si sg fr ru lu) (hn : n ≤ 6) (h54 : isI c 54 7 f) (h55 : isI c 55 6 (fun j => nI (fo j))) (hfo : ∀ j, fo j ≤ 6) (h59 : tyI c 59 7) (h61 : tyI c 61 7)
    (hk : ∀ c', frm [53, 59, 61] c c' → c' 53 = mobj (nI n) num law si sg (nI (jnK (othQ fo x) n 0 0)) ru lu → isI c' 59 7 (jnB (othQ fo x) n 0 zrB) → isI c' 61 7 f → R none (tab c')) : rM ro (d + 2) 126 0 0 [.ref 53, .int x] (tab c) R := by
  rw [en_X10_layOthers]
  simp only [s_X10_layOthers_0, s_X10_layOthers_1, s_X10_layOthers_2, s_X10_layOthers_5, s_X10_layOthers_6, s_X10_layOthers_8, s_X10_layOthers_10, s_X10_layOthers_13, s_X10_layOthers_14, s_X10_layOthers_17, s_X10_layOthers_18, s_X10_layOthers_19, s_X10_layOthers_20, s_X10_layOthers_23, s_X10_layOthers_26, s_X10_layOthers_27, s_X10_layOthers_29, s_X10_layOthers_30, s_X10_layOthers_33, s_X10_layOthers_36, s_X10_layOthers_37, s_X10_layOthers_38, s_X10_layOthers_41, s_X10_layOthers_42, s_X10_layOthers_45, s_X10_layOthers_46, s_X10_layOthers_49, s_X10_layOthers_50, s_X10_layOthers_51, s_X10_layOthers_52, s_X10_layOthers_53, s_X10_layOthers_54, s_X10_layOthers_57, s_X10_layOthers_58, s_X10_layOthers_59, s_X10_layOthers_62, s_X10_layOthers_63, s_X10_layOthers_66, s_X10_layOthers_67, s_X10_layOthers_68, s_X10_layOthers_69, s_X10_layOthers_70, s_X10_layOthers_71, s_X10_layOthers_74, s_X10_layOthers_75, s_X10_layOthers_78, s_X10_layOthers_79, s_X10_layOthers_80, s_X10_layOthers_83, s_X10_layOthers_84, s_X10_layOthers_87, s_X10_layOthers_88, s_X10_layOthers_89, s_X10_layOthers_92, s_X10_layOthers_95, s_X10_layOthers_98, s_X10_layOthers_99, s_X10_layOthers_102, pm11 h53]
  refine ⟨rfl, ?_⟩
  have hc0 : frm [53, 59, 61] c (fup c 53 (mobj (nI n) num law si sg (nI 0) ru lu)) := frm.rf.fup rfl
  have lp2 : ∀ rem i c1 b k, i + rem = n → k ≤ i → frm [53, 59, 61] c c1 → c1 53 = mobj (nI n) num law si sg (nI k) ru lu → isI c1 59 7 b → tyI c1 61 7 → jnB (othQ fo x) rem i b = jnB (othQ fo x) n 0 zrB → jnK (othQ fo x) rem i k = jnK (othQ fo x) n 0 0 → rU ro (d + 1) tb_X10_layOthers R 28 [.ref 53, .int x, .int (nI i)] [] (tab c1) := by
    intro rem
    induction rem with
    | zero =>
      intro i c1 b k hi hki hf e53 hb h61 hB hKq
      have : i = n := by omega
      subst this
      rw [jnB] at hB
      rw [jnK] at hKq
      rw [s_X10_layOthers_28]
      simp only [s_X10_layOthers_0, s_X10_layOthers_1, s_X10_layOthers_2, s_X10_layOthers_5, s_X10_layOthers_6, s_X10_layOthers_8, s_X10_layOthers_10, s_X10_layOthers_13, s_X10_layOthers_14, s_X10_layOthers_17, s_X10_layOthers_18, s_X10_layOthers_19, s_X10_layOthers_20, s_X10_layOthers_23, s_X10_layOthers_26, s_X10_layOthers_27, s_X10_layOthers_29, s_X10_layOthers_30, s_X10_layOthers_33, s_X10_layOthers_36, s_X10_layOthers_37, s_X10_layOthers_38, s_X10_layOthers_41, s_X10_layOthers_42, s_X10_layOthers_45, s_X10_layOthers_46, s_X10_layOthers_49, s_X10_layOthers_50, s_X10_layOthers_51, s_X10_layOthers_52, s_X10_layOthers_53, s_X10_layOthers_54, s_X10_layOthers_57, s_X10_layOthers_58, s_X10_layOthers_59, s_X10_layOthers_62, s_X10_layOthers_63, s_X10_layOthers_66, s_X10_layOthers_67, s_X10_layOthers_68, s_X10_layOthers_69, s_X10_layOthers_70, s_X10_layOthers_71, s_X10_layOthers_74, s_X10_layOthers_75, s_X10_layOthers_78, s_X10_layOthers_79, s_X10_layOthers_80, s_X10_layOthers_83, s_X10_layOthers_84, s_X10_layOthers_87, s_X10_layOthers_88, s_X10_layOthers_89, s_X10_layOthers_92, s_X10_layOthers_95, s_X10_layOthers_98, s_X10_layOthers_99, s_X10_layOthers_102, gm0 e53, vm_o e53]
      refine ⟨fun _ => sp_X10_asWeights e53 (h54.fr hf rfl) h61 fun c2 hf2 hi2 => ?_, fun hc => absurd ((sI_le (by omega) (by omega)).mpr (Nat.le_refl _)) hc⟩
      simp only [Option.toList_some, Option.toList_none, List.cons_append, List.nil_append, Option.toList, s_X10_layOthers_0, s_X10_layOthers_1, s_X10_layOthers_2, s_X10_layOthers_5, s_X10_layOthers_6, s_X10_layOthers_8, s_X10_layOthers_10, s_X10_layOthers_13, s_X10_layOthers_14, s_X10_layOthers_17, s_X10_layOthers_18, s_X10_layOthers_19, s_X10_layOthers_20, s_X10_layOthers_23, s_X10_layOthers_26, s_X10_layOthers_27, s_X10_layOthers_29, s_X10_layOthers_30, s_X10_layOthers_33, s_X10_layOthers_36, s_X10_layOthers_37, s_X10_layOthers_38, s_X10_layOthers_41, s_X10_layOthers_42, s_X10_layOthers_45, s_X10_layOthers_46, s_X10_layOthers_49, s_X10_layOthers_50, s_X10_layOthers_51, s_X10_layOthers_52, s_X10_layOthers_53, s_X10_layOthers_54, s_X10_layOthers_57, s_X10_layOthers_58, s_X10_layOthers_59, s_X10_layOthers_62, s_X10_layOthers_63, s_X10_layOthers_66, s_X10_layOthers_67, s_X10_layOthers_68, s_X10_layOthers_69, s_X10_layOthers_70, s_X10_layOthers_71, s_X10_layOthers_74, s_X10_layOthers_75, s_X10_layOthers_78, s_X10_layOthers_79, s_X10_layOthers_80, s_X10_layOthers_83, s_X10_layOthers_84, s_X10_layOthers_87, s_X10_layOthers_88, s_X10_layOthers_89, s_X10_layOthers_92, s_X10_layOthers_95, s_X10_layOthers_98, s_X10_layOthers_99, s_X10_layOthers_102]
      refine hk c2 (hf.trans (hf2.mono rfl)) ?_ ?_ hi2
      · rw [← hKq]; exact (hf2 53 rfl).trans e53
      · rw [← hB]; exact hb.fr hf2 rfl
    | succ rem ih =>
      intro i c1 b k hi hki hf e53 hb h61 hB hKq
      rw [jnB] at hB
      rw [jnK] at hKq
      have h55' := h55.fr hf rfl
      have hfi := hfo i
      rw [s_X10_layOthers_28]
      simp only [s_X10_layOthers_0, s_X10_layOthers_1, s_X10_layOthers_2, s_X10_layOthers_5, s_X10_layOthers_6, s_X10_layOthers_8, s_X10_layOthers_10, s_X10_layOthers_13, s_X10_layOthers_14, s_X10_layOthers_17, s_X10_layOthers_18, s_X10_layOthers_19, s_X10_layOthers_20, s_X10_layOthers_23, s_X10_layOthers_26, s_X10_layOthers_27, s_X10_layOthers_29, s_X10_layOthers_30, s_X10_layOthers_33, s_X10_layOthers_36, s_X10_layOthers_37, s_X10_layOthers_38, s_X10_layOthers_41, s_X10_layOthers_42, s_X10_layOthers_45, s_X10_layOthers_46, s_X10_layOthers_49, s_X10_layOthers_50, s_X10_layOthers_51, s_X10_layOthers_52, s_X10_layOthers_53, s_X10_layOthers_54, s_X10_layOthers_57, s_X10_layOthers_58, s_X10_layOthers_59, s_X10_layOthers_62, s_X10_layOthers_63, s_X10_layOthers_66, s_X10_layOthers_67, s_X10_layOthers_68, s_X10_layOthers_70, s_X10_layOthers_71, s_X10_layOthers_74, s_X10_layOthers_75, s_X10_layOthers_78, s_X10_layOthers_79, s_X10_layOthers_80, s_X10_layOthers_83, s_X10_layOthers_84, s_X10_layOthers_87, s_X10_layOthers_88, s_X10_layOthers_89, s_X10_layOthers_92, s_X10_layOthers_95, s_X10_layOthers_98, s_X10_layOthers_99, s_X10_layOthers_102, gm0 e53, gm10 e53, gm4 e53, gm11 e53, nI_add, sI_le (show n < 100000 by omega) (show i < 100000 by omega), ai_i h55' (show 55 < 70 by decide) (show i < 6 by omega) (by decide), ai_i hb (show 59 < 70 by decide) (show fo i < 7 by omega) (by decide)]
      refine ⟨fun hc => absurd hc (by omega), fun _ => ⟨fun hx => ⟨rfl, ?_⟩, fun hx => ?_⟩⟩
      · rw [show othQ fo x i = none by rw [othQ, if_pos hx]] at hB hKq
        exact ih (i + 1) c1 b k (by omega) (by omega) hf e53 hb h61 hB hKq
      · rw [show othQ fo x i = some (fo i) by rw [othQ, if_neg hx]] at hB hKq
        have step : ∀ (a kk : Nat), (∀ c2, frm [53, 59, 61] c c2 → c2 53 = mobj (nI n) num law si sg (nI kk) ru lu → isI c2 59 7 (upd b (fo i) (b (fo i) + nI a)) → tyI c2 61 7 → rU ro (d + 1) tb_X10_layOthers R 28 [.ref 53, .int x, .int (nI (i + 1))] [] (tab c2)) →
            (fo i = 0 → a = 0 ∧ kk = k + 1) → (fo i ≠ 0 → a = 1 ∧ kk = k) → rSi (tab c1) 59 (nI (fo i)) (b (fo i) + nI a) (fun h => rU ro (d + 1) tb_X10_layOthers R 69 [.ref 53, .int x, .int (nI i)] [] h) := by
          intro a kk hgo h1 h2
          refine si_i hb (by decide) (by omega) (by decide) fun c2 hf2 hi2 => ?_
          have e53' := (hf2 53 rfl).trans e53
          have hf' := hf.trans (hf2.mono (M' := [53, 59, 61]) rfl)
          simp only [s_X10_layOthers_0, s_X10_layOthers_1, s_X10_layOthers_2, s_X10_layOthers_5, s_X10_layOthers_6, s_X10_layOthers_8, s_X10_layOthers_10, s_X10_layOthers_13, s_X10_layOthers_14, s_X10_layOthers_17, s_X10_layOthers_18, s_X10_layOthers_19, s_X10_layOthers_20, s_X10_layOthers_23, s_X10_layOthers_26, s_X10_layOthers_27, s_X10_layOthers_29, s_X10_layOthers_30, s_X10_layOthers_33, s_X10_layOthers_36, s_X10_layOthers_37, s_X10_layOthers_38, s_X10_layOthers_41, s_X10_layOthers_42, s_X10_layOthers_45, s_X10_layOthers_46, s_X10_layOthers_49, s_X10_layOthers_50, s_X10_layOthers_51, s_X10_layOthers_52, s_X10_layOthers_53, s_X10_layOthers_54, s_X10_layOthers_57, s_X10_layOthers_58, s_X10_layOthers_59, s_X10_layOthers_62, s_X10_layOthers_63, s_X10_layOthers_66, s_X10_layOthers_67, s_X10_layOthers_68, s_X10_layOthers_69, s_X10_layOthers_70, s_X10_layOthers_71, s_X10_layOthers_74, s_X10_layOthers_75, s_X10_layOthers_78, s_X10_layOthers_79, s_X10_layOthers_80, s_X10_layOthers_83, s_X10_layOthers_84, s_X10_layOthers_87, s_X10_layOthers_88, s_X10_layOthers_89, s_X10_layOthers_92, s_X10_layOthers_95, s_X10_layOthers_98, s_X10_layOthers_99, s_X10_layOthers_102, gm4 e53', gm11 e53', pm11 e53', nI_add, ai_i (h55.fr hf' rfl) (show 55 < 70 by decide) (show i < 6 by omega) (by decide)]
          refine ⟨fun hle => ⟨rfl, ?_⟩, fun hle => ⟨rfl, ?_⟩⟩
          · have h0 : fo i = 0 := by
              have := (sI_le (a := fo i) (b := 0) (by omega) (by decide)).mp (by rw [nI_0]; exact hle)
              omega
            rw [← (h1 h0).2]
            exact hgo _ (hf'.fup rfl) fup_self (by obtain ⟨g, g1, g2⟩ := hi2; exact ⟨g, (fup_ne (by decide)).trans g1, g2⟩) (by obtain ⟨g, g1⟩ := h61.fr hf2 rfl; exact ⟨g, (fup_ne (by decide)).trans g1⟩)
          · have h0 : fo i ≠ 0 := fun e => hle (by rw [e, nI_0]; exact Int32.le_refl _)
            have hgo' := hgo (fup c2 53 (mobj (nI n) num law si sg (nI k) ru lu)) (hf'.fup rfl) (by rw [(h2 h0).2]; exact fup_self) (by obtain ⟨g, g1, g2⟩ := hi2; exact ⟨g, (fup_ne (by decide)).trans g1, g2⟩) (by obtain ⟨g, g1⟩ := h61.fr hf2 rfl; exact ⟨g, (fup_ne (by decide)).trans g1⟩)
            exact hgo'
        refine ⟨fun hle => ?_, fun hle => ?_⟩
        · have h0 : fo i = 0 := by
            have := (sI_le (a := fo i) (b := 0) (by omega) (by decide)).mp (by rw [nI_0]; exact hle)
            omega
          refine step 0 (k + 1) (fun c2 hf2 g53 g59 g61 => ?_) (fun _ => ⟨rfl, rfl⟩) (fun h => absurd h0 h)
          rw [h0] at hB hKq g59
          have e0 : upd b 0 (b 0 + nI 0) = b := ad1_zero b 0
          rw [e0] at g59
          exact ih (i + 1) c2 b (k + 1) (by omega) (by omega) hf2 g53 g59 g61 hB hKq
        · have h0 : fo i ≠ 0 := fun e => hle (by rw [e, nI_0]; exact Int32.le_refl _)
          refine step 1 k (fun c2 hf2 g53 g59 g61 => ?_) (fun h => absurd h h0) (fun _ => ⟨rfl, rfl⟩)
          obtain ⟨y, hy⟩ : ∃ y, fo i = y + 1 := ⟨fo i - 1, by omega⟩
          rw [hy] at hB hKq g59
          exact ih (i + 1) c2 _ k (by omega) (by omega) hf2 g53 g59 g61 hB hKq
  have lp1 : ∀ rem j c1 val, j + rem = 7 → frm [53, 59, 61] c c1 → c1 53 = mobj (nI n) num law si sg (nI 0) ru lu → isI c1 59 7 val → tyI c1 61 7 → (∀ i, i < j → val i = nI 0) → rU ro (d + 1) tb_X10_layOthers R 7 [.ref 53, .int x, .int (nI j)] [] (tab c1) := by
    intro rem
    induction rem with
    | zero =>
      intro j c1 val hj hf e53 hi h61 hv
      have : j = 7 := by omega
      subst this
      rw [s_X10_layOthers_7]
      simp only [s_X10_layOthers_0, s_X10_layOthers_1, s_X10_layOthers_2, s_X10_layOthers_5, s_X10_layOthers_6, s_X10_layOthers_8, s_X10_layOthers_10, s_X10_layOthers_13, s_X10_layOthers_14, s_X10_layOthers_17, s_X10_layOthers_18, s_X10_layOthers_19, s_X10_layOthers_20, s_X10_layOthers_23, s_X10_layOthers_26, s_X10_layOthers_27, s_X10_layOthers_29, s_X10_layOthers_30, s_X10_layOthers_33, s_X10_layOthers_36, s_X10_layOthers_37, s_X10_layOthers_38, s_X10_layOthers_41, s_X10_layOthers_42, s_X10_layOthers_45, s_X10_layOthers_46, s_X10_layOthers_49, s_X10_layOthers_50, s_X10_layOthers_51, s_X10_layOthers_52, s_X10_layOthers_53, s_X10_layOthers_54, s_X10_layOthers_57, s_X10_layOthers_58, s_X10_layOthers_59, s_X10_layOthers_62, s_X10_layOthers_63, s_X10_layOthers_66, s_X10_layOthers_67, s_X10_layOthers_68, s_X10_layOthers_69, s_X10_layOthers_70, s_X10_layOthers_71, s_X10_layOthers_74, s_X10_layOthers_75, s_X10_layOthers_78, s_X10_layOthers_79, s_X10_layOthers_80, s_X10_layOthers_83, s_X10_layOthers_84, s_X10_layOthers_87, s_X10_layOthers_88, s_X10_layOthers_89, s_X10_layOthers_92, s_X10_layOthers_95, s_X10_layOthers_98, s_X10_layOthers_99, s_X10_layOthers_102]
      refine ⟨fun _ => ⟨rfl, ?_⟩, fun hc => absurd ((sI_le (by decide) (by decide)).mpr (Nat.le_refl _)) hc⟩
      exact lp2 n 0 c1 zrB 0 (by omega) (Nat.le_refl _) hf e53 (hi.cg hv) h61 rfl rfl
    | succ rem ih =>
      intro j c1 val hj hf e53 hi h61 hv
      rw [s_X10_layOthers_7]
      simp only [s_X10_layOthers_0, s_X10_layOthers_1, s_X10_layOthers_2, s_X10_layOthers_5, s_X10_layOthers_6, s_X10_layOthers_8, s_X10_layOthers_10, s_X10_layOthers_13, s_X10_layOthers_14, s_X10_layOthers_17, s_X10_layOthers_18, s_X10_layOthers_19, s_X10_layOthers_20, s_X10_layOthers_23, s_X10_layOthers_26, s_X10_layOthers_27, s_X10_layOthers_29, s_X10_layOthers_30, s_X10_layOthers_33, s_X10_layOthers_36, s_X10_layOthers_37, s_X10_layOthers_38, s_X10_layOthers_41, s_X10_layOthers_42, s_X10_layOthers_45, s_X10_layOthers_46, s_X10_layOthers_49, s_X10_layOthers_50, s_X10_layOthers_51, s_X10_layOthers_52, s_X10_layOthers_53, s_X10_layOthers_54, s_X10_layOthers_57, s_X10_layOthers_58, s_X10_layOthers_59, s_X10_layOthers_62, s_X10_layOthers_63, s_X10_layOthers_66, s_X10_layOthers_67, s_X10_layOthers_68, s_X10_layOthers_69, s_X10_layOthers_70, s_X10_layOthers_71, s_X10_layOthers_74, s_X10_layOthers_75, s_X10_layOthers_78, s_X10_layOthers_79, s_X10_layOthers_80, s_X10_layOthers_83, s_X10_layOthers_84, s_X10_layOthers_87, s_X10_layOthers_88, s_X10_layOthers_89, s_X10_layOthers_92, s_X10_layOthers_95, s_X10_layOthers_98, s_X10_layOthers_99, s_X10_layOthers_102, gm10 e53, nI_add, sI_le (show 7 < 100000 by omega) (show j < 100000 by omega)]
      refine ⟨fun hc => absurd hc (by omega), fun _ => si_i hi (by decide) (by omega) (by decide) fun c2 hf2 hi2 => ?_⟩
      exact ⟨rfl, ih (j + 1) c2 _ (by omega) (hf.trans (hf2.mono rfl)) ((hf2 53 rfl).trans e53) hi2 (h61.fr hf2 rfl) (fillI hv rfl)⟩
  obtain ⟨g, hg⟩ := h59
  obtain ⟨g', hg'⟩ := h61
  exact lp1 7 0 _ g (by omega) hc0 fup_self ⟨g, (fup_ne (by decide)).trans hg, fun _ _ => rfl⟩ ⟨g', (fup_ne (by decide)).trans hg'⟩ (fun j hj => absurd hj (by omega))
end MY
