/-! ===== the model: fits, could ===== -/
def WRO (c : Nat → rE) (n : Nat) (s : Nat → Nat) : Prop := ∃ wr, isI c 65 6 wr ∧ ∀ j, j < n → wr j = nI (s j)
theorem WRO.fr {M : List Nat} {c c' : Nat → rE} {n : Nat} {s : Nat → Nat} (h : WRO c n s) (hf : frm M c c') (hr : M.contains 65 = false) : WRO c' n s := h.elim fun wr hw => ⟨wr, hw.1.fr hf hr, hw.2⟩
theorem WRO.ty {c : Nat → rE} {n : Nat} {s : Nat → Nat} (h : WRO c n s) : tyI c 65 6 := h.elim fun _ hw => hw.1.ty
theorem orS_or {p : Nat → Bool} {b : Int32} : ∀ r i a, orS p r i (a ||| b) = orS p r i a ||| b
  | 0, _, _ => rfl
  | r + 1, i, a => by
    rw [orS, orS]
    cases p i with
    | false => exact orS_or r (i + 1) a
    | true =>
      rw [if_pos rfl, if_pos rfl, show a ||| b ||| sh1 i = (a ||| sh1 i) ||| b by rw [Int32.or_assoc, Int32.or_comm b, ← Int32.or_assoc]]
      exact orS_or r (i + 1) _
theorem or_step {p q : Nat → Bool} {y0 : Nat} (hq : ∀ y, q y = (p y || (y == y0))) : ∀ r i a, i ≤ y0 → y0 < i + r → orS q r i a = orS p r i a ||| sh1 y0
  | 0, i, a, h1, h2 => by omega
  | r + 1, i, a, h1, h2 => by
    rw [orS, orS]
    by_cases e : i = y0
    · subst e
      have hqi : q i = true := by rw [hq i]; simp
      have hcg : ∀ b, orS q r (i + 1) b = orS p r (i + 1) b := fun b => orS_cg r (i + 1) b (fun j h3 _ => by
        rw [hq j]
        have : (j == i) = false := by simp; omega
        rw [this, Bool.or_false])
      rw [hqi, if_pos rfl, hcg, ← orS_or]
      congr 1
      cases p i with
      | false => rfl
      | true => rw [if_pos rfl, Int32.or_assoc, Int32.or_self]
    · have hqi : q i = p i := by
        rw [hq i]
        have : (i == y0) = false := by simp; omega
        rw [this, Bool.or_false]
      rw [hqi]
      exact or_step hq r (i + 1) _ (by omega) (by omega)
section MW
variable {ro : rQ} {d : Nat} {R : rR} {c c' c0 c1 c2 : Nat → rE} {h : rH} {n m v si sg k t s i q : Nat} {w fo w' fl : Nat → Nat} {st pd b : Nat → Int32} {im : Nat → Option TS} {x y z men law sii sgg fr : Int32} {ru lu : Int64}
theorem sp_X10_layWrote {e : Nat} (hn : 2 ≤ n ∧ n ≤ 6) (hm : 2 ≤ m ∧ m ≤ 6) (he : e < m ^ n) (h53 : c 53 = mobj (nI n) (nI m) law sii sgg fr ru lu) (h65 : tyI c 65 6) (hk : ∀ c', frm [65] c c' → WRO c' n (rwC m n e) → R none (tab c')) : rM ro (d + 1) 153 0 0 [.ref 53, .int (nI e)] (tab c) R := by
  have hpw := pw_le (m := m) (n := n) hm.2 hn.2
  have lp : ∀ i c1 wr, i ≤ n → frm [65] c c1 → isI c1 65 6 wr → (∀ j, i ≤ j → j < n → wr j = nI (rwC m n e j)) → rU ro d tb_X10_layWrote R 9 [.ref 53, .int (nI e), .int (nI (e / m ^ (n - i))), .int (dnI i)] [] (tab c1) := by
    intro i
    induction i with
    | zero =>
      intro c1 wr _ f1 i65 hw
      rw [s_X10_layWrote_9]
      simp only [s_X10_layWrote_0, s_X10_layWrote_1, s_X10_layWrote_2, s_X10_layWrote_3, s_X10_layWrote_6, s_X10_layWrote_7, s_X10_layWrote_8, s_X10_layWrote_10, s_X10_layWrote_13, s_X10_layWrote_14, s_X10_layWrote_17, s_X10_layWrote_18, s_X10_layWrote_19, s_X10_layWrote_20, s_X10_layWrote_23, s_X10_layWrote_24, s_X10_layWrote_25, s_X10_layWrote_26, s_X10_layWrote_27, s_X10_layWrote_28, s_X10_layWrote_29, s_X10_layWrote_32, s_X10_layWrote_33, s_X10_layWrote_34, s_X10_layWrote_37, s_X10_layWrote_40]
      exact ⟨fun _ => hk c1 f1 ⟨wr, i65, fun j hj => hw j (by omega) hj⟩, fun q => absurd (by decide) q⟩
    | succ i ih =>
      intro c1 wr hi f1 i65 hw
      have e53 := (f1 53 rfl).trans h53
      have hdn : dnI (i + 1) = nI i := by unfold dnI; rw [if_neg (by omega), Nat.add_sub_cancel]
      have hL : e / m ^ (n - (i + 1)) ≤ e := Nat.div_le_self _ _
      have hrem : nI (e / m ^ (n - (i + 1))) - nI (e / m ^ (n - (i + 1))) / nI m * nI m = nI (e / m ^ (n - (i + 1)) % m) := nI_rem (by omega) (by omega)
      have hdv : nI (e / m ^ (n - (i + 1))) / nI m = nI (e / m ^ (n - (i + 1)) / m) := nI_div (by omega) (by omega)
      have hd1 : e / m ^ (n - (i + 1)) % m + 1 = rwC m n e i := by
        unfold rwC
        rw [show n - (i + 1) = n - 1 - i by omega]
      have hd2 : e / m ^ (n - (i + 1)) / m = e / m ^ (n - i) := by
        rw [Nat.div_div_eq_div_mul, ← Nat.pow_succ, show (n - (i + 1)).succ = n - i by omega]
      have hm0 : ¬ nI m = 0 := fun q => by
        have := (sI_eq (a := m) (b := 0) (by omega) (by decide)).mp (q.trans nI_0.symm)
        omega
      rw [hdn, s_X10_layWrote_9]
      simp only [s_X10_layWrote_0, s_X10_layWrote_1, s_X10_layWrote_2, s_X10_layWrote_3, s_X10_layWrote_6, s_X10_layWrote_7, s_X10_layWrote_8, s_X10_layWrote_10, s_X10_layWrote_13, s_X10_layWrote_14, s_X10_layWrote_17, s_X10_layWrote_18, s_X10_layWrote_19, s_X10_layWrote_20, s_X10_layWrote_23, s_X10_layWrote_24, s_X10_layWrote_25, s_X10_layWrote_26, s_X10_layWrote_27, s_X10_layWrote_28, s_X10_layWrote_29, s_X10_layWrote_32, s_X10_layWrote_33, s_X10_layWrote_34, s_X10_layWrote_37, s_X10_layWrote_40, sI_lt0 (show i < 100000 by omega), gm19 e53, gm1 e53, hrem, nI_add, hd1]
      refine ⟨False.elim, fun _ => ⟨hm0, si_i i65 (by decide) (by omega) (by decide) fun c2 f2 hi2 => ?_⟩⟩
      have e53 := (f2 53 rfl).trans e53
      simp only [s_X10_layWrote_0, s_X10_layWrote_1, s_X10_layWrote_2, s_X10_layWrote_3, s_X10_layWrote_6, s_X10_layWrote_7, s_X10_layWrote_8, s_X10_layWrote_10, s_X10_layWrote_13, s_X10_layWrote_14, s_X10_layWrote_17, s_X10_layWrote_18, s_X10_layWrote_19, s_X10_layWrote_20, s_X10_layWrote_23, s_X10_layWrote_24, s_X10_layWrote_25, s_X10_layWrote_26, s_X10_layWrote_27, s_X10_layWrote_28, s_X10_layWrote_29, s_X10_layWrote_32, s_X10_layWrote_33, s_X10_layWrote_34, s_X10_layWrote_37, s_X10_layWrote_40, gm1 e53, hdv, hd2, dn_s]
      refine ⟨hm0, rfl, rfl, ih c2 _ (by omega) (f1.trans f2) hi2 (fun j h1 h2 => ?_)⟩
      by_cases ej : j = i
      · rw [ej, upd_self]
      · rw [upd_ne ej]; exact hw j (by omega) h2
  rw [en_X10_layWrote]
  simp only [s_X10_layWrote_0, s_X10_layWrote_1, s_X10_layWrote_2, s_X10_layWrote_3, s_X10_layWrote_6, s_X10_layWrote_7, s_X10_layWrote_8, s_X10_layWrote_10, s_X10_layWrote_13, s_X10_layWrote_14, s_X10_layWrote_17, s_X10_layWrote_18, s_X10_layWrote_19, s_X10_layWrote_20, s_X10_layWrote_23, s_X10_layWrote_24, s_X10_layWrote_25, s_X10_layWrote_26, s_X10_layWrote_27, s_X10_layWrote_28, s_X10_layWrote_29, s_X10_layWrote_32, s_X10_layWrote_33, s_X10_layWrote_34, s_X10_layWrote_37, s_X10_layWrote_40, gm0 h53, sI_sub (show 1 ≤ n by omega)]
  refine ⟨rfl, rfl, ?_⟩
  obtain ⟨g, hg⟩ := h65
  have := lp n c g (Nat.le_refl _) frm.rf ⟨g, hg, fun _ _ => rfl⟩ (fun j h1 h2 => absurd h2 (by omega))
  rw [Nat.sub_self, Nat.pow_zero, Nat.div_one, show dnI n = nI (n - 1) by unfold dnI; rw [if_neg (by omega)]] at this
  exact this
theorem sp_X10_codes (hn : 2 ≤ n ∧ n ≤ 6) (hm : 2 ≤ m ∧ m ≤ 6) (h53 : c 53 = mobj (nI n) (nI m) law sii sgg fr ru lu) (hk : R (some (.int (nI (m ^ n)))) (tab c)) : rM ro (d + 1) 159 0 0 [.ref 53] (tab c) R := by
  rw [en_X10_codes]
  simp only [s_X10_codes_0, s_X10_codes_1, s_X10_codes_2, s_X10_codes_3, s_X10_codes_5, s_X10_codes_6, s_X10_codes_9, s_X10_codes_12, s_X10_codes_13, s_X10_codes_14, s_X10_codes_17, s_X10_codes_18, s_X10_codes_19, s_X10_codes_22, s_X10_codes_25, s_X10_codes_26]
  refine ⟨rfl, rfl, ?_⟩
  have lp : ∀ rem i, i + rem = n → rU ro d tb_X10_codes R 4 [.ref 53, .int (nI (m ^ i)), .int (nI i)] [] (tab c) := by
    intro rem
    induction rem with
    | zero =>
      intro i hi
      have : i = n := by omega
      subst this
      rw [s_X10_codes_4]
      simp only [s_X10_codes_0, s_X10_codes_1, s_X10_codes_2, s_X10_codes_3, s_X10_codes_5, s_X10_codes_6, s_X10_codes_9, s_X10_codes_12, s_X10_codes_13, s_X10_codes_14, s_X10_codes_17, s_X10_codes_18, s_X10_codes_19, s_X10_codes_22, s_X10_codes_25, s_X10_codes_26, gm0 h53]
      exact ⟨fun _ => hk, fun hc => absurd ((sI_le (by omega) (by omega)).mpr (Nat.le_refl _)) hc⟩
    | succ rem ih =>
      intro i hi
      have := ih (i + 1) (by omega)
      rw [s_X10_codes_4]
      simp only [s_X10_codes_0, s_X10_codes_1, s_X10_codes_2, s_X10_codes_3, s_X10_codes_5, s_X10_codes_6, s_X10_codes_9, s_X10_codes_12, s_X10_codes_13, s_X10_codes_14, s_X10_codes_17, s_X10_codes_18, s_X10_codes_19, s_X10_codes_22, s_X10_codes_25, s_X10_codes_26, gm0 h53, gm1 h53, nI_mul, nI_add, sI_le (show n < 100000 by omega) (show i < 100000 by omega)]
      rw [Nat.pow_succ] at this
      exact ⟨fun hc => absurd hc (by omega), fun _ => ⟨rfl, rfl, this⟩⟩
  exact lp n 0 (by omega)
theorem sp_X10_isSeen {e : Nat} (hV : VS (n, m, v, w, fo, si, st)) (he : e < m ^ n) (h53 : c 53 = mobj (nI n) (nI m) (nI v) (nI si) sgg fr ru lu) (h56 : isI c 56 18 st) (h58 : tyI c 58 7) (h65 : tyI c 65 6) (hk : ∀ c', frm [58, 65] c c' → tyI c' 58 7 → WRO c' n (rwC m n e) → R (some (.int (b2 (pC (n, m, v, w, fo, si, st) e = true)))) (tab c')) : rM ro (d + 3) 158 0 0 [.ref 53, .int (nI e)] (tab c) R := by
  have hn := hV.1
  have hm := hV.2.1
  have hsi : si ≤ 6 := hV.2.2.2.2.2.2.2.2.1
  rw [en_X10_isSeen]
  simp only [s_X10_isSeen_0, s_X10_isSeen_1, s_X10_isSeen_2, s_X10_isSeen_5, s_X10_isSeen_6, s_X10_isSeen_9, s_X10_isSeen_10, s_X10_isSeen_12, s_X10_isSeen_13, s_X10_isSeen_16, s_X10_isSeen_19, s_X10_isSeen_20, s_X10_isSeen_23, s_X10_isSeen_24, s_X10_isSeen_27, s_X10_isSeen_28, s_X10_isSeen_29, s_X10_isSeen_30, s_X10_isSeen_31, s_X10_isSeen_32, s_X10_isSeen_33, s_X10_isSeen_34, s_X10_isSeen_37, s_X10_isSeen_40, s_X10_isSeen_41, s_X10_isSeen_42, s_X10_isSeen_45, s_X10_isSeen_48, s_X10_isSeen_49, s_X10_isSeen_50, s_X10_isSeen_51, s_X10_isSeen_52, s_X10_isSeen_56, s_X10_isSeen_57, s_X10_isSeen_60, s_X10_isSeen_63, s_X10_isSeen_64, s_X10_isSeen_67, s_X10_isSeen_68, s_X10_isSeen_70, s_X10_isSeen_71, s_X10_isSeen_72, s_X10_isSeen_73, s_X10_isSeen_74, s_X10_isSeen_76, s_X10_isSeen_77, s_X10_isSeen_80, s_X10_isSeen_81, s_X10_isSeen_83, s_X10_isSeen_84, s_X10_isSeen_85, s_X10_isSeen_86, s_X10_isSeen_87, s_X10_isSeen_89, s_X10_isSeen_90, s_X10_isSeen_93, s_X10_isSeen_94, s_X10_isSeen_97, s_X10_isSeen_98, s_X10_isSeen_100, s_X10_isSeen_101, s_X10_isSeen_102, s_X10_isSeen_103, s_X10_isSeen_106, s_X10_isSeen_107, s_X10_isSeen_110, s_X10_isSeen_113, s_X10_isSeen_114, s_X10_isSeen_117, s_X10_isSeen_119, s_X10_isSeen_120, s_X10_isSeen_122, s_X10_isSeen_125, s_X10_isSeen_126, s_X10_isSeen_129, s_X10_isSeen_130, s_X10_isSeen_132, s_X10_isSeen_133, s_X10_isSeen_134, s_X10_isSeen_135, s_X10_isSeen_138, s_X10_isSeen_139, s_X10_isSeen_141, s_X10_isSeen_144, s_X10_isSeen_145, s_X10_isSeen_148, s_X10_isSeen_149, s_X10_isSeen_150, s_X10_isSeen_153, s_X10_isSeen_156, s_X10_isSeen_157, vm_o h53]
  refine sp_X10_layWrote hn hm he h53 h65 fun c1 f1 hw1 => ?_
  have e53 := (f1 53 rfl).trans h53
  simp only [Option.toList_some, Option.toList_none, List.cons_append, List.nil_append, Option.toList, s_X10_isSeen_0, s_X10_isSeen_1, s_X10_isSeen_2, s_X10_isSeen_5, s_X10_isSeen_6, s_X10_isSeen_9, s_X10_isSeen_10, s_X10_isSeen_12, s_X10_isSeen_13, s_X10_isSeen_16, s_X10_isSeen_19, s_X10_isSeen_20, s_X10_isSeen_23, s_X10_isSeen_24, s_X10_isSeen_27, s_X10_isSeen_28, s_X10_isSeen_29, s_X10_isSeen_30, s_X10_isSeen_31, s_X10_isSeen_32, s_X10_isSeen_33, s_X10_isSeen_34, s_X10_isSeen_37, s_X10_isSeen_40, s_X10_isSeen_41, s_X10_isSeen_42, s_X10_isSeen_45, s_X10_isSeen_48, s_X10_isSeen_49, s_X10_isSeen_50, s_X10_isSeen_51, s_X10_isSeen_52, s_X10_isSeen_56, s_X10_isSeen_57, s_X10_isSeen_60, s_X10_isSeen_63, s_X10_isSeen_64, s_X10_isSeen_67, s_X10_isSeen_68, s_X10_isSeen_70, s_X10_isSeen_71, s_X10_isSeen_72, s_X10_isSeen_73, s_X10_isSeen_74, s_X10_isSeen_76, s_X10_isSeen_77, s_X10_isSeen_80, s_X10_isSeen_81, s_X10_isSeen_83, s_X10_isSeen_84, s_X10_isSeen_85, s_X10_isSeen_86, s_X10_isSeen_87, s_X10_isSeen_89, s_X10_isSeen_90, s_X10_isSeen_93, s_X10_isSeen_94, s_X10_isSeen_97, s_X10_isSeen_98, s_X10_isSeen_100, s_X10_isSeen_101, s_X10_isSeen_102, s_X10_isSeen_103, s_X10_isSeen_106, s_X10_isSeen_107, s_X10_isSeen_110, s_X10_isSeen_113, s_X10_isSeen_114, s_X10_isSeen_117, s_X10_isSeen_119, s_X10_isSeen_120, s_X10_isSeen_122, s_X10_isSeen_125, s_X10_isSeen_126, s_X10_isSeen_129, s_X10_isSeen_130, s_X10_isSeen_132, s_X10_isSeen_133, s_X10_isSeen_134, s_X10_isSeen_135, s_X10_isSeen_138, s_X10_isSeen_139, s_X10_isSeen_141, s_X10_isSeen_144, s_X10_isSeen_145, s_X10_isSeen_148, s_X10_isSeen_149, s_X10_isSeen_150, s_X10_isSeen_153, s_X10_isSeen_156, s_X10_isSeen_157, vm_o e53]
  refine sp_X10_nobodyWrote e53 (h58.fr f1 rfl) fun c2 f2 hi2 => ?_
  simp only [Option.toList_some, Option.toList_none, List.cons_append, List.nil_append, Option.toList, s_X10_isSeen_0, s_X10_isSeen_1, s_X10_isSeen_2, s_X10_isSeen_5, s_X10_isSeen_6, s_X10_isSeen_9, s_X10_isSeen_10, s_X10_isSeen_12, s_X10_isSeen_13, s_X10_isSeen_16, s_X10_isSeen_19, s_X10_isSeen_20, s_X10_isSeen_23, s_X10_isSeen_24, s_X10_isSeen_27, s_X10_isSeen_28, s_X10_isSeen_29, s_X10_isSeen_30, s_X10_isSeen_31, s_X10_isSeen_32, s_X10_isSeen_33, s_X10_isSeen_34, s_X10_isSeen_37, s_X10_isSeen_40, s_X10_isSeen_41, s_X10_isSeen_42, s_X10_isSeen_45, s_X10_isSeen_48, s_X10_isSeen_49, s_X10_isSeen_50, s_X10_isSeen_51, s_X10_isSeen_52, s_X10_isSeen_56, s_X10_isSeen_57, s_X10_isSeen_60, s_X10_isSeen_63, s_X10_isSeen_64, s_X10_isSeen_67, s_X10_isSeen_68, s_X10_isSeen_70, s_X10_isSeen_71, s_X10_isSeen_72, s_X10_isSeen_73, s_X10_isSeen_74, s_X10_isSeen_76, s_X10_isSeen_77, s_X10_isSeen_80, s_X10_isSeen_81, s_X10_isSeen_83, s_X10_isSeen_84, s_X10_isSeen_85, s_X10_isSeen_86, s_X10_isSeen_87, s_X10_isSeen_89, s_X10_isSeen_90, s_X10_isSeen_93, s_X10_isSeen_94, s_X10_isSeen_97, s_X10_isSeen_98, s_X10_isSeen_100, s_X10_isSeen_101, s_X10_isSeen_102, s_X10_isSeen_103, s_X10_isSeen_106, s_X10_isSeen_107, s_X10_isSeen_110, s_X10_isSeen_113, s_X10_isSeen_114, s_X10_isSeen_117, s_X10_isSeen_119, s_X10_isSeen_120, s_X10_isSeen_122, s_X10_isSeen_125, s_X10_isSeen_126, s_X10_isSeen_129, s_X10_isSeen_130, s_X10_isSeen_132, s_X10_isSeen_133, s_X10_isSeen_134, s_X10_isSeen_135, s_X10_isSeen_138, s_X10_isSeen_139, s_X10_isSeen_141, s_X10_isSeen_144, s_X10_isSeen_145, s_X10_isSeen_148, s_X10_isSeen_149, s_X10_isSeen_150, s_X10_isSeen_153, s_X10_isSeen_156, s_X10_isSeen_157]
  refine ⟨rfl, ?_⟩
  have hw2 := hw1.fr f2 rfl
  have hwsl : ∀ j, 1 ≤ rwC m n e j ∧ rwC m n e j ≤ m := fun j => rwC_le (by omega)
  have lp : ∀ rem i c3 b, i + rem = n → frm [58, 65] c c3 → isI c3 58 7 b → WRO c3 n (rwC m n e) → slB (rwC m n e) rem i b = slB (rwC m n e) n 0 zrB → rU ro (d + 2) tb_X10_isSeen R 11 [.ref 53, .int (nI e), .int (nI i), .null, .null, .null, .null] [] (tab c3) := by
    intro rem
    induction rem with
    | zero =>
      intro i c3 b hi f3 hi3 hw3 hb
      have : i = n := by omega
      subst this
      rw [slB] at hb
      subst hb
      have e53 := (f3 53 rfl).trans h53
      have i56 := h56.fr f3 rfl
      obtain ⟨wr, i65, hwr⟩ := id hw3
      rw [s_X10_isSeen_11]
      simp only [s_X10_isSeen_0, s_X10_isSeen_1, s_X10_isSeen_2, s_X10_isSeen_5, s_X10_isSeen_6, s_X10_isSeen_9, s_X10_isSeen_10, s_X10_isSeen_12, s_X10_isSeen_13, s_X10_isSeen_16, s_X10_isSeen_19, s_X10_isSeen_20, s_X10_isSeen_23, s_X10_isSeen_24, s_X10_isSeen_27, s_X10_isSeen_28, s_X10_isSeen_29, s_X10_isSeen_30, s_X10_isSeen_31, s_X10_isSeen_32, s_X10_isSeen_33, s_X10_isSeen_34, s_X10_isSeen_37, s_X10_isSeen_40, s_X10_isSeen_41, s_X10_isSeen_42, s_X10_isSeen_45, s_X10_isSeen_48, s_X10_isSeen_49, s_X10_isSeen_50, s_X10_isSeen_51, s_X10_isSeen_52, s_X10_isSeen_56, s_X10_isSeen_57, s_X10_isSeen_60, s_X10_isSeen_63, s_X10_isSeen_64, s_X10_isSeen_67, s_X10_isSeen_68, s_X10_isSeen_70, s_X10_isSeen_71, s_X10_isSeen_72, s_X10_isSeen_73, s_X10_isSeen_74, s_X10_isSeen_76, s_X10_isSeen_77, s_X10_isSeen_80, s_X10_isSeen_81, s_X10_isSeen_83, s_X10_isSeen_84, s_X10_isSeen_85, s_X10_isSeen_86, s_X10_isSeen_87, s_X10_isSeen_89, s_X10_isSeen_90, s_X10_isSeen_93, s_X10_isSeen_94, s_X10_isSeen_97, s_X10_isSeen_98, s_X10_isSeen_100, s_X10_isSeen_101, s_X10_isSeen_102, s_X10_isSeen_103, s_X10_isSeen_106, s_X10_isSeen_107, s_X10_isSeen_110, s_X10_isSeen_113, s_X10_isSeen_114, s_X10_isSeen_117, s_X10_isSeen_119, s_X10_isSeen_120, s_X10_isSeen_122, s_X10_isSeen_125, s_X10_isSeen_126, s_X10_isSeen_129, s_X10_isSeen_130, s_X10_isSeen_132, s_X10_isSeen_133, s_X10_isSeen_134, s_X10_isSeen_135, s_X10_isSeen_138, s_X10_isSeen_139, s_X10_isSeen_141, s_X10_isSeen_144, s_X10_isSeen_145, s_X10_isSeen_148, s_X10_isSeen_149, s_X10_isSeen_150, s_X10_isSeen_153, s_X10_isSeen_156, s_X10_isSeen_157, gm0 e53, gm9 e53, vm_o e53]
      refine ⟨fun _ => sp_X10_winner' e53 hi3 (by decide) hm.2 hV.2.2.1 ?_, fun hc => absurd ((sI_le (by omega) (by omega)).mpr (Nat.le_refl _)) hc⟩
      have hwq : winF v m (slB (rwC m i e) i 0 zrB) = wsF (i, m, v, w, fo, si, st) (rwC m i e) := rfl
      rw [hwq]
      have hW6 : wsF (i, m, v, w, fo, si, st) (rwC m i e) ≤ 6 := by rw [← hwq]; exact Nat.le_trans winF_le hm.2
      simp only [Option.toList_some, Option.toList_none, List.cons_append, List.nil_append, Option.toList, s_X10_isSeen_0, s_X10_isSeen_1, s_X10_isSeen_2, s_X10_isSeen_5, s_X10_isSeen_6, s_X10_isSeen_9, s_X10_isSeen_10, s_X10_isSeen_12, s_X10_isSeen_13, s_X10_isSeen_16, s_X10_isSeen_19, s_X10_isSeen_20, s_X10_isSeen_23, s_X10_isSeen_24, s_X10_isSeen_27, s_X10_isSeen_28, s_X10_isSeen_29, s_X10_isSeen_30, s_X10_isSeen_31, s_X10_isSeen_32, s_X10_isSeen_33, s_X10_isSeen_34, s_X10_isSeen_37, s_X10_isSeen_40, s_X10_isSeen_41, s_X10_isSeen_42, s_X10_isSeen_45, s_X10_isSeen_48, s_X10_isSeen_49, s_X10_isSeen_50, s_X10_isSeen_51, s_X10_isSeen_52, s_X10_isSeen_56, s_X10_isSeen_57, s_X10_isSeen_60, s_X10_isSeen_63, s_X10_isSeen_64, s_X10_isSeen_67, s_X10_isSeen_68, s_X10_isSeen_70, s_X10_isSeen_71, s_X10_isSeen_72, s_X10_isSeen_73, s_X10_isSeen_74, s_X10_isSeen_76, s_X10_isSeen_77, s_X10_isSeen_80, s_X10_isSeen_81, s_X10_isSeen_83, s_X10_isSeen_84, s_X10_isSeen_85, s_X10_isSeen_86, s_X10_isSeen_87, s_X10_isSeen_89, s_X10_isSeen_90, s_X10_isSeen_93, s_X10_isSeen_94, s_X10_isSeen_97, s_X10_isSeen_98, s_X10_isSeen_100, s_X10_isSeen_101, s_X10_isSeen_102, s_X10_isSeen_103, s_X10_isSeen_106, s_X10_isSeen_107, s_X10_isSeen_110, s_X10_isSeen_113, s_X10_isSeen_114, s_X10_isSeen_117, s_X10_isSeen_119, s_X10_isSeen_120, s_X10_isSeen_122, s_X10_isSeen_125, s_X10_isSeen_126, s_X10_isSeen_129, s_X10_isSeen_130, s_X10_isSeen_132, s_X10_isSeen_133, s_X10_isSeen_134, s_X10_isSeen_135, s_X10_isSeen_138, s_X10_isSeen_139, s_X10_isSeen_141, s_X10_isSeen_144, s_X10_isSeen_145, s_X10_isSeen_148, s_X10_isSeen_149, s_X10_isSeen_150, s_X10_isSeen_153, s_X10_isSeen_156, s_X10_isSeen_157]
      refine ⟨rfl, rfl, rfl, ?_⟩
      have lp2 : ∀ rem kk (l5 l6 : Value), kk + rem = si → rU ro (d + 2) tb_X10_isSeen R 54 [.ref 53, .int (nI e), .int (wrM (wsF (i, m, v, w, fo, si, st) (rwC m i e))), .int (b2 (seeB (i, m, v, w, fo, si, st) (rwC m i e) kk = true)), .int (nI kk), l5, l6] [] (tab c3) := by
        intro rem2
        induction rem2 with
        | zero =>
          intro kk l5 l6 hkk
          have : kk = si := by omega
          subst this
          rw [s_X10_isSeen_54]
          simp only [s_X10_isSeen_0, s_X10_isSeen_1, s_X10_isSeen_2, s_X10_isSeen_5, s_X10_isSeen_6, s_X10_isSeen_9, s_X10_isSeen_10, s_X10_isSeen_12, s_X10_isSeen_13, s_X10_isSeen_16, s_X10_isSeen_19, s_X10_isSeen_20, s_X10_isSeen_23, s_X10_isSeen_24, s_X10_isSeen_27, s_X10_isSeen_28, s_X10_isSeen_29, s_X10_isSeen_30, s_X10_isSeen_31, s_X10_isSeen_32, s_X10_isSeen_33, s_X10_isSeen_34, s_X10_isSeen_37, s_X10_isSeen_40, s_X10_isSeen_41, s_X10_isSeen_42, s_X10_isSeen_45, s_X10_isSeen_48, s_X10_isSeen_49, s_X10_isSeen_50, s_X10_isSeen_51, s_X10_isSeen_52, s_X10_isSeen_56, s_X10_isSeen_57, s_X10_isSeen_60, s_X10_isSeen_63, s_X10_isSeen_64, s_X10_isSeen_67, s_X10_isSeen_68, s_X10_isSeen_70, s_X10_isSeen_71, s_X10_isSeen_72, s_X10_isSeen_73, s_X10_isSeen_74, s_X10_isSeen_76, s_X10_isSeen_77, s_X10_isSeen_80, s_X10_isSeen_81, s_X10_isSeen_83, s_X10_isSeen_84, s_X10_isSeen_85, s_X10_isSeen_86, s_X10_isSeen_87, s_X10_isSeen_89, s_X10_isSeen_90, s_X10_isSeen_93, s_X10_isSeen_94, s_X10_isSeen_97, s_X10_isSeen_98, s_X10_isSeen_100, s_X10_isSeen_101, s_X10_isSeen_102, s_X10_isSeen_103, s_X10_isSeen_106, s_X10_isSeen_107, s_X10_isSeen_110, s_X10_isSeen_113, s_X10_isSeen_114, s_X10_isSeen_117, s_X10_isSeen_119, s_X10_isSeen_120, s_X10_isSeen_122, s_X10_isSeen_125, s_X10_isSeen_126, s_X10_isSeen_129, s_X10_isSeen_130, s_X10_isSeen_132, s_X10_isSeen_133, s_X10_isSeen_134, s_X10_isSeen_135, s_X10_isSeen_138, s_X10_isSeen_139, s_X10_isSeen_141, s_X10_isSeen_144, s_X10_isSeen_145, s_X10_isSeen_148, s_X10_isSeen_149, s_X10_isSeen_150, s_X10_isSeen_153, s_X10_isSeen_156, s_X10_isSeen_157, gm5 e53]
          exact ⟨fun _ => ⟨b2_01, hk c3 f3 hi3.ty hw3⟩, fun hc => absurd ((sI_le (by omega) (by omega)).mpr (Nat.le_refl _)) hc⟩
        | succ rem2 ih2 =>
          intro kk l5 l6 hkk
          have hsee : seeB (i, m, v, w, fo, si, st) (rwC m i e) (kk + 1) = (seeB (i, m, v, w, fo, si, st) (rwC m i e) kk && decide (seC (i, m, v, w, fo, si, st) kk (rwC m i e))) := rfl
          have yes : ∀ (l3 : Int32) (l5 l6 : Value), seeB (i, m, v, w, fo, si, st) (rwC m i e) (kk + 1) = true → rU ro (d + 2) tb_X10_isSeen R 144 [.ref 53, .int (nI e), .int (wrM (wsF (i, m, v, w, fo, si, st) (rwC m i e))), .int l3, .int (nI kk), l5, l6] [] (tab c3) := by
            intro l3 l5 l6 hq
            have := ih2 (kk + 1) l5 l6 (by omega)
            rw [hq] at this
            simp only [s_X10_isSeen_0, s_X10_isSeen_1, s_X10_isSeen_2, s_X10_isSeen_5, s_X10_isSeen_6, s_X10_isSeen_9, s_X10_isSeen_10, s_X10_isSeen_12, s_X10_isSeen_13, s_X10_isSeen_16, s_X10_isSeen_19, s_X10_isSeen_20, s_X10_isSeen_23, s_X10_isSeen_24, s_X10_isSeen_27, s_X10_isSeen_28, s_X10_isSeen_29, s_X10_isSeen_30, s_X10_isSeen_31, s_X10_isSeen_32, s_X10_isSeen_33, s_X10_isSeen_34, s_X10_isSeen_37, s_X10_isSeen_40, s_X10_isSeen_41, s_X10_isSeen_42, s_X10_isSeen_45, s_X10_isSeen_48, s_X10_isSeen_49, s_X10_isSeen_50, s_X10_isSeen_51, s_X10_isSeen_52, s_X10_isSeen_56, s_X10_isSeen_57, s_X10_isSeen_60, s_X10_isSeen_63, s_X10_isSeen_64, s_X10_isSeen_67, s_X10_isSeen_68, s_X10_isSeen_70, s_X10_isSeen_71, s_X10_isSeen_72, s_X10_isSeen_73, s_X10_isSeen_74, s_X10_isSeen_76, s_X10_isSeen_77, s_X10_isSeen_80, s_X10_isSeen_81, s_X10_isSeen_83, s_X10_isSeen_84, s_X10_isSeen_85, s_X10_isSeen_86, s_X10_isSeen_87, s_X10_isSeen_89, s_X10_isSeen_90, s_X10_isSeen_93, s_X10_isSeen_94, s_X10_isSeen_97, s_X10_isSeen_98, s_X10_isSeen_100, s_X10_isSeen_101, s_X10_isSeen_102, s_X10_isSeen_103, s_X10_isSeen_106, s_X10_isSeen_107, s_X10_isSeen_110, s_X10_isSeen_113, s_X10_isSeen_114, s_X10_isSeen_117, s_X10_isSeen_119, s_X10_isSeen_120, s_X10_isSeen_122, s_X10_isSeen_125, s_X10_isSeen_126, s_X10_isSeen_129, s_X10_isSeen_130, s_X10_isSeen_132, s_X10_isSeen_133, s_X10_isSeen_134, s_X10_isSeen_135, s_X10_isSeen_138, s_X10_isSeen_139, s_X10_isSeen_141, s_X10_isSeen_144, s_X10_isSeen_145, s_X10_isSeen_148, s_X10_isSeen_149, s_X10_isSeen_150, s_X10_isSeen_153, s_X10_isSeen_156, s_X10_isSeen_157, nI_add]
            exact ⟨rfl, rfl, this⟩
          have no : ∀ (l3 : Int32) (l5 l6 : Value), seeB (i, m, v, w, fo, si, st) (rwC m i e) (kk + 1) = false → rU ro (d + 2) tb_X10_isSeen R 148 [.ref 53, .int (nI e), .int (wrM (wsF (i, m, v, w, fo, si, st) (rwC m i e))), .int l3, .int (nI kk), l5, l6] [] (tab c3) := by
            intro l3 l5 l6 hq
            have := ih2 (kk + 1) l5 l6 (by omega)
            rw [hq] at this
            simp only [s_X10_isSeen_0, s_X10_isSeen_1, s_X10_isSeen_2, s_X10_isSeen_5, s_X10_isSeen_6, s_X10_isSeen_9, s_X10_isSeen_10, s_X10_isSeen_12, s_X10_isSeen_13, s_X10_isSeen_16, s_X10_isSeen_19, s_X10_isSeen_20, s_X10_isSeen_23, s_X10_isSeen_24, s_X10_isSeen_27, s_X10_isSeen_28, s_X10_isSeen_29, s_X10_isSeen_30, s_X10_isSeen_31, s_X10_isSeen_32, s_X10_isSeen_33, s_X10_isSeen_34, s_X10_isSeen_37, s_X10_isSeen_40, s_X10_isSeen_41, s_X10_isSeen_42, s_X10_isSeen_45, s_X10_isSeen_48, s_X10_isSeen_49, s_X10_isSeen_50, s_X10_isSeen_51, s_X10_isSeen_52, s_X10_isSeen_56, s_X10_isSeen_57, s_X10_isSeen_60, s_X10_isSeen_63, s_X10_isSeen_64, s_X10_isSeen_67, s_X10_isSeen_68, s_X10_isSeen_70, s_X10_isSeen_71, s_X10_isSeen_72, s_X10_isSeen_73, s_X10_isSeen_74, s_X10_isSeen_76, s_X10_isSeen_77, s_X10_isSeen_80, s_X10_isSeen_81, s_X10_isSeen_83, s_X10_isSeen_84, s_X10_isSeen_85, s_X10_isSeen_86, s_X10_isSeen_87, s_X10_isSeen_89, s_X10_isSeen_90, s_X10_isSeen_93, s_X10_isSeen_94, s_X10_isSeen_97, s_X10_isSeen_98, s_X10_isSeen_100, s_X10_isSeen_101, s_X10_isSeen_102, s_X10_isSeen_103, s_X10_isSeen_106, s_X10_isSeen_107, s_X10_isSeen_110, s_X10_isSeen_113, s_X10_isSeen_114, s_X10_isSeen_117, s_X10_isSeen_119, s_X10_isSeen_120, s_X10_isSeen_122, s_X10_isSeen_125, s_X10_isSeen_126, s_X10_isSeen_129, s_X10_isSeen_130, s_X10_isSeen_132, s_X10_isSeen_133, s_X10_isSeen_134, s_X10_isSeen_135, s_X10_isSeen_138, s_X10_isSeen_139, s_X10_isSeen_141, s_X10_isSeen_144, s_X10_isSeen_145, s_X10_isSeen_148, s_X10_isSeen_149, s_X10_isSeen_150, s_X10_isSeen_153, s_X10_isSeen_156, s_X10_isSeen_157, nI_add]
            exact ⟨rfl, rfl, this⟩
          have hge : (0 ≤ wrM (wsF (i, m, v, w, fo, si, st) (rwC m i e))) ↔ ¬ wsF (i, m, v, w, fo, si, st) (rwC m i e) = 0 := by
            rw [← wrM_neg hW6, Int32.not_lt]
          have hst : st (3 * kk) = sH (i, m, v, w, fo, si, st) kk := rfl
          rw [s_X10_isSeen_54]
          simp only [s_X10_isSeen_0, s_X10_isSeen_1, s_X10_isSeen_2, s_X10_isSeen_5, s_X10_isSeen_6, s_X10_isSeen_9, s_X10_isSeen_10, s_X10_isSeen_12, s_X10_isSeen_13, s_X10_isSeen_16, s_X10_isSeen_19, s_X10_isSeen_20, s_X10_isSeen_23, s_X10_isSeen_24, s_X10_isSeen_27, s_X10_isSeen_28, s_X10_isSeen_29, s_X10_isSeen_30, s_X10_isSeen_31, s_X10_isSeen_32, s_X10_isSeen_33, s_X10_isSeen_34, s_X10_isSeen_37, s_X10_isSeen_40, s_X10_isSeen_41, s_X10_isSeen_42, s_X10_isSeen_45, s_X10_isSeen_48, s_X10_isSeen_49, s_X10_isSeen_50, s_X10_isSeen_51, s_X10_isSeen_52, s_X10_isSeen_56, s_X10_isSeen_57, s_X10_isSeen_60, s_X10_isSeen_63, s_X10_isSeen_64, s_X10_isSeen_67, s_X10_isSeen_68, s_X10_isSeen_70, s_X10_isSeen_71, s_X10_isSeen_72, s_X10_isSeen_73, s_X10_isSeen_74, s_X10_isSeen_76, s_X10_isSeen_77, s_X10_isSeen_80, s_X10_isSeen_81, s_X10_isSeen_83, s_X10_isSeen_84, s_X10_isSeen_85, s_X10_isSeen_86, s_X10_isSeen_87, s_X10_isSeen_89, s_X10_isSeen_90, s_X10_isSeen_93, s_X10_isSeen_94, s_X10_isSeen_97, s_X10_isSeen_98, s_X10_isSeen_100, s_X10_isSeen_101, s_X10_isSeen_102, s_X10_isSeen_103, s_X10_isSeen_106, s_X10_isSeen_107, s_X10_isSeen_110, s_X10_isSeen_113, s_X10_isSeen_114, s_X10_isSeen_117, s_X10_isSeen_119, s_X10_isSeen_120, s_X10_isSeen_122, s_X10_isSeen_125, s_X10_isSeen_126, s_X10_isSeen_129, s_X10_isSeen_130, s_X10_isSeen_132, s_X10_isSeen_133, s_X10_isSeen_134, s_X10_isSeen_135, s_X10_isSeen_138, s_X10_isSeen_139, s_X10_isSeen_141, s_X10_isSeen_145, s_X10_isSeen_149, s_X10_isSeen_150, s_X10_isSeen_153, s_X10_isSeen_156, s_X10_isSeen_157, gm5 e53, gm6 e53, gm19 e53, b2_0, nI_mul, nI_add, sI_le (show si < 100000 by omega) (show kk < 100000 by omega), ai_i i56 (show 56 < 70 by decide) (show 3 * kk < 18 by omega) (by decide), ai_i i56 (show 56 < 70 by decide) (show 3 * kk + 1 < 18 by omega) (by decide), ai_i i56 (show 56 < 70 by decide) (show 3 * kk + 2 < 18 by omega) (by decide), hst, hge]
          refine ⟨fun hc => absurd hc (by omega), fun _ => ⟨rfl, rfl, fun hb => no _ _ _ ?_, fun hb => ?_⟩⟩
          · have hb : seeB (i, m, v, w, fo, si, st) (rwC m i e) kk = false := by simpa using hb
            rw [hsee, hb]; rfl
          have hb := Decidable.not_not.mp hb
          rw [hb, Bool.true_and] at hsee
          refine ⟨fun h2 => ⟨fun hw0 => no _ _ _ ?_, fun hw0 => yes _ _ _ ?_⟩, fun h2 => ?_⟩
          · rw [hsee, decide_eq_false]
            unfold seC
            rw [if_pos h2]
            exact hw0
          · rw [hsee, decide_eq_true]
            unfold seC
            rw [if_pos h2]
            exact Decidable.not_not.mp hw0
          obtain ⟨h01, ha, hx1, hx2, ea, ex⟩ := (hV.sg (show kk < si by omega)).resolve_left h2
          have hwa := hwsl (sA (i, m, v, w, fo, si, st) kk)
          rw [ea, ex]
          simp only [ai_i i65 (show 65 < 70 by decide) (show sA (i, m, v, w, fo, si, st) kk < 6 by omega) (by decide), hwr _ ha, sI_eq (show rwC m i e (sA (i, m, v, w, fo, si, st) kk) < 100000 by omega) (show sX (i, m, v, w, fo, si, st) kk < 100000 by omega)]
          have hwx : (wrM (wsF (i, m, v, w, fo, si, st) (rwC m i e)) = nI (sX (i, m, v, w, fo, si, st) kk)) ↔ wsF (i, m, v, w, fo, si, st) (rwC m i e) = sX (i, m, v, w, fo, si, st) kk := wrM_eq hW6 ⟨hx1, by omega⟩
          refine ⟨fun hE => ⟨fun h1 => yes _ _ _ ?_, fun h1 => ?_⟩, fun hE => no _ _ _ ?_⟩
          · rw [hsee, decide_eq_true]
            unfold seC
            rw [if_neg h2]
            exact ⟨hE, Or.inl h1⟩
          · rw [hwx]
            refine ⟨fun hq => yes _ _ _ ?_, fun hq => no _ _ _ ?_⟩
            · rw [hsee, decide_eq_true]
              unfold seC
              rw [if_neg h2]
              exact ⟨hE, Or.inr hq⟩
            · rw [hsee, decide_eq_false]
              unfold seC
              rw [if_neg h2]
              exact fun r => r.2.elim h1 hq
          · rw [hsee, decide_eq_false]
            unfold seC
            rw [if_neg h2]
            exact fun r => hE r.1
      exact lp2 si 0 _ _ (by omega)
    | succ rem ih =>
      intro i c3 b hi f3 hi3 hw3 hb
      rw [slB] at hb
      have e53 := (f3 53 rfl).trans h53
      obtain ⟨wr, i65, hwr⟩ := id hw3
      have hwi := hwsl i
      rw [s_X10_isSeen_11]
      simp only [s_X10_isSeen_0, s_X10_isSeen_1, s_X10_isSeen_2, s_X10_isSeen_5, s_X10_isSeen_6, s_X10_isSeen_9, s_X10_isSeen_10, s_X10_isSeen_12, s_X10_isSeen_13, s_X10_isSeen_16, s_X10_isSeen_19, s_X10_isSeen_20, s_X10_isSeen_23, s_X10_isSeen_24, s_X10_isSeen_27, s_X10_isSeen_28, s_X10_isSeen_29, s_X10_isSeen_30, s_X10_isSeen_31, s_X10_isSeen_32, s_X10_isSeen_33, s_X10_isSeen_34, s_X10_isSeen_37, s_X10_isSeen_40, s_X10_isSeen_41, s_X10_isSeen_42, s_X10_isSeen_45, s_X10_isSeen_48, s_X10_isSeen_49, s_X10_isSeen_50, s_X10_isSeen_51, s_X10_isSeen_52, s_X10_isSeen_56, s_X10_isSeen_57, s_X10_isSeen_60, s_X10_isSeen_63, s_X10_isSeen_64, s_X10_isSeen_67, s_X10_isSeen_68, s_X10_isSeen_70, s_X10_isSeen_71, s_X10_isSeen_72, s_X10_isSeen_73, s_X10_isSeen_74, s_X10_isSeen_76, s_X10_isSeen_77, s_X10_isSeen_80, s_X10_isSeen_81, s_X10_isSeen_83, s_X10_isSeen_84, s_X10_isSeen_85, s_X10_isSeen_86, s_X10_isSeen_87, s_X10_isSeen_89, s_X10_isSeen_90, s_X10_isSeen_93, s_X10_isSeen_94, s_X10_isSeen_97, s_X10_isSeen_98, s_X10_isSeen_100, s_X10_isSeen_101, s_X10_isSeen_102, s_X10_isSeen_103, s_X10_isSeen_106, s_X10_isSeen_107, s_X10_isSeen_110, s_X10_isSeen_113, s_X10_isSeen_114, s_X10_isSeen_117, s_X10_isSeen_119, s_X10_isSeen_120, s_X10_isSeen_122, s_X10_isSeen_125, s_X10_isSeen_126, s_X10_isSeen_129, s_X10_isSeen_130, s_X10_isSeen_132, s_X10_isSeen_133, s_X10_isSeen_134, s_X10_isSeen_135, s_X10_isSeen_138, s_X10_isSeen_139, s_X10_isSeen_141, s_X10_isSeen_144, s_X10_isSeen_145, s_X10_isSeen_148, s_X10_isSeen_149, s_X10_isSeen_150, s_X10_isSeen_153, s_X10_isSeen_156, s_X10_isSeen_157, gm0 e53, gm9 e53, gm19 e53, nI_add, sI_le (show n < 100000 by omega) (show i < 100000 by omega), ai_i i65 (show 65 < 70 by decide) (show i < 6 by omega) (by decide), hwr i (by omega), ai_i hi3 (show 58 < 70 by decide) (show rwC m n e i < 7 by omega) (by decide)]
      refine ⟨fun hc => absurd hc (by omega), fun _ => si_i hi3 (by decide) (by omega) (by decide) fun c4 f4 hi4 => ?_⟩
      exact ⟨rfl, ih (i + 1) c4 _ (by omega) (f3.trans (f4.mono rfl)) hi4 (hw3.fr f4 rfl) hb⟩
  exact lp n 0 c2 zrB (by omega) ((f1.mono rfl).trans (f2.mono rfl)) hi2 hw2 rfl
theorem mSC.sw (h : mSC c) (hf : frm [58, 65] c c') (h1 : tyI c' 58 7) (h2 : tyI c' 65 6) : mSC c' := ⟨h1, h.2.1.fr hf rfl, h.2.2.1.fr hf rfl, h.2.2.2.1.fr hf rfl, h.2.2.2.2.1.fr hf rfl, h.2.2.2.2.2.1.fr hf rfl, h.2.2.2.2.2.2.1.fr hf rfl, h2, h.2.2.2.2.2.2.2.2.1.fr hf rfl, h.2.2.2.2.2.2.2.2.2.fr hf rfl⟩
def fsI (o : Option Nat) : Int32 := match o with
  | none => - nI 6
  | some a => nI a
theorem fsI_neg {o : Option Nat} (h : ∀ a, o = some a → a < 100000) : (fsI o < 0) ↔ o = none := by
  cases o with
  | none => exact ⟨fun _ => rfl, fun _ => by unfold fsI; decide⟩
  | some a =>
    refine ⟨fun q => absurd q ((sI_lt0 (h a rfl)).mp), fun q => absurd q (by simp)⟩
theorem ml_fits (hV : VS (n, m, v, w, fo, si, st)) (hM : MS c (n, m, v, w, fo, si, st) sg pd im) (hk : ∀ c', frm MM c c' → MS c' (n, m, v, w, fo, si, st) sg pd im → R (some (.int (fitA (n, m, v, w, fo, si, st) x))) (tab c')) : rM ro (d + 4) 160 0 0 [.ref 53, .int x] (tab c) R := by
  obtain ⟨⟨⟨fr, ru, lu, h53⟩, h54, h55, h56, h57⟩, hsc, him⟩ := id hM
  have hn := hV.1
  have hm := hV.2.1
  have hpw := pw_le (m := m) (n := n) hm.2 hn.2
  have hms : ∀ c1, frm [58, 65] c c1 → tyI c1 58 7 → tyI c1 65 6 → MS c1 (n, m, v, w, fo, si, st) sg pd im := fun c1 f1 t1 t2 => hM.sc (f1.mono rfl) ⟨_, _, _, (f1 53 rfl).trans h53⟩ (hsc.sw f1 t1 t2)
  rw [en_X10_fits]
  simp only [s_X10_fits_0, s_X10_fits_1, s_X10_fits_2, s_X10_fits_4, s_X10_fits_5, s_X10_fits_6, s_X10_fits_10, s_X10_fits_11, s_X10_fits_14, s_X10_fits_17, s_X10_fits_18, s_X10_fits_20, s_X10_fits_23, s_X10_fits_26, s_X10_fits_27, s_X10_fits_30, s_X10_fits_32, s_X10_fits_35, s_X10_fits_36, s_X10_fits_37, s_X10_fits_40, s_X10_fits_43, s_X10_fits_46, s_X10_fits_47, s_X10_fits_48, s_X10_fits_51, s_X10_fits_52, s_X10_fits_53, s_X10_fits_54, s_X10_fits_57, s_X10_fits_58, s_X10_fits_59, s_X10_fits_62, s_X10_fits_65, s_X10_fits_67, s_X10_fits_68, s_X10_fits_69, s_X10_fits_70, s_X10_fits_73, s_X10_fits_74, s_X10_fits_77, s_X10_fits_78, s_X10_fits_79]
  refine ⟨rfl, rfl, rfl, ?_⟩
  have lp : ∀ rem e c1, e + rem = m ^ n → frm [58, 65] c c1 → tyI c1 58 7 → tyI c1 65 6 → rU ro (d + 3) tb_X10_fits R 8 [.ref 53, .int x, .int (nI (suR e (fun c => if pC (n, m, v, w, fo, si, st) c then 1 else 0))), .int (fsI (fsC (pC (n, m, v, w, fo, si, st)) e)), .int (nI e)] [] (tab c1) := by
    intro rem
    induction rem with
    | zero =>
      intro e c1 he f1 t58 t65
      have : e = m ^ n := by omega
      subst this
      have e53 := (f1 53 rfl).trans h53
      have hfs : ∀ a, fsC (pC (n, m, v, w, fo, si, st)) (m ^ n) = some a → a < 100000 := fun a ha => by have := (fsC_yes _ _ ha).1; omega
      rw [s_X10_fits_8]
      simp only [s_X10_fits_0, s_X10_fits_1, s_X10_fits_2, s_X10_fits_4, s_X10_fits_5, s_X10_fits_6, s_X10_fits_10, s_X10_fits_11, s_X10_fits_14, s_X10_fits_17, s_X10_fits_18, s_X10_fits_20, s_X10_fits_23, s_X10_fits_26, s_X10_fits_27, s_X10_fits_30, s_X10_fits_32, s_X10_fits_35, s_X10_fits_36, s_X10_fits_37, s_X10_fits_40, s_X10_fits_43, s_X10_fits_46, s_X10_fits_47, s_X10_fits_48, s_X10_fits_51, s_X10_fits_52, s_X10_fits_53, s_X10_fits_54, s_X10_fits_57, s_X10_fits_58, s_X10_fits_59, s_X10_fits_62, s_X10_fits_65, s_X10_fits_67, s_X10_fits_68, s_X10_fits_69, s_X10_fits_70, s_X10_fits_73, s_X10_fits_74, s_X10_fits_77, s_X10_fits_78, s_X10_fits_79, vm_o e53]
      refine sp_X10_codes hn hm e53 ?_
      simp only [Option.toList_some, Option.toList_none, List.cons_append, List.nil_append, Option.toList, s_X10_fits_0, s_X10_fits_1, s_X10_fits_2, s_X10_fits_4, s_X10_fits_5, s_X10_fits_6, s_X10_fits_10, s_X10_fits_11, s_X10_fits_14, s_X10_fits_17, s_X10_fits_18, s_X10_fits_20, s_X10_fits_23, s_X10_fits_26, s_X10_fits_27, s_X10_fits_30, s_X10_fits_32, s_X10_fits_35, s_X10_fits_36, s_X10_fits_37, s_X10_fits_40, s_X10_fits_43, s_X10_fits_46, s_X10_fits_47, s_X10_fits_48, s_X10_fits_51, s_X10_fits_52, s_X10_fits_53, s_X10_fits_54, s_X10_fits_57, s_X10_fits_58, s_X10_fits_59, s_X10_fits_62, s_X10_fits_65, s_X10_fits_67, s_X10_fits_68, s_X10_fits_69, s_X10_fits_70, s_X10_fits_73, s_X10_fits_74, s_X10_fits_77, s_X10_fits_78, s_X10_fits_79, vm_o e53, fsI_neg hfs]
      refine ⟨fun _ => ⟨fun hx => ?_, fun hx => ⟨fun hf => ?_, fun hf => sp_isMan2 e53 (by omega) ?_⟩⟩, fun hc => absurd ((sI_le (by omega) (by omega)).mpr (Nat.le_refl _)) hc⟩
      · have := hk c1 (f1.mono rfl) (hms c1 f1 t58 t65)
        rw [fitA, if_pos hx] at this
        exact this
      · have := hk c1 (f1.mono rfl) (hms c1 f1 t58 t65)
        rw [fitA, if_neg hx] at this
        rw [show fsC (pC (n, m, v, w, fo, si, st)) ((n, m, v, w, fo, si, st).2.1 ^ (n, m, v, w, fo, si, st).1) = none from hf] at this
        split at this <;> exact this
      · simp only [Option.toList_some, Option.toList_none, List.cons_append, List.nil_append, Option.toList, s_X10_fits_0, s_X10_fits_1, s_X10_fits_2, s_X10_fits_4, s_X10_fits_5, s_X10_fits_6, s_X10_fits_10, s_X10_fits_11, s_X10_fits_14, s_X10_fits_17, s_X10_fits_18, s_X10_fits_20, s_X10_fits_23, s_X10_fits_26, s_X10_fits_27, s_X10_fits_30, s_X10_fits_32, s_X10_fits_35, s_X10_fits_36, s_X10_fits_37, s_X10_fits_40, s_X10_fits_43, s_X10_fits_46, s_X10_fits_47, s_X10_fits_48, s_X10_fits_51, s_X10_fits_52, s_X10_fits_53, s_X10_fits_54, s_X10_fits_57, s_X10_fits_58, s_X10_fits_59, s_X10_fits_62, s_X10_fits_65, s_X10_fits_67, s_X10_fits_68, s_X10_fits_69, s_X10_fits_70, s_X10_fits_73, s_X10_fits_74, s_X10_fits_77, s_X10_fits_78, s_X10_fits_79, b2_0, vm_o e53]
        refine ⟨fun hq => ?_, fun hq => ?_⟩
        · have := hk c1 (f1.mono rfl) (hms c1 f1 t58 t65)
          rw [fitA, if_neg hx, if_neg hq] at this
          exact this
        · have hq := Decidable.not_not.mp hq
          cases ha : fsC (pC (n, m, v, w, fo, si, st)) (m ^ n) with
          | none => exact absurd ha hf
          | some a =>
            have hlt := (fsC_yes _ _ ha).1
            show rM ro (d + 3) 153 0 0 [.ref 53, .int (nI a)] (tab c1) _
            refine sp_X10_layWrote hn hm hlt e53 t65 fun c2 f2 hw2 => ?_
            have e53 := (f2 53 rfl).trans e53
            obtain ⟨wr, i65, hwr⟩ := id hw2
            have ff : frm [58, 65] c c2 := f1.trans (f2.mono rfl)
            have := hk c2 (ff.mono rfl) (hms c2 ff (t58.fr f2 rfl) i65.ty)
            rw [fitA, if_neg hx, if_pos hq] at this
            rw [show fsC (pC (n, m, v, w, fo, si, st)) ((n, m, v, w, fo, si, st).2.1 ^ (n, m, v, w, fo, si, st).1) = some a from ha] at this
            obtain ⟨i, hi1, hi2, rfl⟩ := inR_nI hq (by decide) (by omega)
            simp only [nI_c (show i < 100000 by omega)] at this
            simp only [Option.toList_some, Option.toList_none, List.cons_append, List.nil_append, Option.toList, s_X10_fits_0, s_X10_fits_1, s_X10_fits_2, s_X10_fits_4, s_X10_fits_5, s_X10_fits_6, s_X10_fits_10, s_X10_fits_11, s_X10_fits_14, s_X10_fits_17, s_X10_fits_18, s_X10_fits_20, s_X10_fits_23, s_X10_fits_26, s_X10_fits_27, s_X10_fits_30, s_X10_fits_32, s_X10_fits_35, s_X10_fits_36, s_X10_fits_37, s_X10_fits_40, s_X10_fits_43, s_X10_fits_46, s_X10_fits_47, s_X10_fits_48, s_X10_fits_51, s_X10_fits_52, s_X10_fits_53, s_X10_fits_54, s_X10_fits_57, s_X10_fits_58, s_X10_fits_59, s_X10_fits_62, s_X10_fits_65, s_X10_fits_67, s_X10_fits_68, s_X10_fits_69, s_X10_fits_70, s_X10_fits_73, s_X10_fits_74, s_X10_fits_77, s_X10_fits_78, s_X10_fits_79, gm19 e53, ai_i i65 (show 65 < 70 by decide) (show i < 6 by omega) (by decide), hwr i (by omega)]
            exact this
    | succ rem ih =>
      intro e c1 he f1 t58 t65
      have e53 := (f1 53 rfl).trans h53
      have hfs : ∀ a, fsC (pC (n, m, v, w, fo, si, st)) e = some a → a < 100000 := fun a ha => by have := (fsC_yes _ _ ha).1; omega
      have hfq : fsC (pC (n, m, v, w, fo, si, st)) (e + 1) = (match fsC (pC (n, m, v, w, fo, si, st)) e with
        | some a => some a
        | none => if pC (n, m, v, w, fo, si, st) e then some e else none) := rfl
      have hsu : suR (e + 1) (fun c => if pC (n, m, v, w, fo, si, st) c then 1 else 0) = suR e (fun c => if pC (n, m, v, w, fo, si, st) c then 1 else 0) + if pC (n, m, v, w, fo, si, st) e then 1 else 0 := rfl
      rw [s_X10_fits_8]
      simp only [s_X10_fits_0, s_X10_fits_1, s_X10_fits_2, s_X10_fits_4, s_X10_fits_5, s_X10_fits_6, s_X10_fits_10, s_X10_fits_11, s_X10_fits_14, s_X10_fits_17, s_X10_fits_18, s_X10_fits_20, s_X10_fits_23, s_X10_fits_26, s_X10_fits_27, s_X10_fits_30, s_X10_fits_32, s_X10_fits_35, s_X10_fits_36, s_X10_fits_37, s_X10_fits_40, s_X10_fits_43, s_X10_fits_46, s_X10_fits_47, s_X10_fits_48, s_X10_fits_51, s_X10_fits_52, s_X10_fits_53, s_X10_fits_54, s_X10_fits_57, s_X10_fits_58, s_X10_fits_59, s_X10_fits_62, s_X10_fits_65, s_X10_fits_67, s_X10_fits_68, s_X10_fits_69, s_X10_fits_70, s_X10_fits_73, s_X10_fits_74, s_X10_fits_77, s_X10_fits_78, s_X10_fits_79, vm_o e53]
      refine sp_X10_codes hn hm e53 ?_
      simp only [Option.toList_some, Option.toList_none, List.cons_append, List.nil_append, Option.toList, s_X10_fits_0, s_X10_fits_1, s_X10_fits_2, s_X10_fits_4, s_X10_fits_5, s_X10_fits_6, s_X10_fits_10, s_X10_fits_11, s_X10_fits_14, s_X10_fits_17, s_X10_fits_18, s_X10_fits_20, s_X10_fits_23, s_X10_fits_26, s_X10_fits_27, s_X10_fits_30, s_X10_fits_32, s_X10_fits_35, s_X10_fits_36, s_X10_fits_37, s_X10_fits_40, s_X10_fits_43, s_X10_fits_46, s_X10_fits_47, s_X10_fits_48, s_X10_fits_51, s_X10_fits_52, s_X10_fits_53, s_X10_fits_54, s_X10_fits_57, s_X10_fits_58, s_X10_fits_59, s_X10_fits_62, s_X10_fits_65, s_X10_fits_67, s_X10_fits_68, s_X10_fits_69, s_X10_fits_70, s_X10_fits_73, s_X10_fits_74, s_X10_fits_77, s_X10_fits_78, s_X10_fits_79, vm_o e53, sI_le (show m ^ n < 100000 by omega) (show e < 100000 by omega)]
      refine ⟨fun hc => absurd hc (by omega), fun _ => sp_X10_isSeen hV (by omega) e53 (h56.fr f1 rfl) t58 t65 fun c2 f2 u58 hw2 => ?_⟩
      have nx := ih (e + 1) c2 (by omega) (f1.trans f2) u58 hw2.ty
      have hge : (0 ≤ fsI (fsC (pC (n, m, v, w, fo, si, st)) e)) ↔ ¬ fsC (pC (n, m, v, w, fo, si, st)) e = none := by
        rw [← fsI_neg hfs, Int32.not_lt]
      simp only [Option.toList_some, Option.toList_none, List.cons_append, List.nil_append, Option.toList, s_X10_fits_0, s_X10_fits_1, s_X10_fits_2, s_X10_fits_4, s_X10_fits_5, s_X10_fits_6, s_X10_fits_10, s_X10_fits_11, s_X10_fits_14, s_X10_fits_17, s_X10_fits_18, s_X10_fits_20, s_X10_fits_23, s_X10_fits_26, s_X10_fits_27, s_X10_fits_30, s_X10_fits_32, s_X10_fits_35, s_X10_fits_36, s_X10_fits_37, s_X10_fits_40, s_X10_fits_43, s_X10_fits_46, s_X10_fits_47, s_X10_fits_48, s_X10_fits_51, s_X10_fits_52, s_X10_fits_53, s_X10_fits_54, s_X10_fits_57, s_X10_fits_58, s_X10_fits_59, s_X10_fits_62, s_X10_fits_65, s_X10_fits_67, s_X10_fits_68, s_X10_fits_69, s_X10_fits_70, s_X10_fits_73, s_X10_fits_74, s_X10_fits_77, s_X10_fits_78, s_X10_fits_79, b2_0, nI_add, hge]
      refine ⟨fun hp => ⟨rfl, ?_⟩, fun hp => ⟨fun hf => ⟨rfl, rfl, rfl, ?_⟩, fun hf => ⟨rfl, rfl, rfl, ?_⟩⟩⟩
      · rw [hsu, hfq, if_neg hp, Nat.add_zero] at nx
        cases hq : fsC (pC (n, m, v, w, fo, si, st)) e with
        | none =>
          rw [hq] at nx
          simp only [if_neg hp] at nx
          exact nx
        | some a => rw [hq] at nx; exact nx
      · have hp := Decidable.not_not.mp hp
        rw [hsu, hfq, if_pos hp] at nx
        cases hq : fsC (pC (n, m, v, w, fo, si, st)) e with
        | none => exact absurd hq hf
        | some a => rw [hq] at nx; exact nx
      · have hp := Decidable.not_not.mp hp
        have hf := Decidable.not_not.mp hf
        rw [hsu, hfq, if_pos hp, hf] at nx
        simp only [if_pos hp] at nx
        exact nx
  exact lp (m ^ n) 0 c (by omega) frm.rf hsc.1 hsc.2.2.2.2.2.2.2.1
theorem ml_could (hV : VS (n, m, v, w, fo, si, st)) (hM : MS c (n, m, v, w, fo, si, st) sg pd im) (hk : ∀ c', frm MM c c' → MS c' (n, m, v, w, fo, si, st) sg pd im → R (some (.int (couA (n, m, v, w, fo, si, st) x))) (tab c')) : rM ro (d + 4) 161 0 0 [.ref 53, .int x] (tab c) R := by
  obtain ⟨⟨⟨fr, ru, lu, h53⟩, h54, h55, h56, h57⟩, hsc, him⟩ := id hM
  have hn := hV.1
  have hm := hV.2.1
  have hpw := pw_le (m := m) (n := n) hm.2 hn.2
  have hms : ∀ c1, frm [58, 65] c c1 → tyI c1 58 7 → tyI c1 65 6 → MS c1 (n, m, v, w, fo, si, st) sg pd im := fun c1 f1 t1 t2 => hM.sc (f1.mono rfl) ⟨_, _, _, (f1 53 rfl).trans h53⟩ (hsc.sw f1 t1 t2)
  rw [en_X10_could]
  simp only [s_X10_could_0, s_X10_could_1, s_X10_could_2, s_X10_could_5, s_X10_could_8, s_X10_could_9, s_X10_could_10, s_X10_could_11, s_X10_could_12, s_X10_could_13, s_X10_could_15, s_X10_could_16, s_X10_could_19, s_X10_could_22, s_X10_could_23, s_X10_could_24, s_X10_could_27, s_X10_could_30, s_X10_could_31, s_X10_could_32, s_X10_could_33, s_X10_could_36, s_X10_could_37, s_X10_could_38, s_X10_could_39, s_X10_could_40, s_X10_could_41, s_X10_could_44, s_X10_could_47, s_X10_could_48, vm_o h53]
  refine sp_isMan2 h53 (by omega) ?_
  simp only [Option.toList_some, Option.toList_none, List.cons_append, List.nil_append, Option.toList, s_X10_could_0, s_X10_could_1, s_X10_could_2, s_X10_could_5, s_X10_could_8, s_X10_could_9, s_X10_could_10, s_X10_could_11, s_X10_could_12, s_X10_could_13, s_X10_could_15, s_X10_could_16, s_X10_could_19, s_X10_could_22, s_X10_could_23, s_X10_could_24, s_X10_could_27, s_X10_could_30, s_X10_could_31, s_X10_could_32, s_X10_could_33, s_X10_could_36, s_X10_could_37, s_X10_could_38, s_X10_could_39, s_X10_could_40, s_X10_could_41, s_X10_could_44, s_X10_could_47, s_X10_could_48, b2_0]
  refine ⟨fun hq => ?_, fun hq => ⟨rfl, rfl, ?_⟩⟩
  · have := hk c frm.rf hM
    rw [couA, if_neg hq] at this
    exact this
  have hq := Decidable.not_not.mp hq
  have hkk := fun c' h1 h2 => hk c' h1 h2
  rw [couA, if_pos hq] at hkk
  obtain ⟨i, hi1, hi2, rfl⟩ := inR_nI hq (by decide) (by omega)
  rw [nI_c (by omega)] at hkk
  have lp : ∀ rem e c1, e + rem = m ^ n → frm [58, 65] c c1 → tyI c1 58 7 → tyI c1 65 6 → rU ro (d + 3) tb_X10_could R 14 [.ref 53, .int (nI i), .int (orS (exB (n, m, v, w, fo, si, st) e i) m 1 (nI 0)), .int (nI e)] [] (tab c1) := by
    intro rem
    induction rem with
    | zero =>
      intro e c1 he f1 t58 t65
      have : e = m ^ n := by omega
      subst this
      have e53 := (f1 53 rfl).trans h53
      rw [s_X10_could_14]
      simp only [s_X10_could_0, s_X10_could_1, s_X10_could_2, s_X10_could_5, s_X10_could_8, s_X10_could_9, s_X10_could_10, s_X10_could_11, s_X10_could_12, s_X10_could_13, s_X10_could_15, s_X10_could_16, s_X10_could_19, s_X10_could_22, s_X10_could_23, s_X10_could_24, s_X10_could_27, s_X10_could_30, s_X10_could_31, s_X10_could_32, s_X10_could_33, s_X10_could_36, s_X10_could_37, s_X10_could_38, s_X10_could_39, s_X10_could_40, s_X10_could_41, s_X10_could_44, s_X10_could_47, s_X10_could_48, vm_o e53]
      refine sp_X10_codes hn hm e53 ?_
      simp only [Option.toList_some, Option.toList_none, List.cons_append, List.nil_append, Option.toList, s_X10_could_0, s_X10_could_1, s_X10_could_2, s_X10_could_5, s_X10_could_8, s_X10_could_9, s_X10_could_10, s_X10_could_11, s_X10_could_12, s_X10_could_13, s_X10_could_15, s_X10_could_16, s_X10_could_19, s_X10_could_22, s_X10_could_23, s_X10_could_24, s_X10_could_27, s_X10_could_30, s_X10_could_31, s_X10_could_32, s_X10_could_33, s_X10_could_36, s_X10_could_37, s_X10_could_38, s_X10_could_39, s_X10_could_40, s_X10_could_41, s_X10_could_44, s_X10_could_47, s_X10_could_48]
      exact ⟨fun _ => hkk c1 (f1.mono rfl) (hms c1 f1 t58 t65), fun hc => absurd ((sI_le (by omega) (by omega)).mpr (Nat.le_refl _)) hc⟩
    | succ rem ih =>
      intro e c1 he f1 t58 t65
      have e53 := (f1 53 rfl).trans h53
      rw [s_X10_could_14]
      simp only [s_X10_could_0, s_X10_could_1, s_X10_could_2, s_X10_could_5, s_X10_could_8, s_X10_could_9, s_X10_could_10, s_X10_could_11, s_X10_could_12, s_X10_could_13, s_X10_could_15, s_X10_could_16, s_X10_could_19, s_X10_could_22, s_X10_could_23, s_X10_could_24, s_X10_could_27, s_X10_could_30, s_X10_could_31, s_X10_could_32, s_X10_could_33, s_X10_could_36, s_X10_could_37, s_X10_could_38, s_X10_could_39, s_X10_could_40, s_X10_could_41, s_X10_could_44, s_X10_could_47, s_X10_could_48, vm_o e53]
      refine sp_X10_codes hn hm e53 ?_
      simp only [Option.toList_some, Option.toList_none, List.cons_append, List.nil_append, Option.toList, s_X10_could_0, s_X10_could_1, s_X10_could_2, s_X10_could_5, s_X10_could_8, s_X10_could_9, s_X10_could_10, s_X10_could_11, s_X10_could_12, s_X10_could_13, s_X10_could_15, s_X10_could_16, s_X10_could_19, s_X10_could_22, s_X10_could_23, s_X10_could_24, s_X10_could_27, s_X10_could_30, s_X10_could_31, s_X10_could_32, s_X10_could_33, s_X10_could_36, s_X10_could_37, s_X10_could_38, s_X10_could_39, s_X10_could_40, s_X10_could_41, s_X10_could_44, s_X10_could_47, s_X10_could_48, vm_o e53, sI_le (show m ^ n < 100000 by omega) (show e < 100000 by omega)]
      refine ⟨fun hc => absurd hc (by omega), fun _ => sp_X10_isSeen hV (by omega) e53 (h56.fr f1 rfl) t58 t65 fun c2 f2 u58 hw2 => ?_⟩
      have nx := ih (e + 1) c2 (by omega) (f1.trans f2) u58 hw2.ty
      have e53 := (f2 53 rfl).trans e53
      obtain ⟨wr, i65, hwr⟩ := id hw2
      simp only [Option.toList_some, Option.toList_none, List.cons_append, List.nil_append, Option.toList, s_X10_could_0, s_X10_could_1, s_X10_could_2, s_X10_could_5, s_X10_could_8, s_X10_could_9, s_X10_could_10, s_X10_could_11, s_X10_could_12, s_X10_could_13, s_X10_could_15, s_X10_could_16, s_X10_could_19, s_X10_could_22, s_X10_could_23, s_X10_could_24, s_X10_could_27, s_X10_could_30, s_X10_could_31, s_X10_could_32, s_X10_could_33, s_X10_could_36, s_X10_could_37, s_X10_could_38, s_X10_could_39, s_X10_could_40, s_X10_could_41, s_X10_could_44, s_X10_could_47, s_X10_could_48, b2_0, nI_add, gm19 e53, ai_i i65 (show 65 < 70 by decide) (show i < 6 by omega) (by decide), hwr i (by omega)]
      refine ⟨fun hp => ⟨rfl, ?_⟩, fun hp => ⟨rfl, rfl, ?_⟩⟩
      · rw [orS_cg (p := exB (n, m, v, w, fo, si, st) (e + 1) i) (q := exB (n, m, v, w, fo, si, st) e i) m 1 (nI 0) (fun y _ _ => ?_)] at nx
        · exact nx
        · rw [Bool.eq_iff_iff, exB_iff, exB_iff]
          constructor
          · rintro ⟨a, g1, g2, g3⟩
            by_cases ea : a = e
            · rw [ea] at g2; exact absurd g2 hp
            · exact ⟨a, by omega, g2, g3⟩
          · rintro ⟨a, g1, g2, g3⟩
            exact ⟨a, by omega, g2, g3⟩
      · have hp := Decidable.not_not.mp hp
        have hr := rwC_le (m := m) (r := n) (c := e) (j := i) (by omega)
        rw [or_step (p := exB (n, m, v, w, fo, si, st) e i) (q := exB (n, m, v, w, fo, si, st) (e + 1) i) (y0 := rwC m n e i) (fun y => ?_) m 1 (nI 0) hr.1 (by omega)] at nx
        · exact nx
        · rw [Bool.eq_iff_iff, Bool.or_eq_true, exB_iff, exB_iff, beq_iff_eq]
          constructor
          · rintro ⟨a, g1, g2, g3⟩
            by_cases ea : a = e
            · rw [ea] at g3; exact Or.inr g3.symm
            · exact Or.inl ⟨a, by omega, g2, g3⟩
          · rintro (⟨a, g1, g2, g3⟩ | g)
            · exact ⟨a, by omega, g2, g3⟩
            · exact ⟨e, by omega, hp, g.symm⟩
  have h0 : orS (exB (n, m, v, w, fo, si, st) 0 i) m 1 (nI 0) = nI 0 := orS_no m 1 (nI 0) (fun j _ _ => rfl)
  have := lp (m ^ n) 0 c (by omega) frm.rf hsc.1 hsc.2.2.2.2.2.2.2.1
  rw [h0] at this
  exact this
end MW
