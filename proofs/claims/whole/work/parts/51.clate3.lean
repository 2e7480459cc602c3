/-! ===== the class: late ===== -/
def laF (T : TS) : Nat → Nat → Nat
  | 0 => fun _ => 0
  | i + 1 => bmp (laF T i) (coF T.2.2.2.2.1 T.2.1 i (fun y => enF T.2.2.1 T.2.1 T.2.2.2.2.1 (T.1 - 1 - i) (i + 1) (bmp (laF T i) y)))
def laS (T : TS) (i : Nat) : Nat := coF T.2.2.2.2.1 T.2.1 i (fun y => enF T.2.2.1 T.2.1 T.2.2.2.2.1 (T.1 - 1 - i) (i + 1) (bmp (laF T i) y))
def laQ (T : TS) : Nat := winF T.2.2.1 T.2.1 (fbF (laF T T.1))
def latA (T : TS) (x y : Int32) : Int32 := if inR 0 (T.1 - 1) x then (if inR 0 1 y then (if y = 0 then nI (laS T x.toNatClampNeg) else if laQ T = 0 then - nI 6 else orS (fun i => laS T i == laQ T) T.1 0 (nI 0)) else - nI 2) else - nI 1
theorem laS_le {T : TS} (hV : VS T) (i : Nat) : 1 ≤ laS T i ∧ laS T i ≤ T.2.1 := by
  obtain ⟨n, m, v, w, fo, si, st⟩ := T
  exact coF_le (show 1 ≤ m by have := hV.2.1; omega) (hV.2.2.2.2.2.2.2.1 i)
theorem laF_sm {T : TS} (hV : VS T) : ∀ i, smF (laF T i) T.2.1 1 = i
  | 0 => smF_0 _ _ (fun _ _ => rfl)
  | i + 1 => by
    have := laS_le hV i
    rw [laF]
    show smF (bmp (laF T i) (laS T i)) T.2.1 1 = i + 1
    rw [smF_bmp _ _ this.1 (by omega), laF_sm hV i]
theorem laF_le {T : TS} : ∀ i j, laF T i j ≤ i
  | 0, _ => Nat.le_refl _
  | i + 1, j => by
    have h := laF_le (T := T) i j
    rw [laF]
    unfold bmp updN
    split
    · rename_i e; rw [← e]; omega
    · omega
section CL
variable {ro : rQ} {LL : Nat} {xs : Nat → Int32} {d : Nat} {R : rR} {c : Nat → rE} {h : rH} {n m v si sg k t q l s z : Nat} {w fo o f : Nat → Nat} {st pd e : Nat → Int32} {im : Nat → Option TS} {x y : Int32}
theorem sp_X0_play (hV : VS (n, m, v, w, fo, si, st)) (hC : CS c (n, m, v, w, fo, si, st) sg pd im) (hk : ∀ c' b, frm [45, 46, 47, 23, 24] c c' → CS c' (n, m, v, w, fo, si, st) sg pd im → EVS c' (laS (n, m, v, w, fo, si, st)) n b → R (some (.int (nI (laQ (n, m, v, w, fo, si, st))))) (tab c')) : rM (rRo LL xs) (d + 30) 1 0 0 [.ref 45, .ref 1, .ref 22] (tab c) R := by
  obtain ⟨T, hTT⟩ : ∃ T : TS, T = (n, m, v, w, fo, si, st) := ⟨_, rfl⟩
  have hT := hC.2.1
  have h0 := hT.1
  have hn := hV.1
  have hm := hV.2.1
  have h22 := hC.1.2.2
  have hev := hC.2.2.2.2.1
  obtain ⟨h45, ⟨g6, h46⟩, ⟨g7, h47⟩⟩ := hC.2.2.2.2.2.2.2.2.2.1
  rw [en_X0_play]
  simp only [s_X0_play_0, s_X0_play_1, s_X0_play_3, s_X0_play_6, s_X0_play_9, s_X0_play_10, s_X0_play_13, s_X0_play_14, s_X0_play_15, s_X0_play_16, s_X0_play_19, s_X0_play_22, s_X0_play_23, s_X0_play_25, s_X0_play_27, s_X0_play_30, s_X0_play_31, s_X0_play_34, s_X0_play_35, s_X0_play_36, s_X0_play_37, s_X0_play_40, s_X0_play_43, s_X0_play_44, s_X0_play_47, s_X0_play_48, s_X0_play_50, s_X0_play_51, s_X0_play_54, s_X0_play_57, s_X0_play_58, s_X0_play_59, s_X0_play_60, s_X0_play_63, s_X0_play_65, s_X0_play_67, s_X0_play_68, s_X0_play_71, s_X0_play_73, s_X0_play_75, s_X0_play_78, s_X0_play_79, s_X0_play_82, s_X0_play_84, s_X0_play_85, s_X0_play_86, s_X0_play_87, s_X0_play_88, s_X0_play_89, s_X0_play_90, s_X0_play_91, s_X0_play_93, s_X0_play_96, s_X0_play_99, s_X0_play_102, s_X0_play_103, s_X0_play_106, s_X0_play_107, s_X0_play_110, s_X0_play_111, s_X0_play_114, s_X0_play_117]
  refine ⟨rfl, ?_⟩
  have lp3 : ∀ rem i c1 b (l4 : Value), i + rem = n → frm [46, 47, 23, 24] c c1 → ARS c1 n m v fo (laF (n, m, v, w, fo, si, st) i) → EVS c1 (laS (n, m, v, w, fo, si, st)) i b → rU (rRo LL xs) (d + 29) tb_X0_play R 49 [.ref 45, .ref 1, .ref 22, .int (nI i), l4] [] (tab c1) := by
    intro rem
    induction rem with
    | zero =>
      intro i c1 b l4 hi f1 hA he
      have : i = n := by omega
      subst this
      have e0 := (f1 1 rfl).trans h0
      rw [s_X0_play_49]
      simp only [s_X0_play_0, s_X0_play_1, s_X0_play_3, s_X0_play_6, s_X0_play_9, s_X0_play_10, s_X0_play_13, s_X0_play_14, s_X0_play_15, s_X0_play_16, s_X0_play_19, s_X0_play_22, s_X0_play_23, s_X0_play_25, s_X0_play_27, s_X0_play_30, s_X0_play_31, s_X0_play_34, s_X0_play_35, s_X0_play_36, s_X0_play_37, s_X0_play_40, s_X0_play_43, s_X0_play_44, s_X0_play_47, s_X0_play_48, s_X0_play_50, s_X0_play_51, s_X0_play_54, s_X0_play_57, s_X0_play_58, s_X0_play_59, s_X0_play_60, s_X0_play_63, s_X0_play_65, s_X0_play_67, s_X0_play_68, s_X0_play_71, s_X0_play_73, s_X0_play_75, s_X0_play_78, s_X0_play_79, s_X0_play_82, s_X0_play_84, s_X0_play_85, s_X0_play_86, s_X0_play_87, s_X0_play_88, s_X0_play_89, s_X0_play_90, s_X0_play_91, s_X0_play_93, s_X0_play_96, s_X0_play_99, s_X0_play_102, s_X0_play_103, s_X0_play_106, s_X0_play_107, s_X0_play_110, s_X0_play_111, s_X0_play_114, s_X0_play_117, gt0 e0 (show 1 < 70 by decide), gt1 e0 (show 1 < 70 by decide), gt2 e0 (show 1 < 70 by decide), ga0 hA.1]
      refine ⟨fun _ => sp_X9_winner' hA.2.1 (by decide) hm.2 hV.2.2.1 ?_, fun hc => absurd ((sI_le (by omega) (by omega)).mpr (Nat.le_refl _)) hc⟩
      simp only [Option.toList_some, Option.toList_none, List.cons_append, List.nil_append, Option.toList, s_X0_play_0, s_X0_play_1, s_X0_play_3, s_X0_play_6, s_X0_play_9, s_X0_play_10, s_X0_play_13, s_X0_play_14, s_X0_play_15, s_X0_play_16, s_X0_play_19, s_X0_play_22, s_X0_play_23, s_X0_play_25, s_X0_play_27, s_X0_play_30, s_X0_play_31, s_X0_play_34, s_X0_play_35, s_X0_play_36, s_X0_play_37, s_X0_play_40, s_X0_play_43, s_X0_play_44, s_X0_play_47, s_X0_play_48, s_X0_play_50, s_X0_play_51, s_X0_play_54, s_X0_play_57, s_X0_play_58, s_X0_play_59, s_X0_play_60, s_X0_play_63, s_X0_play_65, s_X0_play_67, s_X0_play_68, s_X0_play_71, s_X0_play_73, s_X0_play_75, s_X0_play_78, s_X0_play_79, s_X0_play_82, s_X0_play_84, s_X0_play_85, s_X0_play_86, s_X0_play_87, s_X0_play_88, s_X0_play_89, s_X0_play_90, s_X0_play_91, s_X0_play_93, s_X0_play_96, s_X0_play_99, s_X0_play_102, s_X0_play_103, s_X0_play_106, s_X0_play_107, s_X0_play_110, s_X0_play_111, s_X0_play_114, s_X0_play_117]
      obtain ⟨a1, a2, e, a3, a4⟩ := hA
      exact hk c1 b (f1.mono rfl) (hC.ar (f1.mono rfl) ⟨a1, a2.ty, a3.ty⟩ he.ev) he
    | succ rem ih =>
      intro i c1 b l4 hi f1 hA he
      have e0 := (f1 1 rfl).trans h0
      have hT1 := hT.fr f1 rfl
      have hls := laS_le hV i
      have hls2 : laS (n, m, v, w, fo, si, st) i ≤ m := hls.2
      rw [s_X0_play_49]
      simp only [s_X0_play_0, s_X0_play_1, s_X0_play_3, s_X0_play_6, s_X0_play_9, s_X0_play_10, s_X0_play_13, s_X0_play_14, s_X0_play_15, s_X0_play_16, s_X0_play_19, s_X0_play_22, s_X0_play_23, s_X0_play_25, s_X0_play_27, s_X0_play_30, s_X0_play_31, s_X0_play_34, s_X0_play_35, s_X0_play_36, s_X0_play_37, s_X0_play_40, s_X0_play_43, s_X0_play_44, s_X0_play_47, s_X0_play_48, s_X0_play_50, s_X0_play_51, s_X0_play_54, s_X0_play_57, s_X0_play_58, s_X0_play_59, s_X0_play_60, s_X0_play_63, s_X0_play_65, s_X0_play_67, s_X0_play_68, s_X0_play_71, s_X0_play_73, s_X0_play_75, s_X0_play_78, s_X0_play_79, s_X0_play_82, s_X0_play_84, s_X0_play_85, s_X0_play_86, s_X0_play_87, s_X0_play_88, s_X0_play_89, s_X0_play_90, s_X0_play_91, s_X0_play_93, s_X0_play_96, s_X0_play_99, s_X0_play_102, s_X0_play_103, s_X0_play_106, s_X0_play_107, s_X0_play_110, s_X0_play_111, s_X0_play_114, s_X0_play_117, gt0 e0 (show 1 < 70 by decide), sI_le (show n < 100000 by omega) (show i < 100000 by omega)]
      refine ⟨fun hc => absurd hc (by omega), fun _ => ?_⟩
      have hE : ENS LL xs n m v w fo si st (n - 1 - i) (d + 27) := by
        have := sp_end (LL := LL) (xs := xs) hV (n - 1 - i) (d + 24 - 3 * (n - 1 - i))
        rw [show d + 24 - 3 * (n - 1 - i) + 3 + 3 * (n - 1 - i) = d + 27 by omega] at this
        exact this
      refine sp_choice hE hV (by omega) (laF_sm hV i) (fun j => by have := laF_le (T := (n, m, v, w, fo, si, st)) i j; omega) hT1 hA fun c2 f2 hA2 => ?_
      have hco : coF fo m i (fun y => enF v m fo (n - 1 - i) (i + 1) (bmp (laF (n, m, v, w, fo, si, st) i) y)) = laS (n, m, v, w, fo, si, st) i := rfl
      rw [hco]
      obtain ⟨a1, a2, e, a3, a4⟩ := hA2
      simp only [Option.toList_some, Option.toList_none, List.cons_append, List.nil_append, Option.toList, s_X0_play_0, s_X0_play_1, s_X0_play_3, s_X0_play_6, s_X0_play_9, s_X0_play_10, s_X0_play_13, s_X0_play_14, s_X0_play_15, s_X0_play_16, s_X0_play_19, s_X0_play_22, s_X0_play_23, s_X0_play_25, s_X0_play_27, s_X0_play_30, s_X0_play_31, s_X0_play_34, s_X0_play_35, s_X0_play_36, s_X0_play_37, s_X0_play_40, s_X0_play_43, s_X0_play_44, s_X0_play_47, s_X0_play_48, s_X0_play_50, s_X0_play_51, s_X0_play_54, s_X0_play_57, s_X0_play_58, s_X0_play_59, s_X0_play_60, s_X0_play_63, s_X0_play_65, s_X0_play_67, s_X0_play_68, s_X0_play_71, s_X0_play_73, s_X0_play_75, s_X0_play_78, s_X0_play_79, s_X0_play_82, s_X0_play_84, s_X0_play_85, s_X0_play_86, s_X0_play_87, s_X0_play_88, s_X0_play_89, s_X0_play_90, s_X0_play_91, s_X0_play_93, s_X0_play_96, s_X0_play_99, s_X0_play_102, s_X0_play_103, s_X0_play_106, s_X0_play_107, s_X0_play_110, s_X0_play_111, s_X0_play_114, s_X0_play_117, ga0 a1, sI_lt (show laS (n, m, v, w, fo, si, st) i < 100000 by omega) (show 1 < 100000 by decide), sI_le (show 7 < 100000 by decide) (show laS (n, m, v, w, fo, si, st) i < 100000 by omega), ai_i a2 (show 46 < 70 by decide) (show laS (n, m, v, w, fo, si, st) i < 7 by omega) (by decide)]
      refine ⟨rfl, fun q => absurd q (by omega), fun _ => ⟨fun q => absurd q (by omega), fun _ => si_i a2 (by decide) (by omega) (by decide) fun c3 f3 hi3 => ?_⟩⟩
      rw [fbF_bmp] at hi3
      have e22 := (f3 22 rfl).trans ((f2 22 rfl).trans ((f1 22 rfl).trans h22))
      have he3 : EVS c3 (laS (n, m, v, w, fo, si, st)) i b := ⟨(he.1.fr f2 rfl).fr f3 rfl, (he.2.fr f2 rfl).fr f3 rfl⟩
      simp only [s_X0_play_0, s_X0_play_1, s_X0_play_3, s_X0_play_6, s_X0_play_9, s_X0_play_10, s_X0_play_13, s_X0_play_14, s_X0_play_15, s_X0_play_16, s_X0_play_19, s_X0_play_22, s_X0_play_23, s_X0_play_25, s_X0_play_27, s_X0_play_30, s_X0_play_31, s_X0_play_34, s_X0_play_35, s_X0_play_36, s_X0_play_37, s_X0_play_40, s_X0_play_43, s_X0_play_44, s_X0_play_47, s_X0_play_48, s_X0_play_50, s_X0_play_51, s_X0_play_54, s_X0_play_57, s_X0_play_58, s_X0_play_59, s_X0_play_60, s_X0_play_63, s_X0_play_65, s_X0_play_67, s_X0_play_68, s_X0_play_71, s_X0_play_73, s_X0_play_75, s_X0_play_78, s_X0_play_79, s_X0_play_82, s_X0_play_84, s_X0_play_85, s_X0_play_86, s_X0_play_87, s_X0_play_88, s_X0_play_89, s_X0_play_90, s_X0_play_91, s_X0_play_93, s_X0_play_96, s_X0_play_99, s_X0_play_102, s_X0_play_103, s_X0_play_106, s_X0_play_107, s_X0_play_110, s_X0_play_111, s_X0_play_114, s_X0_play_117, ve_o e22]
      refine sp_X2_write e22 he3 (by omega) (by omega) fun c4 f4 he4 => ?_
      simp only [Option.toList_some, Option.toList_none, List.cons_append, List.nil_append, Option.toList, s_X0_play_0, s_X0_play_1, s_X0_play_3, s_X0_play_6, s_X0_play_9, s_X0_play_10, s_X0_play_13, s_X0_play_14, s_X0_play_15, s_X0_play_16, s_X0_play_19, s_X0_play_22, s_X0_play_23, s_X0_play_25, s_X0_play_27, s_X0_play_30, s_X0_play_31, s_X0_play_34, s_X0_play_35, s_X0_play_36, s_X0_play_37, s_X0_play_40, s_X0_play_43, s_X0_play_44, s_X0_play_47, s_X0_play_48, s_X0_play_50, s_X0_play_51, s_X0_play_54, s_X0_play_57, s_X0_play_58, s_X0_play_59, s_X0_play_60, s_X0_play_63, s_X0_play_65, s_X0_play_67, s_X0_play_68, s_X0_play_71, s_X0_play_73, s_X0_play_75, s_X0_play_78, s_X0_play_79, s_X0_play_82, s_X0_play_84, s_X0_play_85, s_X0_play_86, s_X0_play_87, s_X0_play_88, s_X0_play_89, s_X0_play_90, s_X0_play_91, s_X0_play_93, s_X0_play_96, s_X0_play_99, s_X0_play_102, s_X0_play_103, s_X0_play_106, s_X0_play_107, s_X0_play_110, s_X0_play_111, s_X0_play_114, s_X0_play_117, nI_add]
      exact ⟨rfl, ih (i + 1) c4 _ _ (by omega) (f1.trans ((f2.mono rfl).trans ((f3.mono rfl).trans (f4.mono rfl)))) ⟨(f4 45 rfl).trans ((f3 45 rfl).trans a1), hi3.fr f4 rfl, e, (a3.fr f3 rfl).fr f4 rfl, a4⟩ he4⟩
  have lp2 : ∀ rem i c1 val, i + rem = 7 → frm [46, 47, 23, 24] c c1 → isB c1 47 924 (fun _ => nI 0) → isI c1 46 7 val → (∀ j, j < i → val j = nI 0) → gEV c1 → rU (rRo LL xs) (d + 29) tb_X0_play R 24 [.ref 45, .ref 1, .ref 22, .int (nI i), .null] [] (tab c1) := by
    intro rem
    induction rem with
    | zero =>
      intro i c1 val hi f1 hb hv hv2 he
      have : i = 7 := by omega
      subst this
      have e22 := (f1 22 rfl).trans h22
      rw [s_X0_play_24]
      simp only [s_X0_play_0, s_X0_play_1, s_X0_play_3, s_X0_play_6, s_X0_play_9, s_X0_play_10, s_X0_play_13, s_X0_play_14, s_X0_play_15, s_X0_play_16, s_X0_play_19, s_X0_play_22, s_X0_play_23, s_X0_play_25, s_X0_play_27, s_X0_play_30, s_X0_play_31, s_X0_play_34, s_X0_play_35, s_X0_play_36, s_X0_play_37, s_X0_play_40, s_X0_play_43, s_X0_play_44, s_X0_play_47, s_X0_play_48, s_X0_play_50, s_X0_play_51, s_X0_play_54, s_X0_play_57, s_X0_play_58, s_X0_play_59, s_X0_play_60, s_X0_play_63, s_X0_play_65, s_X0_play_67, s_X0_play_68, s_X0_play_71, s_X0_play_73, s_X0_play_75, s_X0_play_78, s_X0_play_79, s_X0_play_82, s_X0_play_84, s_X0_play_85, s_X0_play_86, s_X0_play_87, s_X0_play_88, s_X0_play_89, s_X0_play_90, s_X0_play_91, s_X0_play_93, s_X0_play_96, s_X0_play_99, s_X0_play_102, s_X0_play_103, s_X0_play_106, s_X0_play_107, s_X0_play_110, s_X0_play_111, s_X0_play_114, s_X0_play_117, ve_o e22]
      refine ⟨fun _ => sp_X2_clear e22 he (s := laS (n, m, v, w, fo, si, st)) fun c2 f2 he2 => ?_, fun hc => absurd ((sI_le (by decide) (by decide)).mpr (Nat.le_refl _)) hc⟩
      simp only [Option.toList_some, Option.toList_none, List.cons_append, List.nil_append, Option.toList, s_X0_play_0, s_X0_play_1, s_X0_play_3, s_X0_play_6, s_X0_play_9, s_X0_play_10, s_X0_play_13, s_X0_play_14, s_X0_play_15, s_X0_play_16, s_X0_play_19, s_X0_play_22, s_X0_play_23, s_X0_play_25, s_X0_play_27, s_X0_play_30, s_X0_play_31, s_X0_play_34, s_X0_play_35, s_X0_play_36, s_X0_play_37, s_X0_play_40, s_X0_play_43, s_X0_play_44, s_X0_play_47, s_X0_play_48, s_X0_play_50, s_X0_play_51, s_X0_play_54, s_X0_play_57, s_X0_play_58, s_X0_play_59, s_X0_play_60, s_X0_play_63, s_X0_play_65, s_X0_play_67, s_X0_play_68, s_X0_play_71, s_X0_play_73, s_X0_play_75, s_X0_play_78, s_X0_play_79, s_X0_play_82, s_X0_play_84, s_X0_play_85, s_X0_play_86, s_X0_play_87, s_X0_play_88, s_X0_play_89, s_X0_play_90, s_X0_play_91, s_X0_play_93, s_X0_play_96, s_X0_play_99, s_X0_play_102, s_X0_play_103, s_X0_play_106, s_X0_play_107, s_X0_play_110, s_X0_play_111, s_X0_play_114, s_X0_play_117]
      exact ⟨rfl, lp3 n 0 c2 _ _ (by omega) (f1.trans (f2.mono rfl)) ⟨(f2 45 rfl).trans ((f1 45 rfl).trans h45), (hv.fr f2 rfl).cg (fun j hj => hv2 j hj), _, hb.fr f2 rfl, fun p hp => Or.inl rfl⟩ he2⟩
    | succ rem ih =>
      intro i c1 val hi f1 hb hv hv2 he
      rw [s_X0_play_24]
      simp only [s_X0_play_0, s_X0_play_1, s_X0_play_3, s_X0_play_6, s_X0_play_9, s_X0_play_10, s_X0_play_13, s_X0_play_14, s_X0_play_15, s_X0_play_16, s_X0_play_19, s_X0_play_22, s_X0_play_23, s_X0_play_25, s_X0_play_27, s_X0_play_30, s_X0_play_31, s_X0_play_34, s_X0_play_35, s_X0_play_36, s_X0_play_37, s_X0_play_40, s_X0_play_43, s_X0_play_44, s_X0_play_47, s_X0_play_48, s_X0_play_50, s_X0_play_51, s_X0_play_54, s_X0_play_57, s_X0_play_58, s_X0_play_59, s_X0_play_60, s_X0_play_63, s_X0_play_65, s_X0_play_67, s_X0_play_68, s_X0_play_71, s_X0_play_73, s_X0_play_75, s_X0_play_78, s_X0_play_79, s_X0_play_82, s_X0_play_84, s_X0_play_85, s_X0_play_86, s_X0_play_87, s_X0_play_88, s_X0_play_89, s_X0_play_90, s_X0_play_91, s_X0_play_93, s_X0_play_96, s_X0_play_99, s_X0_play_102, s_X0_play_103, s_X0_play_106, s_X0_play_107, s_X0_play_110, s_X0_play_111, s_X0_play_114, s_X0_play_117, ga0 ((f1 45 rfl).trans h45), nI_add, sI_le (show 7 < 100000 by decide) (show i < 100000 by omega)]
      refine ⟨fun hc => absurd hc (by omega), fun _ => si_i hv (by decide) (by omega) (by decide) fun c2 f2 hi2 => ?_⟩
      exact ⟨rfl, ih (i + 1) c2 _ (by omega) (f1.trans (f2.mono rfl)) (hb.fr f2 rfl) hi2 (fillI hv2 rfl) (he.fr f2 rfl)⟩
  have lp1 : ∀ rem i c1 val, i + rem = 924 → frm [46, 47, 23, 24] c c1 → isB c1 47 924 val → (∀ j, j < i → val j = nI 0) → c1 46 = ints 7 g6 → gEV c1 → rU (rRo LL xs) (d + 29) tb_X0_play R 2 [.ref 45, .ref 1, .ref 22, .int (nI i), .null] [] (tab c1) := by
    intro rem
    induction rem with
    | zero =>
      intro i c1 val hi f1 hb hv h46 he
      have : i = 924 := by omega
      subst this
      rw [s_X0_play_2]
      simp only [s_X0_play_0, s_X0_play_1, s_X0_play_3, s_X0_play_6, s_X0_play_9, s_X0_play_10, s_X0_play_13, s_X0_play_14, s_X0_play_15, s_X0_play_16, s_X0_play_19, s_X0_play_22, s_X0_play_23, s_X0_play_25, s_X0_play_27, s_X0_play_30, s_X0_play_31, s_X0_play_34, s_X0_play_35, s_X0_play_36, s_X0_play_37, s_X0_play_40, s_X0_play_43, s_X0_play_44, s_X0_play_47, s_X0_play_48, s_X0_play_50, s_X0_play_51, s_X0_play_54, s_X0_play_57, s_X0_play_58, s_X0_play_59, s_X0_play_60, s_X0_play_63, s_X0_play_65, s_X0_play_67, s_X0_play_68, s_X0_play_71, s_X0_play_73, s_X0_play_75, s_X0_play_78, s_X0_play_79, s_X0_play_82, s_X0_play_84, s_X0_play_85, s_X0_play_86, s_X0_play_87, s_X0_play_88, s_X0_play_89, s_X0_play_90, s_X0_play_91, s_X0_play_93, s_X0_play_96, s_X0_play_99, s_X0_play_102, s_X0_play_103, s_X0_play_106, s_X0_play_107, s_X0_play_110, s_X0_play_111, s_X0_play_114, s_X0_play_117]
      refine ⟨fun _ => ⟨rfl, lp2 7 0 c1 g6 (by omega) f1 ?_ ⟨g6, h46, fun _ _ => rfl⟩ (fun j hj => absurd hj (by omega)) he⟩, fun hc => absurd ((sI_le (by decide) (by decide)).mpr (Nat.le_refl _)) hc⟩
      obtain ⟨g, hg1, hg2⟩ := hb
      exact ⟨g, hg1, fun j hj => (hg2 j hj).trans (hv j hj)⟩
    | succ rem ih =>
      intro i c1 val hi f1 hb hv h46 he
      rw [s_X0_play_2]
      simp only [s_X0_play_0, s_X0_play_1, s_X0_play_3, s_X0_play_6, s_X0_play_9, s_X0_play_10, s_X0_play_13, s_X0_play_14, s_X0_play_15, s_X0_play_16, s_X0_play_19, s_X0_play_22, s_X0_play_23, s_X0_play_25, s_X0_play_27, s_X0_play_30, s_X0_play_31, s_X0_play_34, s_X0_play_35, s_X0_play_36, s_X0_play_37, s_X0_play_40, s_X0_play_43, s_X0_play_44, s_X0_play_47, s_X0_play_48, s_X0_play_50, s_X0_play_51, s_X0_play_54, s_X0_play_57, s_X0_play_58, s_X0_play_59, s_X0_play_60, s_X0_play_63, s_X0_play_65, s_X0_play_67, s_X0_play_68, s_X0_play_71, s_X0_play_73, s_X0_play_75, s_X0_play_78, s_X0_play_79, s_X0_play_82, s_X0_play_84, s_X0_play_85, s_X0_play_86, s_X0_play_87, s_X0_play_88, s_X0_play_89, s_X0_play_90, s_X0_play_91, s_X0_play_93, s_X0_play_96, s_X0_play_99, s_X0_play_102, s_X0_play_103, s_X0_play_106, s_X0_play_107, s_X0_play_110, s_X0_play_111, s_X0_play_114, s_X0_play_117, ga1 ((f1 45 rfl).trans h45), nI_add, sI_le (show 924 < 100000 by decide) (show i < 100000 by omega)]
      refine ⟨fun hc => absurd hc (by omega), fun _ => sb_i hb (by decide) (by omega) (by decide) fun c2 f2 hi2 => ?_⟩
      exact ⟨rfl, ih (i + 1) c2 _ (by omega) (f1.trans (f2.mono rfl)) hi2 (fillI hv (nar_byte 0 (by decide)).2) ((f2 46 rfl).trans h46) (he.fr f2 rfl)⟩
  exact lp1 924 0 c g7 (by omega) frm.rf ⟨g7, h47, fun _ _ => rfl⟩ (fun j hj => absurd hj (by omega)) h46 hev
theorem cl_late (hV : VS (n, m, v, w, fo, si, st)) (hC : CS c (n, m, v, w, fo, si, st) sg pd im) (hk : ∀ c', frm CM c c' → CS c' (n, m, v, w, fo, si, st) sg pd im → R (some (.int (latA (n, m, v, w, fo, si, st) x y))) (tab c')) : rM (rRo LL xs) (d + 31) 64 0 0 [.ref 0, .int x, .int y] (tab c) R := by
  have h0 := hC.1.1
  have htt := hC.2.1.1
  have hn := hV.1
  rw [en_X9_late]
  simp only [s_X9_late_0, s_X9_late_1, s_X9_late_4, s_X9_late_5, s_X9_late_8, s_X9_late_11, s_X9_late_12, s_X9_late_13, s_X9_late_14, s_X9_late_17, s_X9_late_20, s_X9_late_22, s_X9_late_23, s_X9_late_24, s_X9_late_27, s_X9_late_28, s_X9_late_31, s_X9_late_32, s_X9_late_35, s_X9_late_38, s_X9_late_39, s_X9_late_40, s_X9_late_43, s_X9_late_44, s_X9_late_47, s_X9_late_50, s_X9_late_51, s_X9_late_52, s_X9_late_53, s_X9_late_54, s_X9_late_57, s_X9_late_59, s_X9_late_62, s_X9_late_63, s_X9_late_66, s_X9_late_67, s_X9_late_70, gl0 h0, vt_o htt (show 1 < 70 by decide)]
  refine sp_X6_hasMan htt (by decide) (by omega) ?_
  simp only [Option.toList_some, Option.toList_none, List.cons_append, List.nil_append, Option.toList, s_X9_late_0, s_X9_late_1, s_X9_late_4, s_X9_late_5, s_X9_late_8, s_X9_late_11, s_X9_late_12, s_X9_late_13, s_X9_late_14, s_X9_late_17, s_X9_late_20, s_X9_late_22, s_X9_late_23, s_X9_late_24, s_X9_late_27, s_X9_late_28, s_X9_late_31, s_X9_late_32, s_X9_late_35, s_X9_late_38, s_X9_late_39, s_X9_late_40, s_X9_late_43, s_X9_late_44, s_X9_late_47, s_X9_late_50, s_X9_late_51, s_X9_late_52, s_X9_late_53, s_X9_late_54, s_X9_late_57, s_X9_late_59, s_X9_late_62, s_X9_late_63, s_X9_late_66, s_X9_late_67, s_X9_late_70, b2_0]
  refine ⟨fun hx => ?_, fun hx => sp_X9_isBit ?_⟩
  · have := hk c frm.rf hC
    rw [latA, if_neg hx] at this
    exact this
  have hx := Decidable.not_not.mp hx
  simp only [Option.toList_some, Option.toList_none, List.cons_append, List.nil_append, Option.toList, s_X9_late_0, s_X9_late_1, s_X9_late_4, s_X9_late_5, s_X9_late_8, s_X9_late_11, s_X9_late_12, s_X9_late_13, s_X9_late_14, s_X9_late_17, s_X9_late_20, s_X9_late_22, s_X9_late_23, s_X9_late_24, s_X9_late_27, s_X9_late_28, s_X9_late_31, s_X9_late_32, s_X9_late_35, s_X9_late_38, s_X9_late_39, s_X9_late_40, s_X9_late_43, s_X9_late_44, s_X9_late_47, s_X9_late_50, s_X9_late_51, s_X9_late_52, s_X9_late_53, s_X9_late_54, s_X9_late_57, s_X9_late_59, s_X9_late_62, s_X9_late_63, s_X9_late_66, s_X9_late_67, s_X9_late_70, b2_0, gl10 h0, gl0 h0, gl5 h0, va_o hC.2.2.2.2.2.2.2.2.2.1.1]
  refine ⟨fun hy => ?_, fun hy => sp_X0_play hV hC fun c1 b f1 hC1 he => ?_⟩
  · have := hk c frm.rf hC
    rw [latA, if_pos hx, if_neg hy] at this
    exact this
  have hy := Decidable.not_not.mp hy
  have hw := hk c1 (f1.mono rfl) hC1
  rw [latA, if_pos hx, if_pos hy] at hw
  obtain ⟨a, ha1, ha2, rfl⟩ := inR_nI hx (by decide) (by omega)
  rw [nI_c (by omega)] at hw
  have hq : laQ (n, m, v, w, fo, si, st) ≤ m := winF_le
  have hm := hV.2.1
  simp only [Option.toList_some, Option.toList_none, List.cons_append, List.nil_append, Option.toList, s_X9_late_0, s_X9_late_1, s_X9_late_4, s_X9_late_5, s_X9_late_8, s_X9_late_11, s_X9_late_12, s_X9_late_13, s_X9_late_14, s_X9_late_17, s_X9_late_20, s_X9_late_22, s_X9_late_23, s_X9_late_24, s_X9_late_27, s_X9_late_28, s_X9_late_31, s_X9_late_32, s_X9_late_35, s_X9_late_38, s_X9_late_39, s_X9_late_40, s_X9_late_43, s_X9_late_44, s_X9_late_47, s_X9_late_50, s_X9_late_51, s_X9_late_52, s_X9_late_53, s_X9_late_54, s_X9_late_57, s_X9_late_59, s_X9_late_62, s_X9_late_63, s_X9_late_66, s_X9_late_67, s_X9_late_70, gl5 hC1.1.1, ge0 hC1.1.2.2, ai_i he.1 (show 23 < 70 by decide) (show a < 6 by omega) (by decide), if_pos (show a < n by omega), ve_o hC1.1.2.2]
  refine ⟨rfl, fun hy0 => ?_, fun hy0 => ⟨fun hq0 => ?_, fun hq0 => ?_⟩⟩
  · rw [if_pos hy0] at hw
    exact hw
  · rw [if_neg hy0, if_pos ((sI_eq (by omega) (by decide)).mp (hq0.trans nI_0.symm))] at hw
    exact hw
  · have hz : ¬ laQ (n, m, v, w, fo, si, st) = 0 := fun e => hq0 (by rw [e]; exact nI_0)
    rw [if_neg hy0, if_neg hz] at hw
    refine sp_X2_writers hC1.1.2.2 he (fun j _ => by have : laS (n, m, v, w, fo, si, st) j ≤ m := (laS_le hV j).2; omega) hn.2 (by omega) ?_
    simp only [Option.toList_some, Option.toList_none, List.cons_append, List.nil_append, Option.toList, s_X9_late_0, s_X9_late_1, s_X9_late_4, s_X9_late_5, s_X9_late_8, s_X9_late_11, s_X9_late_12, s_X9_late_13, s_X9_late_14, s_X9_late_17, s_X9_late_20, s_X9_late_22, s_X9_late_23, s_X9_late_24, s_X9_late_27, s_X9_late_28, s_X9_late_31, s_X9_late_32, s_X9_late_35, s_X9_late_38, s_X9_late_39, s_X9_late_40, s_X9_late_43, s_X9_late_44, s_X9_late_47, s_X9_late_50, s_X9_late_51, s_X9_late_52, s_X9_late_53, s_X9_late_54, s_X9_late_57, s_X9_late_59, s_X9_late_62, s_X9_late_63, s_X9_late_66, s_X9_late_67, s_X9_late_70]
    exact hw
end CL
