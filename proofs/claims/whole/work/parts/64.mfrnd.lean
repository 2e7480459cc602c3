/-! ===== the model: friends, league ===== -/
def BSL (n v z m s : Nat) (V : List Nat → Nat) (best : Option Nat) (ba : Nat → Int32) (lu : Int64) : Prop := match best with
  | none => lu = - lN 1
  | some a => lu = lN (scF v * V (rwL m z a)) ∧ ∀ j, j < n → hasB s j = true → ba j = nI (rwC m z a (rkN s j))
def LGS (c c1 : Nat → rE) (n m v si sg s : Nat) (w fo : Nat → Nat) (ru : Int64) (best : Option Nat) : Prop := frm [53, 58, 59, 60, 61, 63, 64] c c1 ∧ tyI c1 58 7 ∧ tyI c1 59 7 ∧ tyI c1 60 7 ∧ isI c1 61 7 (fun j => nI (w j)) ∧ tyI c1 63 6 ∧ ∃ ba lu, c1 53 = mobj (nI n) (nI m) (nI v) (nI si) (nI sg) (nI (fcN fo s n 0)) ru lu ∧ isI c1 64 6 ba ∧ BSL n v (rkN s n) m s (VF w v m fo s n) best ba lu
section MV
variable {ro : rQ} {d : Nat} {R : rR} {c c' c0 c1 c2 : Nat → rE} {h : rH} {n m v si sg k t s i q : Nat} {w fo w' fl : Nat → Nat} {st pd b : Nat → Int32} {im : Nat → Option TS} {x y z men law sii sgg fr : Int32} {ru lu : Int64}
theorem sp_X10_layLeague (hV : VS (n, m, v, w, fo, si, st)) (hs : s < 64) (hM : MS c (n, m, v, w, fo, si, st) sg pd im) (hk : ∀ c' ba lu bb a, frm MM c c' → MS c' (n, m, v, w, fo, si, st) sg pd im → (∃ fr ru, c' 53 = mobj (nI n) (nI m) (nI v) (nI si) (nI sg) fr ru lu) → mxC (fun c => VF w v m fo s n (rwL m (rkN s n) c)) (m ^ rkN s n) = some a → lu = lN (scF v * VF w v m fo s n (rwL m (rkN s n) a)) → isI c' 64 6 ba → (∀ j, j < n → hasB s j = true → ba j = nI (rwC m (rkN s n) a (rkN s j))) → MT c' m v (fcN fo s n 0) w bb → R none (tab c')) : rM ro (d + 5) 143 0 0 [.ref 53, .int (nI s)] (tab c) R := by
  obtain ⟨⟨⟨fr, ru, lu, h53⟩, h54, h55, h56, h57⟩, hsc, him⟩ := id hM
  have hn := hV.1
  have hm := hV.2.1
  have hW := hV.2.2.2.2.2.2.1
  have hrk := rkN_le s n
  have hpw := pw_le (m := m) (n := rkN s n) hm.2 (by omega)
  have hscv := sc_le v
  have hVb : ∀ c, VF w v m fo s n (rwL m (rkN s n) c) ≤ 2985984 * 6 := fun c => VF_le hW.2 hn.2 (by rw [rwL_len]; omega)
  have lp : ∀ rem e c1 (l4 l5 l6 : Value), e + rem = m ^ rkN s n → LGS c c1 n m v si sg s w fo ru (mxC (fun c => VF w v m fo s n (rwL m (rkN s n) c)) e) → rU ro (d + 4) tb_X10_layLeague R 86 [.ref 53, .int (nI s), .int (nI (m ^ rkN s n)), .int (nI e), l4, l5, l6] [] (tab c1) := by
    intro rem
    induction rem with
    | zero =>
      intro e c1 l4 l5 l6 he hL
      have : e = m ^ rkN s n := by omega
      subst this
      obtain ⟨f1, t58, t59, t60, i61, t63, ba, lu1, e53, i64, hB⟩ := hL
      rw [s_X10_layLeague_86]
      simp only [s_X10_layLeague_0, s_X10_layLeague_1, s_X10_layLeague_4, s_X10_layLeague_5, s_X10_layLeague_6, s_X10_layLeague_9, s_X10_layLeague_10, s_X10_layLeague_11, s_X10_layLeague_12, s_X10_layLeague_14, s_X10_layLeague_15, s_X10_layLeague_18, s_X10_layLeague_21, s_X10_layLeague_22, s_X10_layLeague_23, s_X10_layLeague_26, s_X10_layLeague_27, s_X10_layLeague_28, s_X10_layLeague_31, s_X10_layLeague_34, s_X10_layLeague_35, s_X10_layLeague_38, s_X10_layLeague_39, s_X10_layLeague_40, s_X10_layLeague_43, s_X10_layLeague_44, s_X10_layLeague_47, s_X10_layLeague_48, s_X10_layLeague_49, s_X10_layLeague_52, s_X10_layLeague_53, s_X10_layLeague_54, s_X10_layLeague_55, s_X10_layLeague_58, s_X10_layLeague_61, s_X10_layLeague_62, s_X10_layLeague_65, s_X10_layLeague_68, s_X10_layLeague_69, s_X10_layLeague_70, s_X10_layLeague_71, s_X10_layLeague_74, s_X10_layLeague_77, s_X10_layLeague_78, s_X10_layLeague_81, s_X10_layLeague_84, s_X10_layLeague_85, s_X10_layLeague_87, s_X10_layLeague_88, s_X10_layLeague_91, s_X10_layLeague_92, s_X10_layLeague_93, s_X10_layLeague_94, s_X10_layLeague_97, s_X10_layLeague_100, s_X10_layLeague_101, s_X10_layLeague_102, s_X10_layLeague_105, s_X10_layLeague_107, s_X10_layLeague_109, s_X10_layLeague_110, s_X10_layLeague_113, s_X10_layLeague_114, s_X10_layLeague_117, s_X10_layLeague_118, s_X10_layLeague_120, s_X10_layLeague_123, s_X10_layLeague_124, s_X10_layLeague_128, s_X10_layLeague_129, s_X10_layLeague_132, s_X10_layLeague_135, s_X10_layLeague_136, s_X10_layLeague_139, s_X10_layLeague_141, s_X10_layLeague_142, s_X10_layLeague_145, s_X10_layLeague_147, s_X10_layLeague_148, s_X10_layLeague_149, s_X10_layLeague_152, s_X10_layLeague_158, s_X10_layLeague_161]
      refine ⟨fun _ => ?_, fun hc => absurd ((sI_le (by omega) (by omega)).mpr (Nat.le_refl _)) hc⟩
      obtain ⟨a, ha⟩ := mxC_some (V := fun c => VF w v m fo s n (rwL m (rkN s n) c)) (N := m ^ rkN s n) (Nat.pow_pos (by omega))
      rw [ha] at hB
      obtain ⟨bb, hbb⟩ := t59
      exact hk c1 ba lu1 bb a (f1.mono rfl) (hM.sc (f1.mono rfl) ⟨_, _, _, e53⟩ ⟨t58, ⟨bb, hbb⟩, t60, i61.ty, hsc.2.2.2.2.1.fr f1 rfl, t63, i64.ty, hsc.2.2.2.2.2.2.2.1.fr f1 rfl, hsc.2.2.2.2.2.2.2.2.1.fr f1 rfl, hsc.2.2.2.2.2.2.2.2.2.fr f1 rfl⟩) ⟨_, _, e53⟩ ha hB.1 i64 hB.2 ⟨⟨_, _, _, _, _, e53⟩, t58, t60, ⟨bb, hbb, fun _ _ => rfl⟩, i61⟩
    | succ rem ih =>
      intro e c1 l4 l5 l6 he hL
      obtain ⟨f1, t58, t59, t60, i61, t63, ba, lu1, e53, i64, hB⟩ := hL
      rw [s_X10_layLeague_86]
      simp only [s_X10_layLeague_0, s_X10_layLeague_1, s_X10_layLeague_4, s_X10_layLeague_5, s_X10_layLeague_6, s_X10_layLeague_9, s_X10_layLeague_10, s_X10_layLeague_11, s_X10_layLeague_12, s_X10_layLeague_14, s_X10_layLeague_15, s_X10_layLeague_18, s_X10_layLeague_21, s_X10_layLeague_22, s_X10_layLeague_23, s_X10_layLeague_26, s_X10_layLeague_27, s_X10_layLeague_28, s_X10_layLeague_31, s_X10_layLeague_34, s_X10_layLeague_35, s_X10_layLeague_38, s_X10_layLeague_39, s_X10_layLeague_40, s_X10_layLeague_43, s_X10_layLeague_44, s_X10_layLeague_47, s_X10_layLeague_48, s_X10_layLeague_49, s_X10_layLeague_52, s_X10_layLeague_53, s_X10_layLeague_54, s_X10_layLeague_55, s_X10_layLeague_58, s_X10_layLeague_61, s_X10_layLeague_62, s_X10_layLeague_65, s_X10_layLeague_68, s_X10_layLeague_69, s_X10_layLeague_70, s_X10_layLeague_71, s_X10_layLeague_74, s_X10_layLeague_77, s_X10_layLeague_78, s_X10_layLeague_81, s_X10_layLeague_84, s_X10_layLeague_85, s_X10_layLeague_87, s_X10_layLeague_88, s_X10_layLeague_91, s_X10_layLeague_92, s_X10_layLeague_93, s_X10_layLeague_94, s_X10_layLeague_97, s_X10_layLeague_100, s_X10_layLeague_101, s_X10_layLeague_102, s_X10_layLeague_105, s_X10_layLeague_107, s_X10_layLeague_109, s_X10_layLeague_110, s_X10_layLeague_113, s_X10_layLeague_114, s_X10_layLeague_117, s_X10_layLeague_118, s_X10_layLeague_120, s_X10_layLeague_123, s_X10_layLeague_124, s_X10_layLeague_128, s_X10_layLeague_129, s_X10_layLeague_132, s_X10_layLeague_135, s_X10_layLeague_136, s_X10_layLeague_139, s_X10_layLeague_141, s_X10_layLeague_142, s_X10_layLeague_145, s_X10_layLeague_147, s_X10_layLeague_148, s_X10_layLeague_149, s_X10_layLeague_152, s_X10_layLeague_158, s_X10_layLeague_161, vm_o e53, sI_le (show m ^ rkN s n < 100000 by omega) (show e < 100000 by omega)]
      refine ⟨fun hc => absurd hc (by omega), fun _ => sp_X10_layAgreed hV hs (by omega) e53 (h55.fr f1 rfl) t59 t63 fun c2 ag f2 i59 i63 hag => ?_⟩
      have e53 := (f2 53 rfl).trans e53
      simp only [Option.toList_some, Option.toList_none, List.cons_append, List.nil_append, Option.toList, s_X10_layLeague_0, s_X10_layLeague_1, s_X10_layLeague_4, s_X10_layLeague_5, s_X10_layLeague_6, s_X10_layLeague_9, s_X10_layLeague_10, s_X10_layLeague_11, s_X10_layLeague_12, s_X10_layLeague_14, s_X10_layLeague_15, s_X10_layLeague_18, s_X10_layLeague_21, s_X10_layLeague_22, s_X10_layLeague_23, s_X10_layLeague_26, s_X10_layLeague_27, s_X10_layLeague_28, s_X10_layLeague_31, s_X10_layLeague_34, s_X10_layLeague_35, s_X10_layLeague_38, s_X10_layLeague_39, s_X10_layLeague_40, s_X10_layLeague_43, s_X10_layLeague_44, s_X10_layLeague_47, s_X10_layLeague_48, s_X10_layLeague_49, s_X10_layLeague_52, s_X10_layLeague_53, s_X10_layLeague_54, s_X10_layLeague_55, s_X10_layLeague_58, s_X10_layLeague_61, s_X10_layLeague_62, s_X10_layLeague_65, s_X10_layLeague_68, s_X10_layLeague_69, s_X10_layLeague_70, s_X10_layLeague_71, s_X10_layLeague_74, s_X10_layLeague_77, s_X10_layLeague_78, s_X10_layLeague_81, s_X10_layLeague_84, s_X10_layLeague_85, s_X10_layLeague_87, s_X10_layLeague_88, s_X10_layLeague_91, s_X10_layLeague_92, s_X10_layLeague_93, s_X10_layLeague_94, s_X10_layLeague_97, s_X10_layLeague_100, s_X10_layLeague_101, s_X10_layLeague_102, s_X10_layLeague_105, s_X10_layLeague_107, s_X10_layLeague_109, s_X10_layLeague_110, s_X10_layLeague_113, s_X10_layLeague_114, s_X10_layLeague_117, s_X10_layLeague_118, s_X10_layLeague_120, s_X10_layLeague_123, s_X10_layLeague_124, s_X10_layLeague_128, s_X10_layLeague_129, s_X10_layLeague_132, s_X10_layLeague_135, s_X10_layLeague_136, s_X10_layLeague_139, s_X10_layLeague_141, s_X10_layLeague_142, s_X10_layLeague_145, s_X10_layLeague_147, s_X10_layLeague_148, s_X10_layLeague_149, s_X10_layLeague_152, s_X10_layLeague_158, s_X10_layLeague_161, vm_o e53]
      refine ⟨fun q => absurd q (by decide), fun _ => sp_X10_waysOfSet hV hs e53 (t58.fr f2 rfl) (t60.fr f2 rfl) i59 (i61.fr f2 rfl) i63 hag fun c3 f3 u58 u60 => ?_⟩
      have e53 := (f3 53 rfl).trans e53
      have g3 : frm [53, 58, 59, 60, 61, 63, 64] c c3 := f1.trans ((f2.mono rfl).trans (f3.mono rfl))
      have i64 := (i64.fr f2 rfl).fr f3 rfl
      have i63 := i63.fr f3 rfl
      have i61 := (i61.fr f2 rfl).fr f3 rfl
      have i59 := i59.fr f3 rfl
      have hve := hVb e
      have hse := Nat.mul_le_mul hscv.2 hve
      have skip : ∀ (l4 l5 l6 : Value), mxC (fun c => VF w v m fo s n (rwL m (rkN s n) c)) (e + 1) = mxC (fun c => VF w v m fo s n (rwL m (rkN s n) c)) e → rU ro (d + 4) tb_X10_layLeague R 155 [.ref 53, .int (nI s), .int (nI (m ^ rkN s n)), .int (nI e), l4, l5, l6] [] (tab c3) := by
        intro l4 l5 l6 hq
        simp only [s_X10_layLeague_0, s_X10_layLeague_1, s_X10_layLeague_4, s_X10_layLeague_5, s_X10_layLeague_6, s_X10_layLeague_9, s_X10_layLeague_10, s_X10_layLeague_11, s_X10_layLeague_12, s_X10_layLeague_14, s_X10_layLeague_15, s_X10_layLeague_18, s_X10_layLeague_21, s_X10_layLeague_22, s_X10_layLeague_23, s_X10_layLeague_26, s_X10_layLeague_27, s_X10_layLeague_28, s_X10_layLeague_31, s_X10_layLeague_34, s_X10_layLeague_35, s_X10_layLeague_38, s_X10_layLeague_39, s_X10_layLeague_40, s_X10_layLeague_43, s_X10_layLeague_44, s_X10_layLeague_47, s_X10_layLeague_48, s_X10_layLeague_49, s_X10_layLeague_52, s_X10_layLeague_53, s_X10_layLeague_54, s_X10_layLeague_55, s_X10_layLeague_58, s_X10_layLeague_61, s_X10_layLeague_62, s_X10_layLeague_65, s_X10_layLeague_68, s_X10_layLeague_69, s_X10_layLeague_70, s_X10_layLeague_71, s_X10_layLeague_74, s_X10_layLeague_77, s_X10_layLeague_78, s_X10_layLeague_81, s_X10_layLeague_84, s_X10_layLeague_85, s_X10_layLeague_87, s_X10_layLeague_88, s_X10_layLeague_91, s_X10_layLeague_92, s_X10_layLeague_93, s_X10_layLeague_94, s_X10_layLeague_97, s_X10_layLeague_100, s_X10_layLeague_101, s_X10_layLeague_102, s_X10_layLeague_105, s_X10_layLeague_107, s_X10_layLeague_109, s_X10_layLeague_110, s_X10_layLeague_113, s_X10_layLeague_114, s_X10_layLeague_117, s_X10_layLeague_118, s_X10_layLeague_120, s_X10_layLeague_123, s_X10_layLeague_124, s_X10_layLeague_128, s_X10_layLeague_129, s_X10_layLeague_132, s_X10_layLeague_135, s_X10_layLeague_136, s_X10_layLeague_139, s_X10_layLeague_141, s_X10_layLeague_142, s_X10_layLeague_145, s_X10_layLeague_147, s_X10_layLeague_148, s_X10_layLeague_149, s_X10_layLeague_152, s_X10_layLeague_155, s_X10_layLeague_158, s_X10_layLeague_161, nI_add]
        exact ⟨rfl, ih (e + 1) c3 _ _ _ (by omega) ⟨g3, u58, i59.ty, u60, i61, i63.ty, ba, lu1, e53, i64, by rw [hq]; exact hB⟩⟩
      have take : ∀ (l6 : Value), mxC (fun c => VF w v m fo s n (rwL m (rkN s n) c)) (e + 1) = some e → rU ro (d + 4) tb_X10_layLeague R 117 [.ref 53, .int (nI s), .int (nI (m ^ rkN s n)), .int (nI e), .long (lN (scF v * VF w v m fo s n (rwL m (rkN s n) e))), .null, l6] [] (tab c3) := by
        intro l6 hq
        simp only [s_X10_layLeague_0, s_X10_layLeague_1, s_X10_layLeague_4, s_X10_layLeague_5, s_X10_layLeague_6, s_X10_layLeague_9, s_X10_layLeague_10, s_X10_layLeague_11, s_X10_layLeague_12, s_X10_layLeague_14, s_X10_layLeague_15, s_X10_layLeague_18, s_X10_layLeague_21, s_X10_layLeague_22, s_X10_layLeague_23, s_X10_layLeague_26, s_X10_layLeague_27, s_X10_layLeague_28, s_X10_layLeague_31, s_X10_layLeague_34, s_X10_layLeague_35, s_X10_layLeague_38, s_X10_layLeague_39, s_X10_layLeague_40, s_X10_layLeague_43, s_X10_layLeague_44, s_X10_layLeague_47, s_X10_layLeague_48, s_X10_layLeague_49, s_X10_layLeague_52, s_X10_layLeague_53, s_X10_layLeague_54, s_X10_layLeague_55, s_X10_layLeague_58, s_X10_layLeague_61, s_X10_layLeague_62, s_X10_layLeague_65, s_X10_layLeague_68, s_X10_layLeague_69, s_X10_layLeague_70, s_X10_layLeague_71, s_X10_layLeague_74, s_X10_layLeague_77, s_X10_layLeague_78, s_X10_layLeague_81, s_X10_layLeague_84, s_X10_layLeague_85, s_X10_layLeague_87, s_X10_layLeague_88, s_X10_layLeague_91, s_X10_layLeague_92, s_X10_layLeague_93, s_X10_layLeague_94, s_X10_layLeague_97, s_X10_layLeague_100, s_X10_layLeague_101, s_X10_layLeague_102, s_X10_layLeague_105, s_X10_layLeague_107, s_X10_layLeague_109, s_X10_layLeague_110, s_X10_layLeague_113, s_X10_layLeague_114, s_X10_layLeague_117, s_X10_layLeague_118, s_X10_layLeague_120, s_X10_layLeague_123, s_X10_layLeague_124, s_X10_layLeague_128, s_X10_layLeague_129, s_X10_layLeague_132, s_X10_layLeague_135, s_X10_layLeague_136, s_X10_layLeague_139, s_X10_layLeague_141, s_X10_layLeague_142, s_X10_layLeague_145, s_X10_layLeague_147, s_X10_layLeague_148, s_X10_layLeague_149, s_X10_layLeague_152, s_X10_layLeague_158, s_X10_layLeague_161, pm18 e53]
        refine ⟨rfl, ?_⟩
        obtain ⟨c4, hc4⟩ : ∃ c4, c4 = fup c3 53 (mobj (nI n) (nI m) (nI v) (nI si) (nI sg) (nI (fcN fo s n 0)) ru (lN (scF v * VF w v m fo s n (rwL m (rkN s n) e)))) := ⟨_, rfl⟩
        rw [← hc4]
        have f4 : frm [53] c3 c4 := by rw [hc4]; exact frm.rf.fup rfl
        have e53 : c4 53 = mobj (nI n) (nI m) (nI v) (nI si) (nI sg) (nI (fcN fo s n 0)) ru (lN (scF v * VF w v m fo s n (rwL m (rkN s n) e))) := by rw [hc4]; exact fup_self
        have lp2 : ∀ rem j c5 val, j + rem = n → frm [64] c4 c5 → isI c5 64 6 val → (∀ i, i < j → val i = ag i) → rU ro (d + 4) tb_X10_layLeague R 126 [.ref 53, .int (nI s), .int (nI (m ^ rkN s n)), .int (nI e), .long (lN (scF v * VF w v m fo s n (rwL m (rkN s n) e))), .null, .int (nI j)] [] (tab c5) := by
          intro rem2
          induction rem2 with
          | zero =>
            intro j c5 val hj f5 hi5 hv
            have : j = n := by omega
            subst this
            have k53 := (f5 53 rfl).trans e53
            rw [s_X10_layLeague_126]
            simp only [s_X10_layLeague_0, s_X10_layLeague_1, s_X10_layLeague_4, s_X10_layLeague_5, s_X10_layLeague_6, s_X10_layLeague_9, s_X10_layLeague_10, s_X10_layLeague_11, s_X10_layLeague_12, s_X10_layLeague_14, s_X10_layLeague_15, s_X10_layLeague_18, s_X10_layLeague_21, s_X10_layLeague_22, s_X10_layLeague_23, s_X10_layLeague_26, s_X10_layLeague_27, s_X10_layLeague_28, s_X10_layLeague_31, s_X10_layLeague_34, s_X10_layLeague_35, s_X10_layLeague_38, s_X10_layLeague_39, s_X10_layLeague_40, s_X10_layLeague_43, s_X10_layLeague_44, s_X10_layLeague_47, s_X10_layLeague_48, s_X10_layLeague_49, s_X10_layLeague_52, s_X10_layLeague_53, s_X10_layLeague_54, s_X10_layLeague_55, s_X10_layLeague_58, s_X10_layLeague_61, s_X10_layLeague_62, s_X10_layLeague_65, s_X10_layLeague_68, s_X10_layLeague_69, s_X10_layLeague_70, s_X10_layLeague_71, s_X10_layLeague_74, s_X10_layLeague_77, s_X10_layLeague_78, s_X10_layLeague_81, s_X10_layLeague_84, s_X10_layLeague_85, s_X10_layLeague_87, s_X10_layLeague_88, s_X10_layLeague_91, s_X10_layLeague_92, s_X10_layLeague_93, s_X10_layLeague_94, s_X10_layLeague_97, s_X10_layLeague_100, s_X10_layLeague_101, s_X10_layLeague_102, s_X10_layLeague_105, s_X10_layLeague_107, s_X10_layLeague_109, s_X10_layLeague_110, s_X10_layLeague_113, s_X10_layLeague_114, s_X10_layLeague_117, s_X10_layLeague_118, s_X10_layLeague_120, s_X10_layLeague_123, s_X10_layLeague_124, s_X10_layLeague_128, s_X10_layLeague_129, s_X10_layLeague_132, s_X10_layLeague_135, s_X10_layLeague_136, s_X10_layLeague_139, s_X10_layLeague_141, s_X10_layLeague_142, s_X10_layLeague_145, s_X10_layLeague_147, s_X10_layLeague_148, s_X10_layLeague_149, s_X10_layLeague_152, s_X10_layLeague_155, s_X10_layLeague_158, s_X10_layLeague_161, gm0 k53, nI_add]
            refine ⟨fun _ => ⟨rfl, ih (e + 1) c5 _ _ _ (by omega) ⟨g3.trans ((f4.mono rfl).trans (f5.mono rfl)), (u58.fr f4 rfl).fr f5 rfl, (i59.ty.fr f4 rfl).fr f5 rfl, (u60.fr f4 rfl).fr f5 rfl, (i61.fr f4 rfl).fr f5 rfl, (i63.ty.fr f4 rfl).fr f5 rfl, val, _, k53, hi5, ?_⟩⟩, fun hc => absurd ((sI_le (by omega) (by omega)).mpr (Nat.le_refl _)) hc⟩
            rw [hq]
            exact ⟨rfl, fun i h1 h2 => (hv i h1).trans (hag i h1 h2)⟩
          | succ rem2 ih2 =>
            intro j c5 val hj f5 hi5 hv
            have k53 := (f5 53 rfl).trans e53
            rw [s_X10_layLeague_126]
            simp only [s_X10_layLeague_0, s_X10_layLeague_1, s_X10_layLeague_4, s_X10_layLeague_5, s_X10_layLeague_6, s_X10_layLeague_9, s_X10_layLeague_10, s_X10_layLeague_11, s_X10_layLeague_12, s_X10_layLeague_14, s_X10_layLeague_15, s_X10_layLeague_18, s_X10_layLeague_21, s_X10_layLeague_22, s_X10_layLeague_23, s_X10_layLeague_26, s_X10_layLeague_27, s_X10_layLeague_28, s_X10_layLeague_31, s_X10_layLeague_34, s_X10_layLeague_35, s_X10_layLeague_38, s_X10_layLeague_39, s_X10_layLeague_40, s_X10_layLeague_43, s_X10_layLeague_44, s_X10_layLeague_47, s_X10_layLeague_48, s_X10_layLeague_49, s_X10_layLeague_52, s_X10_layLeague_53, s_X10_layLeague_54, s_X10_layLeague_55, s_X10_layLeague_58, s_X10_layLeague_61, s_X10_layLeague_62, s_X10_layLeague_65, s_X10_layLeague_68, s_X10_layLeague_69, s_X10_layLeague_70, s_X10_layLeague_71, s_X10_layLeague_74, s_X10_layLeague_77, s_X10_layLeague_78, s_X10_layLeague_81, s_X10_layLeague_84, s_X10_layLeague_85, s_X10_layLeague_87, s_X10_layLeague_88, s_X10_layLeague_91, s_X10_layLeague_92, s_X10_layLeague_93, s_X10_layLeague_94, s_X10_layLeague_97, s_X10_layLeague_100, s_X10_layLeague_101, s_X10_layLeague_102, s_X10_layLeague_105, s_X10_layLeague_107, s_X10_layLeague_109, s_X10_layLeague_110, s_X10_layLeague_113, s_X10_layLeague_114, s_X10_layLeague_117, s_X10_layLeague_118, s_X10_layLeague_120, s_X10_layLeague_123, s_X10_layLeague_124, s_X10_layLeague_128, s_X10_layLeague_129, s_X10_layLeague_132, s_X10_layLeague_135, s_X10_layLeague_136, s_X10_layLeague_139, s_X10_layLeague_141, s_X10_layLeague_142, s_X10_layLeague_145, s_X10_layLeague_147, s_X10_layLeague_148, s_X10_layLeague_149, s_X10_layLeague_152, s_X10_layLeague_158, s_X10_layLeague_161, gm0 k53, gm17 k53, gm16 k53, nI_add, sI_le (show n < 100000 by omega) (show j < 100000 by omega), ai_i ((i63.fr f4 rfl).fr f5 rfl) (show 63 < 70 by decide) (show j < 6 by omega) (by decide)]
            refine ⟨fun hc => absurd hc (by omega), fun _ => si_i hi5 (by decide) (by omega) (by decide) fun c6 f6 hi6 => ⟨rfl, ih2 (j + 1) c6 _ (by omega) (f5.trans f6) hi6 (fillI hv rfl)⟩⟩
        exact lp2 n 0 c4 ba (by omega) frm.rf (i64.fr f4 rfl) (fun j hj => absurd hj (by omega))
      simp only [Option.toList_some, Option.toList_none, List.cons_append, List.nil_append, Option.toList, s_X10_layLeague_0, s_X10_layLeague_1, s_X10_layLeague_4, s_X10_layLeague_5, s_X10_layLeague_6, s_X10_layLeague_9, s_X10_layLeague_10, s_X10_layLeague_11, s_X10_layLeague_12, s_X10_layLeague_14, s_X10_layLeague_15, s_X10_layLeague_18, s_X10_layLeague_21, s_X10_layLeague_22, s_X10_layLeague_23, s_X10_layLeague_26, s_X10_layLeague_27, s_X10_layLeague_28, s_X10_layLeague_31, s_X10_layLeague_34, s_X10_layLeague_35, s_X10_layLeague_38, s_X10_layLeague_39, s_X10_layLeague_40, s_X10_layLeague_43, s_X10_layLeague_44, s_X10_layLeague_47, s_X10_layLeague_48, s_X10_layLeague_49, s_X10_layLeague_52, s_X10_layLeague_53, s_X10_layLeague_54, s_X10_layLeague_55, s_X10_layLeague_58, s_X10_layLeague_61, s_X10_layLeague_62, s_X10_layLeague_65, s_X10_layLeague_68, s_X10_layLeague_69, s_X10_layLeague_70, s_X10_layLeague_71, s_X10_layLeague_74, s_X10_layLeague_77, s_X10_layLeague_78, s_X10_layLeague_81, s_X10_layLeague_84, s_X10_layLeague_85, s_X10_layLeague_87, s_X10_layLeague_88, s_X10_layLeague_91, s_X10_layLeague_92, s_X10_layLeague_93, s_X10_layLeague_94, s_X10_layLeague_97, s_X10_layLeague_100, s_X10_layLeague_101, s_X10_layLeague_102, s_X10_layLeague_105, s_X10_layLeague_107, s_X10_layLeague_109, s_X10_layLeague_110, s_X10_layLeague_113, s_X10_layLeague_114, s_X10_layLeague_118, s_X10_layLeague_120, s_X10_layLeague_123, s_X10_layLeague_124, s_X10_layLeague_128, s_X10_layLeague_129, s_X10_layLeague_132, s_X10_layLeague_135, s_X10_layLeague_136, s_X10_layLeague_139, s_X10_layLeague_141, s_X10_layLeague_142, s_X10_layLeague_145, s_X10_layLeague_147, s_X10_layLeague_148, s_X10_layLeague_149, s_X10_layLeague_152, s_X10_layLeague_158, s_X10_layLeague_161, gm18 e53]
      cases hb : mxC (fun c => VF w v m fo s n (rwL m (rkN s n) c)) e with
      | none =>
        rw [hb] at hB
        have hB : lu1 = - lN 1 := hB
        rw [hB]
        simp only [lcneg (show scF v * VF w v m fo s n (rwL m (rkN s n) e) < 2 ^ 62 by omega)]
        refine ⟨rfl, False.elim, fun _ => take _ ?_⟩
        rw [mxC, hb]
      | some a =>
        rw [hb] at hB
        have hva := hVb a
        have hsa := Nat.mul_le_mul hscv.2 hva
        rw [hB.1]
        simp only [lcle (show scF v * VF w v m fo s n (rwL m (rkN s n) e) < 2 ^ 62 by omega) (show scF v * VF w v m fo s n (rwL m (rkN s n) a) < 2 ^ 62 by omega)]
        refine ⟨rfl, fun hle => skip _ _ _ ?_, fun hle => take _ ?_⟩
        · have : VF w v m fo s n (rwL m (rkN s n) e) ≤ VF w v m fo s n (rwL m (rkN s n) a) := Nat.le_of_mul_le_mul_left hle (by omega)
          rw [mxC, hb]
          simp only
          rw [if_neg (by omega)]
        · have : VF w v m fo s n (rwL m (rkN s n) a) < VF w v m fo s n (rwL m (rkN s n) e) := by
            rcases Nat.lt_or_ge (VF w v m fo s n (rwL m (rkN s n) a)) (VF w v m fo s n (rwL m (rkN s n) e)) with q | q
            · exact q
            · exact absurd (Nat.mul_le_mul_left _ q) hle
          rw [mxC, hb]
          simp only
          rw [if_pos this]
  rw [en_X10_layLeague]
  simp only [s_X10_layLeague_0, s_X10_layLeague_1, s_X10_layLeague_4, s_X10_layLeague_5, s_X10_layLeague_6, s_X10_layLeague_9, s_X10_layLeague_10, s_X10_layLeague_11, s_X10_layLeague_12, s_X10_layLeague_14, s_X10_layLeague_15, s_X10_layLeague_18, s_X10_layLeague_21, s_X10_layLeague_22, s_X10_layLeague_23, s_X10_layLeague_26, s_X10_layLeague_27, s_X10_layLeague_28, s_X10_layLeague_31, s_X10_layLeague_34, s_X10_layLeague_35, s_X10_layLeague_38, s_X10_layLeague_39, s_X10_layLeague_40, s_X10_layLeague_43, s_X10_layLeague_44, s_X10_layLeague_47, s_X10_layLeague_48, s_X10_layLeague_49, s_X10_layLeague_52, s_X10_layLeague_53, s_X10_layLeague_54, s_X10_layLeague_55, s_X10_layLeague_58, s_X10_layLeague_61, s_X10_layLeague_62, s_X10_layLeague_65, s_X10_layLeague_68, s_X10_layLeague_69, s_X10_layLeague_70, s_X10_layLeague_71, s_X10_layLeague_74, s_X10_layLeague_77, s_X10_layLeague_78, s_X10_layLeague_81, s_X10_layLeague_84, s_X10_layLeague_85, s_X10_layLeague_87, s_X10_layLeague_88, s_X10_layLeague_91, s_X10_layLeague_92, s_X10_layLeague_93, s_X10_layLeague_94, s_X10_layLeague_97, s_X10_layLeague_100, s_X10_layLeague_101, s_X10_layLeague_102, s_X10_layLeague_105, s_X10_layLeague_107, s_X10_layLeague_109, s_X10_layLeague_110, s_X10_layLeague_113, s_X10_layLeague_114, s_X10_layLeague_117, s_X10_layLeague_118, s_X10_layLeague_120, s_X10_layLeague_123, s_X10_layLeague_124, s_X10_layLeague_128, s_X10_layLeague_129, s_X10_layLeague_132, s_X10_layLeague_135, s_X10_layLeague_136, s_X10_layLeague_139, s_X10_layLeague_141, s_X10_layLeague_142, s_X10_layLeague_145, s_X10_layLeague_147, s_X10_layLeague_148, s_X10_layLeague_149, s_X10_layLeague_152, s_X10_layLeague_158, s_X10_layLeague_161, vm_o h53]
  refine sp_X10_asWeights h53 h54 hsc.2.2.2.1 fun c1 f1 hi1 => ?_
  have e53 := (f1 53 rfl).trans h53
  simp only [Option.toList_some, Option.toList_none, List.cons_append, List.nil_append, Option.toList, s_X10_layLeague_0, s_X10_layLeague_1, s_X10_layLeague_4, s_X10_layLeague_5, s_X10_layLeague_6, s_X10_layLeague_9, s_X10_layLeague_10, s_X10_layLeague_11, s_X10_layLeague_12, s_X10_layLeague_14, s_X10_layLeague_15, s_X10_layLeague_18, s_X10_layLeague_21, s_X10_layLeague_22, s_X10_layLeague_23, s_X10_layLeague_26, s_X10_layLeague_27, s_X10_layLeague_28, s_X10_layLeague_31, s_X10_layLeague_34, s_X10_layLeague_35, s_X10_layLeague_38, s_X10_layLeague_39, s_X10_layLeague_40, s_X10_layLeague_43, s_X10_layLeague_44, s_X10_layLeague_47, s_X10_layLeague_48, s_X10_layLeague_49, s_X10_layLeague_52, s_X10_layLeague_53, s_X10_layLeague_54, s_X10_layLeague_55, s_X10_layLeague_58, s_X10_layLeague_61, s_X10_layLeague_62, s_X10_layLeague_65, s_X10_layLeague_68, s_X10_layLeague_69, s_X10_layLeague_70, s_X10_layLeague_71, s_X10_layLeague_74, s_X10_layLeague_77, s_X10_layLeague_78, s_X10_layLeague_81, s_X10_layLeague_84, s_X10_layLeague_85, s_X10_layLeague_87, s_X10_layLeague_88, s_X10_layLeague_91, s_X10_layLeague_92, s_X10_layLeague_93, s_X10_layLeague_94, s_X10_layLeague_97, s_X10_layLeague_100, s_X10_layLeague_101, s_X10_layLeague_102, s_X10_layLeague_105, s_X10_layLeague_107, s_X10_layLeague_109, s_X10_layLeague_110, s_X10_layLeague_113, s_X10_layLeague_114, s_X10_layLeague_117, s_X10_layLeague_118, s_X10_layLeague_120, s_X10_layLeague_123, s_X10_layLeague_124, s_X10_layLeague_128, s_X10_layLeague_129, s_X10_layLeague_132, s_X10_layLeague_135, s_X10_layLeague_136, s_X10_layLeague_139, s_X10_layLeague_141, s_X10_layLeague_142, s_X10_layLeague_145, s_X10_layLeague_147, s_X10_layLeague_148, s_X10_layLeague_149, s_X10_layLeague_152, s_X10_layLeague_158, s_X10_layLeague_161, pm11 e53]
  refine ⟨rfl, rfl, ?_⟩
  have lp0 : ∀ rem i c2, i + rem = n → frm [53, 61] c c2 → c2 53 = mobj (nI n) (nI m) (nI v) (nI si) (nI sg) (nI (fcN fo s i 0)) ru lu → isI c2 61 7 (fun j => nI (w j)) → rU ro (d + 4) tb_X10_layLeague R 13 [.ref 53, .int (nI s), .int (nI (m ^ rkN s i)), .int (nI i), .null, .null, .null] [] (tab c2) := by
    intro rem
    induction rem with
    | zero =>
      intro i c2 hi f2 e53 i61
      have : i = n := by omega
      subst this
      rw [s_X10_layLeague_13]
      simp only [s_X10_layLeague_0, s_X10_layLeague_1, s_X10_layLeague_4, s_X10_layLeague_5, s_X10_layLeague_6, s_X10_layLeague_9, s_X10_layLeague_10, s_X10_layLeague_11, s_X10_layLeague_12, s_X10_layLeague_14, s_X10_layLeague_15, s_X10_layLeague_18, s_X10_layLeague_21, s_X10_layLeague_22, s_X10_layLeague_23, s_X10_layLeague_26, s_X10_layLeague_27, s_X10_layLeague_28, s_X10_layLeague_31, s_X10_layLeague_34, s_X10_layLeague_35, s_X10_layLeague_38, s_X10_layLeague_39, s_X10_layLeague_40, s_X10_layLeague_43, s_X10_layLeague_44, s_X10_layLeague_47, s_X10_layLeague_48, s_X10_layLeague_49, s_X10_layLeague_52, s_X10_layLeague_53, s_X10_layLeague_54, s_X10_layLeague_55, s_X10_layLeague_58, s_X10_layLeague_61, s_X10_layLeague_62, s_X10_layLeague_65, s_X10_layLeague_68, s_X10_layLeague_69, s_X10_layLeague_70, s_X10_layLeague_71, s_X10_layLeague_74, s_X10_layLeague_77, s_X10_layLeague_78, s_X10_layLeague_81, s_X10_layLeague_84, s_X10_layLeague_85, s_X10_layLeague_87, s_X10_layLeague_88, s_X10_layLeague_91, s_X10_layLeague_92, s_X10_layLeague_93, s_X10_layLeague_94, s_X10_layLeague_97, s_X10_layLeague_100, s_X10_layLeague_101, s_X10_layLeague_102, s_X10_layLeague_105, s_X10_layLeague_107, s_X10_layLeague_109, s_X10_layLeague_110, s_X10_layLeague_113, s_X10_layLeague_114, s_X10_layLeague_117, s_X10_layLeague_118, s_X10_layLeague_120, s_X10_layLeague_123, s_X10_layLeague_124, s_X10_layLeague_128, s_X10_layLeague_129, s_X10_layLeague_132, s_X10_layLeague_135, s_X10_layLeague_136, s_X10_layLeague_139, s_X10_layLeague_141, s_X10_layLeague_142, s_X10_layLeague_145, s_X10_layLeague_147, s_X10_layLeague_148, s_X10_layLeague_149, s_X10_layLeague_152, s_X10_layLeague_158, s_X10_layLeague_161, gm0 e53, pm18 e53]
      refine ⟨fun _ => ⟨rfl, ?_⟩, fun hc => absurd ((sI_le (by omega) (by omega)).mpr (Nat.le_refl _)) hc⟩
      have f3 : frm [53] c2 (fup c2 53 (mobj (nI i) (nI m) (nI v) (nI si) (nI sg) (nI (fcN fo s i 0)) ru (- lN 1))) := frm.rf.fup rfl
      obtain ⟨g, hg⟩ := (hsc.2.2.2.2.2.2.1.fr f2 rfl).fr f3 rfl
      exact lp (m ^ rkN s i) 0 _ _ _ _ (by omega) ⟨(f2.mono rfl).trans (f3.mono rfl), (hsc.1.fr f2 rfl).fr f3 rfl, (hsc.2.1.fr f2 rfl).fr f3 rfl, (hsc.2.2.1.fr f2 rfl).fr f3 rfl, i61.fr f3 rfl, (hsc.2.2.2.2.2.1.fr f2 rfl).fr f3 rfl, g, _, fup_self, ⟨g, hg, fun _ _ => rfl⟩, rfl⟩
    | succ rem ih =>
      intro i c2 hi f2 e53 i61
      have hfi : fo i ≤ m := hV.2.2.2.2.2.2.2.1 i
      have i55 := h55.fr f2 rfl
      have hfo0 : (nI (fo i) = 0) ↔ fo i = 0 := by rw [← nI_0]; exact sI_eq (by omega) (by decide)
      have hrki := rkN_le s i
      have hfc : fcN fo s (i + 1) 0 = fcN fo s i 0 + if hasB s i = false ∧ fo i = 0 then 1 else 0 := rfl
      have hrs : rkN s (i + 1) = rkN s i + (if hasB s i then 1 else 0) := rfl
      have nx : ∀ e1, fcN fo s i 0 + e1 = fcN fo s (i + 1) 0 → rU ro (d + 4) tb_X10_layLeague R 48 [.ref 53, .int (nI s), .int (nI (m ^ rkN s i)), .int (nI i), .null, .null, .null] [.int (nI e1), .int (nI (fcN fo s i 0)), .ref 53] (tab c2) := by
        intro e1 he1
        simp only [s_X10_layLeague_0, s_X10_layLeague_1, s_X10_layLeague_4, s_X10_layLeague_5, s_X10_layLeague_6, s_X10_layLeague_9, s_X10_layLeague_10, s_X10_layLeague_11, s_X10_layLeague_12, s_X10_layLeague_14, s_X10_layLeague_15, s_X10_layLeague_18, s_X10_layLeague_21, s_X10_layLeague_22, s_X10_layLeague_23, s_X10_layLeague_26, s_X10_layLeague_27, s_X10_layLeague_28, s_X10_layLeague_31, s_X10_layLeague_34, s_X10_layLeague_35, s_X10_layLeague_38, s_X10_layLeague_39, s_X10_layLeague_40, s_X10_layLeague_43, s_X10_layLeague_44, s_X10_layLeague_47, s_X10_layLeague_48, s_X10_layLeague_49, s_X10_layLeague_52, s_X10_layLeague_53, s_X10_layLeague_54, s_X10_layLeague_55, s_X10_layLeague_58, s_X10_layLeague_61, s_X10_layLeague_62, s_X10_layLeague_65, s_X10_layLeague_68, s_X10_layLeague_69, s_X10_layLeague_70, s_X10_layLeague_71, s_X10_layLeague_74, s_X10_layLeague_77, s_X10_layLeague_78, s_X10_layLeague_81, s_X10_layLeague_84, s_X10_layLeague_85, s_X10_layLeague_87, s_X10_layLeague_88, s_X10_layLeague_91, s_X10_layLeague_92, s_X10_layLeague_93, s_X10_layLeague_94, s_X10_layLeague_97, s_X10_layLeague_100, s_X10_layLeague_101, s_X10_layLeague_102, s_X10_layLeague_105, s_X10_layLeague_107, s_X10_layLeague_109, s_X10_layLeague_110, s_X10_layLeague_113, s_X10_layLeague_114, s_X10_layLeague_117, s_X10_layLeague_118, s_X10_layLeague_120, s_X10_layLeague_123, s_X10_layLeague_124, s_X10_layLeague_128, s_X10_layLeague_129, s_X10_layLeague_132, s_X10_layLeague_135, s_X10_layLeague_136, s_X10_layLeague_139, s_X10_layLeague_141, s_X10_layLeague_142, s_X10_layLeague_145, s_X10_layLeague_147, s_X10_layLeague_148, s_X10_layLeague_149, s_X10_layLeague_152, s_X10_layLeague_158, s_X10_layLeague_161, nI_add, he1, pm11 e53]
        refine sp_has hs (by omega) ?_
        have f3 : frm [53] c2 (fup c2 53 (mobj (nI n) (nI m) (nI v) (nI si) (nI sg) (nI (fcN fo s (i + 1) 0)) ru lu)) := frm.rf.fup rfl
        have k53 : fup c2 53 (mobj (nI n) (nI m) (nI v) (nI si) (nI sg) (nI (fcN fo s (i + 1) 0)) ru lu) 53 = mobj (nI n) (nI m) (nI v) (nI si) (nI sg) (nI (fcN fo s (i + 1) 0)) ru lu := fup_self
        simp only [Option.toList_some, Option.toList_none, List.cons_append, List.nil_append, Option.toList, s_X10_layLeague_0, s_X10_layLeague_1, s_X10_layLeague_4, s_X10_layLeague_5, s_X10_layLeague_6, s_X10_layLeague_9, s_X10_layLeague_10, s_X10_layLeague_11, s_X10_layLeague_12, s_X10_layLeague_14, s_X10_layLeague_15, s_X10_layLeague_18, s_X10_layLeague_21, s_X10_layLeague_22, s_X10_layLeague_23, s_X10_layLeague_26, s_X10_layLeague_27, s_X10_layLeague_28, s_X10_layLeague_31, s_X10_layLeague_34, s_X10_layLeague_35, s_X10_layLeague_38, s_X10_layLeague_39, s_X10_layLeague_40, s_X10_layLeague_43, s_X10_layLeague_44, s_X10_layLeague_47, s_X10_layLeague_48, s_X10_layLeague_49, s_X10_layLeague_52, s_X10_layLeague_53, s_X10_layLeague_54, s_X10_layLeague_55, s_X10_layLeague_58, s_X10_layLeague_61, s_X10_layLeague_62, s_X10_layLeague_65, s_X10_layLeague_68, s_X10_layLeague_69, s_X10_layLeague_70, s_X10_layLeague_71, s_X10_layLeague_74, s_X10_layLeague_77, s_X10_layLeague_78, s_X10_layLeague_81, s_X10_layLeague_84, s_X10_layLeague_85, s_X10_layLeague_87, s_X10_layLeague_88, s_X10_layLeague_91, s_X10_layLeague_92, s_X10_layLeague_93, s_X10_layLeague_94, s_X10_layLeague_97, s_X10_layLeague_100, s_X10_layLeague_101, s_X10_layLeague_102, s_X10_layLeague_105, s_X10_layLeague_107, s_X10_layLeague_109, s_X10_layLeague_110, s_X10_layLeague_113, s_X10_layLeague_114, s_X10_layLeague_117, s_X10_layLeague_118, s_X10_layLeague_120, s_X10_layLeague_123, s_X10_layLeague_124, s_X10_layLeague_128, s_X10_layLeague_129, s_X10_layLeague_132, s_X10_layLeague_135, s_X10_layLeague_136, s_X10_layLeague_139, s_X10_layLeague_141, s_X10_layLeague_142, s_X10_layLeague_145, s_X10_layLeague_147, s_X10_layLeague_148, s_X10_layLeague_149, s_X10_layLeague_152, s_X10_layLeague_158, s_X10_layLeague_161, b2_0, gm1 k53, nI_mul, nI_add]
        refine ⟨fun hB => ⟨rfl, rfl, ?_⟩, fun hB => ⟨rfl, rfl, ?_⟩⟩
        · have := ih (i + 1) _ (by omega) (f2.trans (f3.mono rfl)) k53 (i61.fr f3 rfl)
          rw [hrs, if_neg hB] at this
          rw [Nat.mul_one]
          exact this
        · have := ih (i + 1) _ (by omega) (f2.trans (f3.mono rfl)) k53 (i61.fr f3 rfl)
          rw [hrs, if_pos (Decidable.not_not.mp hB), Nat.pow_succ] at this
          exact this
      rw [s_X10_layLeague_13]
      simp only [s_X10_layLeague_0, s_X10_layLeague_1, s_X10_layLeague_4, s_X10_layLeague_5, s_X10_layLeague_6, s_X10_layLeague_9, s_X10_layLeague_10, s_X10_layLeague_11, s_X10_layLeague_12, s_X10_layLeague_14, s_X10_layLeague_15, s_X10_layLeague_18, s_X10_layLeague_21, s_X10_layLeague_22, s_X10_layLeague_23, s_X10_layLeague_26, s_X10_layLeague_27, s_X10_layLeague_28, s_X10_layLeague_31, s_X10_layLeague_34, s_X10_layLeague_35, s_X10_layLeague_38, s_X10_layLeague_39, s_X10_layLeague_40, s_X10_layLeague_43, s_X10_layLeague_44, s_X10_layLeague_47, s_X10_layLeague_49, s_X10_layLeague_52, s_X10_layLeague_53, s_X10_layLeague_54, s_X10_layLeague_55, s_X10_layLeague_58, s_X10_layLeague_61, s_X10_layLeague_62, s_X10_layLeague_65, s_X10_layLeague_68, s_X10_layLeague_69, s_X10_layLeague_70, s_X10_layLeague_71, s_X10_layLeague_74, s_X10_layLeague_77, s_X10_layLeague_78, s_X10_layLeague_81, s_X10_layLeague_84, s_X10_layLeague_85, s_X10_layLeague_87, s_X10_layLeague_88, s_X10_layLeague_91, s_X10_layLeague_92, s_X10_layLeague_93, s_X10_layLeague_94, s_X10_layLeague_97, s_X10_layLeague_100, s_X10_layLeague_101, s_X10_layLeague_102, s_X10_layLeague_105, s_X10_layLeague_107, s_X10_layLeague_109, s_X10_layLeague_110, s_X10_layLeague_113, s_X10_layLeague_114, s_X10_layLeague_117, s_X10_layLeague_118, s_X10_layLeague_120, s_X10_layLeague_123, s_X10_layLeague_124, s_X10_layLeague_128, s_X10_layLeague_129, s_X10_layLeague_132, s_X10_layLeague_135, s_X10_layLeague_136, s_X10_layLeague_139, s_X10_layLeague_141, s_X10_layLeague_142, s_X10_layLeague_145, s_X10_layLeague_147, s_X10_layLeague_148, s_X10_layLeague_149, s_X10_layLeague_152, s_X10_layLeague_158, s_X10_layLeague_161, gm0 e53, gm11 e53, sI_le (show n < 100000 by omega) (show i < 100000 by omega)]
      refine ⟨fun hc => absurd hc (by omega), fun _ => sp_has hs (by omega) ?_⟩
      simp only [Option.toList_some, Option.toList_none, List.cons_append, List.nil_append, Option.toList, s_X10_layLeague_0, s_X10_layLeague_1, s_X10_layLeague_4, s_X10_layLeague_5, s_X10_layLeague_6, s_X10_layLeague_9, s_X10_layLeague_10, s_X10_layLeague_11, s_X10_layLeague_12, s_X10_layLeague_14, s_X10_layLeague_15, s_X10_layLeague_18, s_X10_layLeague_21, s_X10_layLeague_22, s_X10_layLeague_23, s_X10_layLeague_26, s_X10_layLeague_27, s_X10_layLeague_28, s_X10_layLeague_31, s_X10_layLeague_34, s_X10_layLeague_35, s_X10_layLeague_38, s_X10_layLeague_39, s_X10_layLeague_40, s_X10_layLeague_43, s_X10_layLeague_44, s_X10_layLeague_47, s_X10_layLeague_49, s_X10_layLeague_52, s_X10_layLeague_53, s_X10_layLeague_54, s_X10_layLeague_55, s_X10_layLeague_58, s_X10_layLeague_61, s_X10_layLeague_62, s_X10_layLeague_65, s_X10_layLeague_68, s_X10_layLeague_69, s_X10_layLeague_70, s_X10_layLeague_71, s_X10_layLeague_74, s_X10_layLeague_77, s_X10_layLeague_78, s_X10_layLeague_81, s_X10_layLeague_84, s_X10_layLeague_85, s_X10_layLeague_87, s_X10_layLeague_88, s_X10_layLeague_91, s_X10_layLeague_92, s_X10_layLeague_93, s_X10_layLeague_94, s_X10_layLeague_97, s_X10_layLeague_100, s_X10_layLeague_101, s_X10_layLeague_102, s_X10_layLeague_105, s_X10_layLeague_107, s_X10_layLeague_109, s_X10_layLeague_110, s_X10_layLeague_113, s_X10_layLeague_114, s_X10_layLeague_117, s_X10_layLeague_118, s_X10_layLeague_120, s_X10_layLeague_123, s_X10_layLeague_124, s_X10_layLeague_128, s_X10_layLeague_129, s_X10_layLeague_132, s_X10_layLeague_135, s_X10_layLeague_136, s_X10_layLeague_139, s_X10_layLeague_141, s_X10_layLeague_142, s_X10_layLeague_145, s_X10_layLeague_147, s_X10_layLeague_148, s_X10_layLeague_149, s_X10_layLeague_152, s_X10_layLeague_158, s_X10_layLeague_161, b2_0, gm4 e53, ai_i i55 (show 55 < 70 by decide) (show i < 6 by omega) (by decide), hfo0]
      refine ⟨fun hB => ⟨fun h0 => nx 1 ?_, fun h0 => nx 0 ?_⟩, fun hB => nx 0 ?_⟩
      · rw [hfc, if_pos ⟨by simpa using hB, h0⟩]
      · rw [hfc, if_neg (fun q => h0 q.2)]
      · rw [hfc, if_neg (fun q => by rw [Decidable.not_not.mp hB] at q; exact absurd q.1 (by decide))]
  have f2 : frm [53] c1 (fup c1 53 (mobj (nI n) (nI m) (nI v) (nI si) (nI sg) (nI 0) ru lu)) := frm.rf.fup rfl
  exact lp0 n 0 _ (by omega) ((f1.mono rfl).trans (f2.mono rfl)) fup_self (hi1.fr f2 rfl)
theorem ml_friends (hV : VS (n, m, v, w, fo, si, st)) (hM : MS c (n, m, v, w, fo, si, st) sg pd im) (hk : ∀ c', frm MM c c' → MS c' (n, m, v, w, fo, si, st) sg pd im → R (some (.int (frnA (n, m, v, w, fo, si, st) x y))) (tab c')) : rM ro (d + 6) 145 0 0 [.ref 53, .int x, .int y] (tab c) R := by
  obtain ⟨⟨⟨fr, ru, lu, h53⟩, h54, h55, h56, h57⟩, hsc, him⟩ := id hM
  have hn := hV.1
  have hm := hV.2.1
  have hp := pow_le n (by omega)
  rw [en_X10_friends]
  simp only [s_X10_friends_0, s_X10_friends_1, s_X10_friends_2, s_X10_friends_5, s_X10_friends_8, s_X10_friends_9, s_X10_friends_10, s_X10_friends_13, s_X10_friends_16, s_X10_friends_17, s_X10_friends_18, s_X10_friends_21, s_X10_friends_24, s_X10_friends_25, s_X10_friends_27, s_X10_friends_28, s_X10_friends_31, s_X10_friends_34, s_X10_friends_36, s_X10_friends_37, s_X10_friends_38, s_X10_friends_39, s_X10_friends_42, s_X10_friends_43, s_X10_friends_46, s_X10_friends_47, s_X10_friends_48, vm_o h53]
  refine sp_isMan2 h53 (by omega) ?_
  simp only [Option.toList_some, Option.toList_none, List.cons_append, List.nil_append, Option.toList, s_X10_friends_0, s_X10_friends_1, s_X10_friends_2, s_X10_friends_5, s_X10_friends_8, s_X10_friends_9, s_X10_friends_10, s_X10_friends_13, s_X10_friends_16, s_X10_friends_17, s_X10_friends_18, s_X10_friends_21, s_X10_friends_24, s_X10_friends_25, s_X10_friends_27, s_X10_friends_28, s_X10_friends_31, s_X10_friends_34, s_X10_friends_36, s_X10_friends_37, s_X10_friends_38, s_X10_friends_39, s_X10_friends_42, s_X10_friends_43, s_X10_friends_46, s_X10_friends_47, s_X10_friends_48, b2_0, vm_o h53]
  refine ⟨fun hy => ?_, fun hy => sp_mSet h53 hn ?_⟩
  · have := hk c frm.rf hM
    rw [frnA, if_neg hy] at this
    exact this
  have hy := Decidable.not_not.mp hy
  simp only [Option.toList_some, Option.toList_none, List.cons_append, List.nil_append, Option.toList, s_X10_friends_0, s_X10_friends_1, s_X10_friends_2, s_X10_friends_5, s_X10_friends_8, s_X10_friends_9, s_X10_friends_10, s_X10_friends_13, s_X10_friends_16, s_X10_friends_17, s_X10_friends_18, s_X10_friends_21, s_X10_friends_24, s_X10_friends_25, s_X10_friends_27, s_X10_friends_28, s_X10_friends_31, s_X10_friends_34, s_X10_friends_36, s_X10_friends_37, s_X10_friends_38, s_X10_friends_39, s_X10_friends_42, s_X10_friends_43, s_X10_friends_46, s_X10_friends_47, s_X10_friends_48, b2_0]
  refine ⟨fun hx => ?_, fun hx => ?_⟩
  · simp only [s_X10_friends_0, s_X10_friends_1, s_X10_friends_2, s_X10_friends_5, s_X10_friends_8, s_X10_friends_9, s_X10_friends_10, s_X10_friends_13, s_X10_friends_16, s_X10_friends_17, s_X10_friends_18, s_X10_friends_21, s_X10_friends_24, s_X10_friends_25, s_X10_friends_26, s_X10_friends_27, s_X10_friends_28, s_X10_friends_31, s_X10_friends_34, s_X10_friends_36, s_X10_friends_37, s_X10_friends_38, s_X10_friends_39, s_X10_friends_42, s_X10_friends_43, s_X10_friends_46, s_X10_friends_47, s_X10_friends_48, vm_o h53]
    refine sp_mSet h53 hn ?_
    simp only [Option.toList_some, Option.toList_none, List.cons_append, List.nil_append, Option.toList, s_X10_friends_0, s_X10_friends_1, s_X10_friends_2, s_X10_friends_5, s_X10_friends_8, s_X10_friends_9, s_X10_friends_10, s_X10_friends_13, s_X10_friends_16, s_X10_friends_17, s_X10_friends_18, s_X10_friends_21, s_X10_friends_24, s_X10_friends_25, s_X10_friends_26, s_X10_friends_27, s_X10_friends_28, s_X10_friends_31, s_X10_friends_34, s_X10_friends_36, s_X10_friends_37, s_X10_friends_38, s_X10_friends_39, s_X10_friends_42, s_X10_friends_43, s_X10_friends_46, s_X10_friends_47, s_X10_friends_48, b2_0]
    refine ⟨fun _ => ?_, fun q => absurd hx q⟩
    have := hk c frm.rf hM
    rw [frnA, if_pos hy, if_neg hx] at this
    exact this
  have hx := Decidable.not_not.mp hx
  have hkk := fun c' h1 h2 => hk c' h1 h2
  rw [frnA, if_pos hy, if_pos hx] at hkk
  have hx0 := hx
  obtain ⟨a, ha1, ha2, rfl⟩ := inR_nI hx (by decide) (by show 2 ^ n - 1 < 100000; omega)
  obtain ⟨b, hb1, hb2, rfl⟩ := inR_nI hy (by decide) (by omega)
  have ha2 : a ≤ 2 ^ n - 1 := ha2
  rw [nI_c (by omega), nI_c (by omega)] at hkk
  refine sp_has (by omega) (by omega) ?_
  simp only [Option.toList_some, Option.toList_none, List.cons_append, List.nil_append, Option.toList, s_X10_friends_0, s_X10_friends_1, s_X10_friends_2, s_X10_friends_5, s_X10_friends_8, s_X10_friends_9, s_X10_friends_10, s_X10_friends_13, s_X10_friends_16, s_X10_friends_17, s_X10_friends_18, s_X10_friends_21, s_X10_friends_24, s_X10_friends_25, s_X10_friends_27, s_X10_friends_28, s_X10_friends_31, s_X10_friends_34, s_X10_friends_36, s_X10_friends_37, s_X10_friends_38, s_X10_friends_39, s_X10_friends_42, s_X10_friends_43, s_X10_friends_46, s_X10_friends_47, s_X10_friends_48, b2_0]
  refine ⟨fun hB => ?_, fun hB => ?_⟩
  · have := hkk c frm.rf hM
    rw [if_neg hB] at this
    exact this
  have hB := Decidable.not_not.mp hB
  rw [if_pos hB] at hkk
  simp only [s_X10_friends_0, s_X10_friends_1, s_X10_friends_2, s_X10_friends_5, s_X10_friends_8, s_X10_friends_9, s_X10_friends_10, s_X10_friends_13, s_X10_friends_16, s_X10_friends_17, s_X10_friends_18, s_X10_friends_21, s_X10_friends_24, s_X10_friends_25, s_X10_friends_26, s_X10_friends_27, s_X10_friends_28, s_X10_friends_31, s_X10_friends_34, s_X10_friends_36, s_X10_friends_37, s_X10_friends_38, s_X10_friends_39, s_X10_friends_42, s_X10_friends_43, s_X10_friends_46, s_X10_friends_47, s_X10_friends_48, vm_o h53]
  refine sp_mSet h53 hn ?_
  simp only [Option.toList_some, Option.toList_none, List.cons_append, List.nil_append, Option.toList, s_X10_friends_0, s_X10_friends_1, s_X10_friends_2, s_X10_friends_5, s_X10_friends_8, s_X10_friends_9, s_X10_friends_10, s_X10_friends_13, s_X10_friends_16, s_X10_friends_17, s_X10_friends_18, s_X10_friends_21, s_X10_friends_24, s_X10_friends_25, s_X10_friends_26, s_X10_friends_27, s_X10_friends_28, s_X10_friends_31, s_X10_friends_34, s_X10_friends_36, s_X10_friends_37, s_X10_friends_38, s_X10_friends_39, s_X10_friends_42, s_X10_friends_43, s_X10_friends_46, s_X10_friends_47, s_X10_friends_48, b2_0, vm_o h53]
  refine ⟨fun q => absurd hx0 q, fun _ => sp_X10_layLeague hV (by omega) hM fun c1 ba lu1 bb a1 f1 hM1 ⟨_, _, e53⟩ hmx hlu i64 hba hMT => ?_⟩
  have := hkk c1 f1 hM1
  rw [lgL_eq (by omega) hmx, rwL_get (rkN_lt hB (by omega)), ← hba b (by omega) hB] at this
  simp only [Option.toList_some, Option.toList_none, List.cons_append, List.nil_append, Option.toList, s_X10_friends_0, s_X10_friends_1, s_X10_friends_2, s_X10_friends_5, s_X10_friends_8, s_X10_friends_9, s_X10_friends_10, s_X10_friends_13, s_X10_friends_16, s_X10_friends_17, s_X10_friends_18, s_X10_friends_21, s_X10_friends_24, s_X10_friends_25, s_X10_friends_26, s_X10_friends_27, s_X10_friends_28, s_X10_friends_31, s_X10_friends_34, s_X10_friends_36, s_X10_friends_37, s_X10_friends_38, s_X10_friends_39, s_X10_friends_42, s_X10_friends_43, s_X10_friends_46, s_X10_friends_47, s_X10_friends_48, gm17 e53, ai_i i64 (show 64 < 70 by decide) (show b < 6 by omega) (by decide)]
  exact this
theorem ml_league (hV : VS (n, m, v, w, fo, si, st)) (hM : MS c (n, m, v, w, fo, si, st) sg pd im) (hk : ∀ c', frm MM c c' → MS c' (n, m, v, w, fo, si, st) sg pd im → R (some (.long (leaA (n, m, v, w, fo, si, st) x z))) (tab c')) : rM ro (d + 6) 146 0 0 [.ref 53, .int x, .int z] (tab c) R := by
  obtain ⟨⟨⟨fr, ru, lu, h53⟩, h54, h55, h56, h57⟩, hsc, him⟩ := id hM
  have hn := hV.1
  have hm := hV.2.1
  have hW := hV.2.2.2.2.2.2.1
  have hp := pow_le n (by omega)
  have no : ¬ (inR 1 (2 ^ n - 1) x ∧ inR 0 1 z) → R (some (.long L2)) (tab c) := fun q => by
    have := hk c frm.rf hM
    rw [leaA, if_neg q] at this
    exact this
  rw [en_X10_league]
  simp only [s_X10_league_0, s_X10_league_1, s_X10_league_2, s_X10_league_5, s_X10_league_8, s_X10_league_9, s_X10_league_10, s_X10_league_11, s_X10_league_14, s_X10_league_17, s_X10_league_20, s_X10_league_21, s_X10_league_22, s_X10_league_23, s_X10_league_26, s_X10_league_27, s_X10_league_30, s_X10_league_31, s_X10_league_34, s_X10_league_35, s_X10_league_38, vm_o h53]
  refine sp_mSet h53 hn ?_
  simp only [Option.toList_some, Option.toList_none, List.cons_append, List.nil_append, Option.toList, s_X10_league_0, s_X10_league_1, s_X10_league_2, s_X10_league_5, s_X10_league_8, s_X10_league_9, s_X10_league_10, s_X10_league_11, s_X10_league_14, s_X10_league_17, s_X10_league_20, s_X10_league_21, s_X10_league_22, s_X10_league_23, s_X10_league_26, s_X10_league_27, s_X10_league_30, s_X10_league_31, s_X10_league_34, s_X10_league_35, s_X10_league_38, b2_0]
  refine ⟨fun hx => no (fun q => hx q.1), fun hx => sp_in2 ?_⟩
  simp only [Option.toList_some, Option.toList_none, List.cons_append, List.nil_append, Option.toList, s_X10_league_0, s_X10_league_1, s_X10_league_2, s_X10_league_5, s_X10_league_8, s_X10_league_9, s_X10_league_10, s_X10_league_11, s_X10_league_14, s_X10_league_17, s_X10_league_20, s_X10_league_21, s_X10_league_22, s_X10_league_23, s_X10_league_26, s_X10_league_27, s_X10_league_30, s_X10_league_31, s_X10_league_34, s_X10_league_35, s_X10_league_38, b2_0, vm_o h53]
  refine ⟨fun hz => no (fun q => hz q.2), fun hz => ?_⟩
  have hx := Decidable.not_not.mp hx
  have hz := Decidable.not_not.mp hz
  have hkk := fun c' h1 h2 => hk c' h1 h2
  rw [leaA, if_pos ⟨hx, hz⟩] at hkk
  obtain ⟨a, ha1, ha2, rfl⟩ := inR_nI hx (by decide) (by show 2 ^ n - 1 < 100000; omega)
  have ha2 : a ≤ 2 ^ n - 1 := ha2
  rw [nI_c (by omega)] at hkk
  have hk6 : fcN fo a n 0 ≤ 6 := Nat.le_trans (fcN_le fo a n 0) hn.2
  refine sp_X10_layLeague hV (by omega) hM fun c1 ba lu1 bb a1 f1 hM1 ⟨_, _, e53⟩ hmx hlu i64 hba hMT => ?_
  have := hkk c1 f1 hM1
  rw [lgL_eq (by omega) hmx] at this
  simp only [Option.toList_some, Option.toList_none, List.cons_append, List.nil_append, Option.toList, s_X10_league_0, s_X10_league_1, s_X10_league_2, s_X10_league_5, s_X10_league_8, s_X10_league_9, s_X10_league_10, s_X10_league_11, s_X10_league_14, s_X10_league_17, s_X10_league_20, s_X10_league_21, s_X10_league_22, s_X10_league_23, s_X10_league_26, s_X10_league_27, s_X10_league_30, s_X10_league_31, s_X10_league_34, s_X10_league_35, s_X10_league_38, gm18 e53, vm_o e53]
  refine sp_X10_lowOf hMT (hV.vt hk6) ?_
  rw [hlu]
  simp only [Option.toList_some, Option.toList_none, List.cons_append, List.nil_append, Option.toList, s_X10_league_0, s_X10_league_1, s_X10_league_2, s_X10_league_5, s_X10_league_8, s_X10_league_9, s_X10_league_10, s_X10_league_11, s_X10_league_14, s_X10_league_17, s_X10_league_20, s_X10_league_21, s_X10_league_22, s_X10_league_23, s_X10_league_26, s_X10_league_27, s_X10_league_30, s_X10_league_31, s_X10_league_34, s_X10_league_35, s_X10_league_38]
  have hl := lw2 hW (show fcN fo a n 0 ≤ 7 by omega)
  have hrk := rkN_le a n
  have hvb := VF_le (w := w) (v := v) (m := m) (fo := fo) (s := a) (n := n) (x := rwL m (rkN a n) a1) hW.2 hn.2 (by rw [rwL_len]; omega)
  have hS := Nat.mul_le_mul (sc_le v).2 hvb
  refine sp_X10_term (by omega) hl.1 hl.2.1 ?_
  simp only [Option.toList_some, Option.toList_none, List.cons_append, List.nil_append, Option.toList, s_X10_league_0, s_X10_league_1, s_X10_league_2, s_X10_league_5, s_X10_league_8, s_X10_league_9, s_X10_league_10, s_X10_league_11, s_X10_league_14, s_X10_league_17, s_X10_league_20, s_X10_league_21, s_X10_league_22, s_X10_league_23, s_X10_league_26, s_X10_league_27, s_X10_league_30, s_X10_league_31, s_X10_league_34, s_X10_league_35, s_X10_league_38]
  rw [← fr_sc] at this
  exact this
end MV
