/-! ===== the class: rest, gap ===== -/
def nwF (m : Nat) (fl : Nat → Nat) : Nat → Nat := updN (updN (updN fl (lastN fl m) 0) (lastN fl m - 1) (fl (lastN fl m - 1) + 1)) m (fl (lastN fl m) - 1)
def chw (m : Nat) : List (List Nat) → Bool
  | [] => false
  | [a] => Nat.blt (lastN (fll a) m) 2
  | a :: b :: t => !(Nat.blt (lastN (fll a) m) 2) && (List.range m).map (fun j => nwF m (fll a) (j + 1)) == b && chw m (b :: t)
theorem cmp_chw0 : ∀ m, m < 7 → 2 ≤ m → ∀ k, k < 8 → chw m (cmp m (k + 1)) = true ∧ (cmp m (k + 1)).head? = some (List.replicate (m - 1) 0 ++ [k + 1]) ∧ (cmp m (k + 1)).all (okL m (k + 1)) = true := by decide +kernel
theorem cmp_chw (m : Nat) (h1 : m < 7) (h2 : 2 ≤ m) (k : Nat) (h3 : k < 9) (h4 : 1 ≤ k) : chw m (cmp m k) = true ∧ (cmp m k).head? = some (List.replicate (m - 1) 0 ++ [k]) ∧ (cmp m k).all (okL m k) = true := by
  have := cmp_chw0 m h1 h2 (k - 1) (by omega)
  rw [show k - 1 + 1 = k by omega] at this
  exact this
theorem amF_mem {H : List Nat → Nat} : ∀ (t : List (List Nat)) (a : List Nat), amF H t a ∈ a :: t
  | [], a => List.mem_cons_self
  | l :: t, a => by
    rw [amF]
    split
    · exact List.mem_cons_of_mem _ (amF_mem t l)
    · rcases List.mem_cons.mp (amF_mem (H := H) t a) with h | h
      · rw [h]; exact List.mem_cons_self
      · exact List.mem_cons_of_mem _ (List.mem_cons_of_mem _ h)
theorem cmp_nn {m t : Nat} (hm : 2 ≤ m ∧ m ≤ 6) (ht : 1 ≤ t ∧ t ≤ 8) : cmp m t ≠ [] := by
  intro e
  have := (cmp_chw m (by omega) hm.1 t (by omega) ht.1).2.1
  rw [e] at this
  exact absurd this (by simp)
theorem rs_ok {v n m t : Nat} (hm : 2 ≤ m ∧ m ≤ 6) (ht : 1 ≤ t ∧ t ≤ 8) : (rsL v n m t).length = m ∧ smF (fll (rsL v n m t)) m 1 = t := by
  have hall := (cmp_chw m (by omega) hm.1 t (by omega) ht.1).2.2
  have hmem : rsL v n m t ∈ cmp m t := by
    unfold rsL
    cases hc : cmp m t with
    | nil => exact absurd hc (cmp_nn hm ht)
    | cons a r => exact amF_mem r a
  have := List.all_eq_true.mp hall _ hmem
  simpa [okL] using this
theorem gp_le {w : Nat → Nat} {v m k : Nat} {b : Nat → Int32} (hW : smF w m 1 ≤ 12) (hk : k ≤ 6) : gpF w v m k b ≤ 12 * 2985984 := by
  have h1 : gnF w v m k b (topF (gnF w v m k b) m) ≤ 2985984 := Nat.le_trans tl_le (pow12 hW hk)
  have h2 := Nat.mul_le_mul hW h1
  unfold gpF
  omega
theorem rsH_lt {v n m t : Nat} (hm : 2 ≤ m ∧ m ≤ 6) (ht : 1 ≤ t ∧ t ≤ 8) (hn : n ≤ 6) : rsH v n m (rsL v n m t) ≤ 12 * 2985984 := gp_le (by rw [(rs_ok hm ht).2]; omega) (by omega)
def rstA (T : TS) (x y : Int32) : Int32 := if inR 1 T.2.1 y then (if inR 1 8 x then nI (fll (rsL T.2.2.1 T.1 T.2.1 x.toNatClampNeg) y.toNatClampNeg) else - nI 2) else - nI 1
def gapA (T : TS) (x z : Int32) : Int64 := if inR 1 8 x ∧ inR 0 1 z then frF (rsH T.2.2.1 T.1 T.2.1 (rsL T.2.2.1 T.1 T.2.1 x.toNatClampNeg)) (x.toNatClampNeg ^ T.1 * tmF T.2.2.1) z else L2
section CC
variable {ro : rQ} {LL : Nat} {xs : Nat → Int32} {d : Nat} {R : rR} {c : Nat → rE} {h : rH} {n m v si sg k t q l : Nat} {w fo o rf : Nat → Nat} {st pd rw : Nat → Int32} {gp : Nat → Int64} {im : Nat → Option TS} {x y z s : Int32} {best : Option (List Nat)} {H : List Nat → Nat}
theorem sp_X1_find (hV : VS (n, m, v, w, fo, si, st)) (hC : CS c (n, m, v, w, fo, si, st) sg pd im) (ht : 1 ≤ t ∧ t ≤ 8) (hk : ∀ c' rw gp s, frm [31, 32, 33, 34, 35, 36, 37, 38] c c' → CS c' (n, m, v, w, fo, si, st) sg pd im → c' 31 = cob s → isI c' 36 63 rw → isL c' 37 9 gp → (∀ x, 1 ≤ x → x ≤ m → rw (t * 7 + x) = nI (fll (rsL v n m t) x)) → gp t = lN (rsH v n m (rsL v n m t)) → R none (tab c')) : rM (rRo LL xs) (d + 18) 4 0 0 [.ref 31, .ref 1, .int (nI t)] (tab c) R := by
  have hn := hV.1
  have hm := hV.2.1
  have hv := hV.2.2.1
  have htt := hC.2.1.1
  obtain ⟨⟨s, h31⟩, ⟨⟨b0, b1, b2', hg⟩, hg1, hg2⟩, ⟨rf, hrf, hr8⟩, ky, rw, gp, h35, h36, h37, hcm⟩ := id hC.2.2.2.2.2.2.2.1
  have h31 : c 31 = cob s := h31
  rw [en_X1_find]
  simp only [s_X1_find_0, s_X1_find_1, s_X1_find_4, s_X1_find_6, s_X1_find_7, s_X1_find_8, s_X1_find_11, s_X1_find_13, s_X1_find_14, s_X1_find_15, s_X1_find_16, s_X1_find_19, s_X1_find_20, s_X1_find_21, s_X1_find_22, s_X1_find_25, s_X1_find_28, s_X1_find_29, s_X1_find_32, s_X1_find_33, s_X1_find_34, s_X1_find_35, s_X1_find_38, s_X1_find_39, s_X1_find_40, s_X1_find_41, s_X1_find_44, s_X1_find_45, s_X1_find_48, s_X1_find_49, s_X1_find_52, s_X1_find_53, s_X1_find_54, s_X1_find_55, s_X1_find_58, s_X1_find_59, s_X1_find_62, s_X1_find_65, s_X1_find_66, s_X1_find_67, s_X1_find_70, s_X1_find_71, s_X1_find_74, s_X1_find_75, s_X1_find_78, s_X1_find_81, s_X1_find_82, s_X1_find_84, s_X1_find_86, s_X1_find_87, s_X1_find_90, s_X1_find_93, s_X1_find_94, s_X1_find_97, s_X1_find_98, s_X1_find_101, s_X1_find_104, s_X1_find_107, s_X1_find_108, s_X1_find_109, s_X1_find_110, s_X1_find_113, s_X1_find_116, gt2 htt (show 1 < 70 by decide), gt0 htt (show 1 < 70 by decide), gt1 htt (show 1 < 70 by decide), nI_mul, nI_add]
  refine ⟨rfl, sp_X9_isSum ?_⟩
  simp only [Option.toList_some, Option.toList_none, List.cons_append, List.nil_append, Option.toList, s_X1_find_0, s_X1_find_1, s_X1_find_4, s_X1_find_6, s_X1_find_7, s_X1_find_8, s_X1_find_11, s_X1_find_13, s_X1_find_14, s_X1_find_15, s_X1_find_16, s_X1_find_19, s_X1_find_20, s_X1_find_21, s_X1_find_22, s_X1_find_25, s_X1_find_28, s_X1_find_29, s_X1_find_32, s_X1_find_33, s_X1_find_34, s_X1_find_35, s_X1_find_38, s_X1_find_40, s_X1_find_41, s_X1_find_44, s_X1_find_45, s_X1_find_48, s_X1_find_49, s_X1_find_52, s_X1_find_53, s_X1_find_54, s_X1_find_55, s_X1_find_58, s_X1_find_59, s_X1_find_62, s_X1_find_65, s_X1_find_66, s_X1_find_67, s_X1_find_70, s_X1_find_71, s_X1_find_74, s_X1_find_75, s_X1_find_78, s_X1_find_81, s_X1_find_82, s_X1_find_84, s_X1_find_86, s_X1_find_87, s_X1_find_90, s_X1_find_93, s_X1_find_94, s_X1_find_97, s_X1_find_98, s_X1_find_101, s_X1_find_104, s_X1_find_107, s_X1_find_108, s_X1_find_109, s_X1_find_110, s_X1_find_113, s_X1_find_116, b2_0, gc1 h31, ai_i h35 (show 35 < 70 by decide) (show t < 9 by omega) (by decide)]
  refine ⟨fun q => absurd (inR_of (by omega) (by omega) (by decide)) q, fun _ => ⟨fun he => ?_, fun hne => ?_⟩⟩
  · rcases hcm t ht.1 ht.2 with h0 | ⟨v', n', m', hv', hn', hm', hky, hrw, hgp⟩
    · rw [h0] at he
      have := (sI_eq (by omega) (by omega)).mp he
      omega
    · rw [hky] at he
      have := (sI_eq (by omega) (by omega)).mp he
      have e1 : v' = v := by omega
      have e2 : n' = n := by omega
      have e3 : m' = m := by omega
      subst e1 e2 e3
      exact hk c rw gp s frm.rf hC h31 h36 h37 hrw hgp
  · simp only [s_X1_find_0, s_X1_find_1, s_X1_find_4, s_X1_find_6, s_X1_find_7, s_X1_find_8, s_X1_find_11, s_X1_find_13, s_X1_find_14, s_X1_find_15, s_X1_find_16, s_X1_find_19, s_X1_find_20, s_X1_find_21, s_X1_find_22, s_X1_find_25, s_X1_find_28, s_X1_find_29, s_X1_find_32, s_X1_find_33, s_X1_find_34, s_X1_find_35, s_X1_find_38, s_X1_find_39, s_X1_find_40, s_X1_find_41, s_X1_find_44, s_X1_find_45, s_X1_find_48, s_X1_find_49, s_X1_find_52, s_X1_find_53, s_X1_find_54, s_X1_find_55, s_X1_find_58, s_X1_find_59, s_X1_find_62, s_X1_find_65, s_X1_find_66, s_X1_find_67, s_X1_find_70, s_X1_find_71, s_X1_find_74, s_X1_find_75, s_X1_find_78, s_X1_find_81, s_X1_find_82, s_X1_find_86, s_X1_find_87, s_X1_find_90, s_X1_find_93, s_X1_find_94, s_X1_find_97, s_X1_find_98, s_X1_find_101, s_X1_find_104, s_X1_find_107, s_X1_find_108, s_X1_find_109, s_X1_find_110, s_X1_find_113, s_X1_find_116, pc5 h31]
    obtain ⟨c1, hc1⟩ : ∃ c1, c1 = fup c 31 (cob (nI t)) := ⟨_, rfl⟩
    rw [← hc1]
    have f1 : frm [31] c c1 := by rw [hc1]; exact frm.rf.fup rfl
    have e31 : c1 31 = cob (nI t) := by rw [hc1]; exact fup_self
    simp only [gc1 e31, gc5 e31, s_X1_find_0, s_X1_find_1, s_X1_find_4, s_X1_find_6, s_X1_find_7, s_X1_find_8, s_X1_find_11, s_X1_find_13, s_X1_find_14, s_X1_find_15, s_X1_find_16, s_X1_find_19, s_X1_find_20, s_X1_find_21, s_X1_find_22, s_X1_find_25, s_X1_find_28, s_X1_find_29, s_X1_find_32, s_X1_find_33, s_X1_find_34, s_X1_find_35, s_X1_find_38, s_X1_find_39, s_X1_find_40, s_X1_find_41, s_X1_find_44, s_X1_find_45, s_X1_find_48, s_X1_find_49, s_X1_find_52, s_X1_find_53, s_X1_find_54, s_X1_find_55, s_X1_find_58, s_X1_find_59, s_X1_find_62, s_X1_find_65, s_X1_find_66, s_X1_find_67, s_X1_find_70, s_X1_find_71, s_X1_find_74, s_X1_find_75, s_X1_find_78, s_X1_find_81, s_X1_find_82, s_X1_find_86, s_X1_find_87, s_X1_find_90, s_X1_find_93, s_X1_find_94, s_X1_find_97, s_X1_find_98, s_X1_find_101, s_X1_find_104, s_X1_find_107, s_X1_find_108, s_X1_find_109, s_X1_find_110, s_X1_find_113, s_X1_find_116]
    refine si_i (h35.fr f1 rfl) (by decide) (by omega) (by decide) fun c2 f2 i35 => ?_
    have e31 := (f2 31 rfl).trans e31
    simp only [gc3 e31, gc5 e31, s_X1_find_0, s_X1_find_1, s_X1_find_4, s_X1_find_6, s_X1_find_7, s_X1_find_8, s_X1_find_11, s_X1_find_13, s_X1_find_14, s_X1_find_15, s_X1_find_16, s_X1_find_19, s_X1_find_20, s_X1_find_21, s_X1_find_22, s_X1_find_25, s_X1_find_28, s_X1_find_29, s_X1_find_32, s_X1_find_33, s_X1_find_34, s_X1_find_35, s_X1_find_38, s_X1_find_39, s_X1_find_40, s_X1_find_41, s_X1_find_44, s_X1_find_45, s_X1_find_48, s_X1_find_49, s_X1_find_52, s_X1_find_53, s_X1_find_54, s_X1_find_55, s_X1_find_58, s_X1_find_59, s_X1_find_62, s_X1_find_65, s_X1_find_66, s_X1_find_67, s_X1_find_70, s_X1_find_71, s_X1_find_74, s_X1_find_75, s_X1_find_78, s_X1_find_81, s_X1_find_82, s_X1_find_86, s_X1_find_87, s_X1_find_90, s_X1_find_93, s_X1_find_94, s_X1_find_97, s_X1_find_98, s_X1_find_101, s_X1_find_104, s_X1_find_107, s_X1_find_108, s_X1_find_109, s_X1_find_110, s_X1_find_113, s_X1_find_116]
    refine sl_i ((h37.fr f1 rfl).fr f2 rfl) (by decide) (by omega) (by decide) fun c3 f3 i37 => ?_
    have e31 := (f3 31 rfl).trans e31
    have F3 : frm [31, 35, 37] c c3 := (f1.mono rfl).trans ((f2.mono rfl).trans (f3.mono rfl))
    have htt3 := (F3 1 rfl).trans htt
    have hg3 := (F3 32 rfl).trans hg
    simp only [gc0 e31, gc5 e31, s_X1_find_0, s_X1_find_1, s_X1_find_4, s_X1_find_6, s_X1_find_7, s_X1_find_8, s_X1_find_11, s_X1_find_13, s_X1_find_14, s_X1_find_15, s_X1_find_16, s_X1_find_19, s_X1_find_20, s_X1_find_21, s_X1_find_22, s_X1_find_25, s_X1_find_28, s_X1_find_29, s_X1_find_32, s_X1_find_33, s_X1_find_34, s_X1_find_35, s_X1_find_38, s_X1_find_39, s_X1_find_40, s_X1_find_41, s_X1_find_44, s_X1_find_45, s_X1_find_48, s_X1_find_49, s_X1_find_52, s_X1_find_53, s_X1_find_54, s_X1_find_55, s_X1_find_58, s_X1_find_59, s_X1_find_62, s_X1_find_65, s_X1_find_66, s_X1_find_67, s_X1_find_70, s_X1_find_71, s_X1_find_74, s_X1_find_75, s_X1_find_78, s_X1_find_81, s_X1_find_82, s_X1_find_86, s_X1_find_87, s_X1_find_90, s_X1_find_93, s_X1_find_94, s_X1_find_97, s_X1_find_98, s_X1_find_101, s_X1_find_104, s_X1_find_107, s_X1_find_108, s_X1_find_109, s_X1_find_110, s_X1_find_113, s_X1_find_116, gt2 htt3 (show 1 < 70 by decide), gt1 htt3 (show 1 < 70 by decide), vg4 hg3 (show 32 < 70 by decide)]
    refine sp_X7_clear hg3 (Or.inl rfl) (by decide) (hg1.fr F3 rfl) fun c4 f4 e32 e33 => ?_
    simp only [Option.toList_some, Option.toList_none, List.cons_append, List.nil_append, Option.toList, s_X1_find_0, s_X1_find_1, s_X1_find_4, s_X1_find_6, s_X1_find_7, s_X1_find_8, s_X1_find_11, s_X1_find_13, s_X1_find_14, s_X1_find_15, s_X1_find_16, s_X1_find_19, s_X1_find_20, s_X1_find_21, s_X1_find_22, s_X1_find_25, s_X1_find_28, s_X1_find_29, s_X1_find_32, s_X1_find_33, s_X1_find_34, s_X1_find_35, s_X1_find_38, s_X1_find_39, s_X1_find_40, s_X1_find_41, s_X1_find_44, s_X1_find_45, s_X1_find_48, s_X1_find_49, s_X1_find_52, s_X1_find_53, s_X1_find_54, s_X1_find_55, s_X1_find_58, s_X1_find_59, s_X1_find_62, s_X1_find_65, s_X1_find_66, s_X1_find_67, s_X1_find_70, s_X1_find_71, s_X1_find_74, s_X1_find_75, s_X1_find_78, s_X1_find_81, s_X1_find_82, s_X1_find_86, s_X1_find_87, s_X1_find_90, s_X1_find_93, s_X1_find_94, s_X1_find_97, s_X1_find_98, s_X1_find_101, s_X1_find_104, s_X1_find_107, s_X1_find_108, s_X1_find_109, s_X1_find_110, s_X1_find_113, s_X1_find_116]
    refine ⟨rfl, ?_⟩
    have lp : ∀ rem i c5, i + rem = n → 1 ≤ i → frm [32, 33] c3 c5 → c5 32 = gobj 4 32 (nI v) (nI m) (nI (i - 1)) → isI c5 33 7 zrB → rU (rRo LL xs) (d + 17) tb_X1_find R 84 [.ref 31, .ref 1, .int (nI t), .int (nI (v * 100 + n * 10 + m)), .int (nI i)] [] (tab c5) := by
      intro rem
      induction rem with
      | zero =>
        intro i c5 hi h1 f5 e32 e33
        have : i = n := by omega
        subst this
        have g31 := (f5 31 rfl).trans e31
        have F5 : frm [31, 32, 33, 35, 37] c c5 := (F3.mono rfl).trans (f5.mono rfl)
        rw [s_X1_find_84]
        simp only [s_X1_find_0, s_X1_find_1, s_X1_find_4, s_X1_find_6, s_X1_find_7, s_X1_find_8, s_X1_find_11, s_X1_find_13, s_X1_find_14, s_X1_find_15, s_X1_find_16, s_X1_find_19, s_X1_find_20, s_X1_find_21, s_X1_find_22, s_X1_find_25, s_X1_find_28, s_X1_find_29, s_X1_find_32, s_X1_find_33, s_X1_find_34, s_X1_find_35, s_X1_find_38, s_X1_find_39, s_X1_find_40, s_X1_find_41, s_X1_find_44, s_X1_find_45, s_X1_find_48, s_X1_find_49, s_X1_find_52, s_X1_find_53, s_X1_find_54, s_X1_find_55, s_X1_find_58, s_X1_find_59, s_X1_find_62, s_X1_find_65, s_X1_find_66, s_X1_find_67, s_X1_find_70, s_X1_find_71, s_X1_find_74, s_X1_find_75, s_X1_find_78, s_X1_find_81, s_X1_find_82, s_X1_find_86, s_X1_find_87, s_X1_find_90, s_X1_find_93, s_X1_find_94, s_X1_find_97, s_X1_find_98, s_X1_find_101, s_X1_find_104, s_X1_find_107, s_X1_find_108, s_X1_find_109, s_X1_find_110, s_X1_find_113, s_X1_find_116, gt0 ((F5 1 rfl).trans htt) (show 1 < 70 by decide), gc5 g31]
        refine ⟨fun _ => ?_, fun hc => absurd ((sI_le (by omega) (by omega)).mpr (Nat.le_refl _)) hc⟩
        rw [show d + 17 = (d + 5 - (m - 1)) + 12 + (m - 1) by omega]
        refine sp_X9_spread (rw0 := rw) (gp0 := vp_updL gp t (- lN 1)) ht hm hv (show i - 1 ≤ 6 by omega) (m - 1) _ 1 t [] none c5 _ (by omega) (by omega) rfl (by simp [smF]) ⟨rf, rw, vp_updL gp t (- lN 1), g31, e32, e33, hg2.fr F5 rfl, hrf.fr F5 rfl, hr8, fun j h1 h2 => by omega, h36.fr F5 rfl, i37.fr f5 rfl, updL_self, fun _ _ => rfl, fun _ _ _ _ => rfl⟩ fun c6 f6 hS => ?_
        rw [show (d + 5 - (m - 1)) + 12 + (m - 1) = d + 17 by omega]
        simp only [Option.toList_some, Option.toList_none, List.cons_append, List.nil_append, Option.toList, s_X1_find_0, s_X1_find_1, s_X1_find_4, s_X1_find_6, s_X1_find_7, s_X1_find_8, s_X1_find_11, s_X1_find_13, s_X1_find_14, s_X1_find_15, s_X1_find_16, s_X1_find_19, s_X1_find_20, s_X1_find_21, s_X1_find_22, s_X1_find_25, s_X1_find_28, s_X1_find_29, s_X1_find_32, s_X1_find_33, s_X1_find_34, s_X1_find_35, s_X1_find_38, s_X1_find_39, s_X1_find_40, s_X1_find_41, s_X1_find_44, s_X1_find_45, s_X1_find_48, s_X1_find_49, s_X1_find_52, s_X1_find_53, s_X1_find_54, s_X1_find_55, s_X1_find_58, s_X1_find_59, s_X1_find_62, s_X1_find_65, s_X1_find_66, s_X1_find_67, s_X1_find_70, s_X1_find_71, s_X1_find_74, s_X1_find_75, s_X1_find_78, s_X1_find_81, s_X1_find_82, s_X1_find_86, s_X1_find_87, s_X1_find_90, s_X1_find_93, s_X1_find_94, s_X1_find_97, s_X1_find_98, s_X1_find_101, s_X1_find_104, s_X1_find_107, s_X1_find_108, s_X1_find_109, s_X1_find_110, s_X1_find_113, s_X1_find_116]
        obtain ⟨rf6, rw6, gp6, a1, a2, a3, a4, a5, a6, a7, a8, a9, aB, q1, q2⟩ := hS
        have hid : (cmp (m - 1 + 1) t).map (([] : List Nat) ++ ·) = cmp m t := by rw [show m - 1 + 1 = m by omega]; simp
        have hbest : amL (fun l => gpF (fll l) v m (i - 1) zrB) none ((cmp (m - 1 + 1) t).map (([] : List Nat) ++ ·)) = some (rsL v i m t) := by
          rw [hid]
          exact rsL_amL (cmp_nn hm ht)
        rw [hbest] at aB
        obtain ⟨aB1, aB2, aB3⟩ := aB
        have F6 : frm [31, 32, 33, 34, 35, 36, 37, 38] c c6 := (F5.mono rfl).trans (f6.mono rfl)
        have i35' : isI c6 35 9 (upd ky t (nI (v * 100 + i * 10 + m))) := ((i35.fr f3 rfl).fr f5 rfl).fr f6 rfl
        have hCA : gCA c6 := by
          refine ⟨⟨_, a1⟩, ⟨⟨_, _, _, a2⟩, a3.ty, a4⟩, ⟨rf6, a5, a6⟩, _, rw6, gp6, i35', a8, a9, fun u hu1 hu2 => ?_⟩
          by_cases e : u = t
          · subst e
            exact Or.inr ⟨v, i, m, hv, hn, hm, upd_self, fun x h1 h2 => aB3 x h1 h2, aB1⟩
          · rw [upd_ne e]
            rcases hcm u hu1 hu2 with h0 | ⟨v', n', m', hv', hn', hm', hky, hrw, hgp⟩
            · exact Or.inl h0
            · refine Or.inr ⟨v', n', m', hv', hn', hm', hky, fun x h1 h2 => ?_, ?_⟩
              · rw [q2 u x e (by omega)]; exact hrw x h1 h2
              · rw [q1 u e, updL_ne e]; exact hgp
        exact hk c6 rw6 gp6 _ F6 (hC.ca F6 hCA) a1 a8 a9 (fun x h1 h2 => aB3 x h1 h2) aB1
      | succ rem ih =>
        intro i c5 hi h1 f5 e32 e33
        have g31 := (f5 31 rfl).trans e31
        have F5 : frm [31, 32, 33, 35, 37] c c5 := (F3.mono rfl).trans (f5.mono rfl)
        rw [s_X1_find_84]
        simp only [s_X1_find_0, s_X1_find_1, s_X1_find_4, s_X1_find_6, s_X1_find_7, s_X1_find_8, s_X1_find_11, s_X1_find_13, s_X1_find_14, s_X1_find_15, s_X1_find_16, s_X1_find_19, s_X1_find_20, s_X1_find_21, s_X1_find_22, s_X1_find_25, s_X1_find_28, s_X1_find_29, s_X1_find_32, s_X1_find_33, s_X1_find_34, s_X1_find_35, s_X1_find_38, s_X1_find_39, s_X1_find_40, s_X1_find_41, s_X1_find_44, s_X1_find_45, s_X1_find_48, s_X1_find_49, s_X1_find_52, s_X1_find_53, s_X1_find_54, s_X1_find_55, s_X1_find_58, s_X1_find_59, s_X1_find_62, s_X1_find_65, s_X1_find_66, s_X1_find_67, s_X1_find_70, s_X1_find_71, s_X1_find_74, s_X1_find_75, s_X1_find_78, s_X1_find_81, s_X1_find_82, s_X1_find_86, s_X1_find_87, s_X1_find_90, s_X1_find_93, s_X1_find_94, s_X1_find_97, s_X1_find_98, s_X1_find_101, s_X1_find_104, s_X1_find_107, s_X1_find_108, s_X1_find_109, s_X1_find_110, s_X1_find_113, s_X1_find_116, gt0 ((F5 1 rfl).trans htt) (show 1 < 70 by decide), gc0 g31, vg4 e32 (show 32 < 70 by decide), sI_le (show n < 100000 by omega) (show i < 100000 by omega)]
        refine ⟨fun hc => absurd hc (by omega), fun _ => sp_X7_join e32 (Or.inl rfl) (by decide) e33 hm.2 (Nat.zero_le _) fun c6 f6 g32 g33 => ?_⟩
        rw [if_pos rfl] at g32 g33
        simp only [Option.toList_some, Option.toList_none, List.cons_append, List.nil_append, Option.toList, s_X1_find_0, s_X1_find_1, s_X1_find_4, s_X1_find_6, s_X1_find_7, s_X1_find_8, s_X1_find_11, s_X1_find_13, s_X1_find_14, s_X1_find_15, s_X1_find_16, s_X1_find_19, s_X1_find_20, s_X1_find_21, s_X1_find_22, s_X1_find_25, s_X1_find_28, s_X1_find_29, s_X1_find_32, s_X1_find_33, s_X1_find_34, s_X1_find_35, s_X1_find_38, s_X1_find_39, s_X1_find_40, s_X1_find_41, s_X1_find_44, s_X1_find_45, s_X1_find_48, s_X1_find_49, s_X1_find_52, s_X1_find_53, s_X1_find_54, s_X1_find_55, s_X1_find_58, s_X1_find_59, s_X1_find_62, s_X1_find_65, s_X1_find_66, s_X1_find_67, s_X1_find_70, s_X1_find_71, s_X1_find_74, s_X1_find_75, s_X1_find_78, s_X1_find_81, s_X1_find_82, s_X1_find_86, s_X1_find_87, s_X1_find_90, s_X1_find_93, s_X1_find_94, s_X1_find_97, s_X1_find_98, s_X1_find_101, s_X1_find_104, s_X1_find_107, s_X1_find_108, s_X1_find_109, s_X1_find_110, s_X1_find_113, s_X1_find_116, nI_add]
        refine ⟨rfl, ih (i + 1) c6 (by omega) (by omega) (f5.trans f6) ?_ g33⟩
        rw [g32, show i - 1 + 1 = i + 1 - 1 by omega]
    exact lp (n - 1) 1 c4 (by omega) (by omega) f4 e32 e33
theorem cl_rest (hV : VS (n, m, v, w, fo, si, st)) (hC : CS c (n, m, v, w, fo, si, st) sg pd im) (hk : ∀ c', frm CM c c' → CS c' (n, m, v, w, fo, si, st) sg pd im → R (some (.int (rstA (n, m, v, w, fo, si, st) x y))) (tab c')) : rM (rRo LL xs) (d + 19) 57 0 0 [.ref 0, .int x, .int y] (tab c) R := by
  have h0 := hC.1.1
  have htt := hC.2.1.1
  have hm := hV.2.1
  obtain ⟨⟨s, h31⟩, -⟩ := id hC.2.2.2.2.2.2.2.1
  have h31 : c 31 = cob s := h31
  rw [en_X9_rest]
  simp only [s_X9_rest_0, s_X9_rest_1, s_X9_rest_4, s_X9_rest_5, s_X9_rest_8, s_X9_rest_11, s_X9_rest_12, s_X9_rest_13, s_X9_rest_14, s_X9_rest_17, s_X9_rest_20, s_X9_rest_22, s_X9_rest_23, s_X9_rest_24, s_X9_rest_27, s_X9_rest_28, s_X9_rest_31, s_X9_rest_32, s_X9_rest_35, s_X9_rest_36, s_X9_rest_39, s_X9_rest_40, s_X9_rest_41, s_X9_rest_44, gl0 h0, vt_o htt (show 1 < 70 by decide)]
  refine sp_X6_hasNumber htt (by decide) ?_
  simp only [Option.toList_some, Option.toList_none, List.cons_append, List.nil_append, Option.toList, s_X9_rest_0, s_X9_rest_1, s_X9_rest_4, s_X9_rest_5, s_X9_rest_8, s_X9_rest_11, s_X9_rest_12, s_X9_rest_13, s_X9_rest_14, s_X9_rest_17, s_X9_rest_20, s_X9_rest_22, s_X9_rest_23, s_X9_rest_24, s_X9_rest_27, s_X9_rest_28, s_X9_rest_31, s_X9_rest_32, s_X9_rest_35, s_X9_rest_36, s_X9_rest_39, s_X9_rest_40, s_X9_rest_41, s_X9_rest_44, b2_0]
  refine ⟨fun hy => ?_, fun hy => sp_X9_isSum ?_⟩
  · have := hk c frm.rf hC
    rw [rstA, if_neg hy] at this
    exact this
  have hy := Decidable.not_not.mp hy
  simp only [Option.toList_some, Option.toList_none, List.cons_append, List.nil_append, Option.toList, s_X9_rest_0, s_X9_rest_1, s_X9_rest_4, s_X9_rest_5, s_X9_rest_8, s_X9_rest_11, s_X9_rest_12, s_X9_rest_13, s_X9_rest_14, s_X9_rest_17, s_X9_rest_20, s_X9_rest_22, s_X9_rest_23, s_X9_rest_24, s_X9_rest_27, s_X9_rest_28, s_X9_rest_31, s_X9_rest_32, s_X9_rest_35, s_X9_rest_36, s_X9_rest_39, s_X9_rest_40, s_X9_rest_41, s_X9_rest_44, b2_0, gl8 h0, gl0 h0, vca h31]
  refine ⟨fun hx => ?_, fun hx => ?_⟩
  · have := hk c frm.rf hC
    rw [rstA, if_pos hy, if_neg hx] at this
    exact this
  have hx := Decidable.not_not.mp hx
  obtain ⟨a, ha1, ha2, rfl⟩ := inR_nI hx (by decide) (by decide)
  obtain ⟨b, hb1, hb2, rfl⟩ := inR_nI hy (by decide) (by omega)
  refine sp_X1_find hV hC ⟨ha1, ha2⟩ fun c1 rw gp s1 f1 hC1 e31 e36 e37 hrw hgp => ?_
  have := hk c1 (f1.mono rfl) hC1
  rw [rstA, if_pos hy, if_pos hx, nI_c (by omega), nI_c (by omega)] at this
  simp only [Option.toList_some, Option.toList_none, List.cons_append, List.nil_append, Option.toList, s_X9_rest_0, s_X9_rest_1, s_X9_rest_4, s_X9_rest_5, s_X9_rest_8, s_X9_rest_11, s_X9_rest_12, s_X9_rest_13, s_X9_rest_14, s_X9_rest_17, s_X9_rest_20, s_X9_rest_22, s_X9_rest_23, s_X9_rest_24, s_X9_rest_27, s_X9_rest_28, s_X9_rest_31, s_X9_rest_32, s_X9_rest_35, s_X9_rest_36, s_X9_rest_39, s_X9_rest_40, s_X9_rest_41, s_X9_rest_44, gl8 hC1.1.1, vca e31]
  rw [en_X1_weightOf]
  simp only [s_X1_weightOf_0, s_X1_weightOf_1, s_X1_weightOf_4, s_X1_weightOf_7, s_X1_weightOf_8, s_X1_weightOf_9, s_X1_weightOf_12, s_X1_weightOf_13, s_X1_weightOf_15, s_X1_weightOf_18, s_X1_weightOf_19, s_X1_weightOf_20, s_X1_weightOf_21, s_X1_weightOf_24, s_X1_weightOf_25, s_X1_weightOf_27, s_X1_weightOf_28, s_X1_weightOf_29, s_X1_weightOf_30, s_X1_weightOf_31]
  refine sp_X9_isSum ?_
  simp only [Option.toList_some, Option.toList_none, List.cons_append, List.nil_append, Option.toList, s_X1_weightOf_0, s_X1_weightOf_1, s_X1_weightOf_4, s_X1_weightOf_7, s_X1_weightOf_8, s_X1_weightOf_9, s_X1_weightOf_12, s_X1_weightOf_13, s_X1_weightOf_15, s_X1_weightOf_18, s_X1_weightOf_19, s_X1_weightOf_20, s_X1_weightOf_21, s_X1_weightOf_24, s_X1_weightOf_25, s_X1_weightOf_27, s_X1_weightOf_28, s_X1_weightOf_29, s_X1_weightOf_30, s_X1_weightOf_31, b2_0, gc2 e31, nI_mul, nI_add, sI_lt (show b < 100000 by omega) (show 1 < 100000 by decide), sI_le (show b < 100000 by omega) (show 6 < 100000 by decide), ai_i e36 (show 36 < 70 by decide) (show a * 7 + b < 63 by omega) (by decide)]
  refine ⟨fun q => absurd hx q, fun _ => ⟨fun q => absurd q (by omega), fun _ => ⟨fun _ => ?_, fun q => absurd (by omega) q⟩⟩⟩
  simp only [Option.toList_some, Option.toList_none, List.cons_append, List.nil_append, Option.toList, s_X9_rest_0, s_X9_rest_1, s_X9_rest_4, s_X9_rest_5, s_X9_rest_8, s_X9_rest_11, s_X9_rest_12, s_X9_rest_13, s_X9_rest_14, s_X9_rest_17, s_X9_rest_20, s_X9_rest_22, s_X9_rest_23, s_X9_rest_24, s_X9_rest_27, s_X9_rest_28, s_X9_rest_31, s_X9_rest_32, s_X9_rest_35, s_X9_rest_36, s_X9_rest_39, s_X9_rest_40, s_X9_rest_41, s_X9_rest_44]
  rw [hrw b hb1 hb2]
  exact this
theorem cl_gap (hV : VS (n, m, v, w, fo, si, st)) (hC : CS c (n, m, v, w, fo, si, st) sg pd im) (hk : ∀ c', frm CM c c' → CS c' (n, m, v, w, fo, si, st) sg pd im → R (some (.long (gapA (n, m, v, w, fo, si, st) x y))) (tab c')) : rM (rRo LL xs) (d + 19) 58 0 0 [.ref 0, .int x, .int y] (tab c) R := by
  have h0 := hC.1.1
  have hm := hV.2.1
  have hn := hV.1
  obtain ⟨⟨s, h31⟩, -⟩ := id hC.2.2.2.2.2.2.2.1
  have h31 : c 31 = cob s := h31
  have no : ¬ (inR 1 8 x ∧ inR 0 1 y) → R (some (.long L2)) (tab c) := fun q => by
    have := hk c frm.rf hC
    rw [gapA, if_neg q] at this
    exact this
  rw [en_X9_gap]
  simp only [s_X9_gap_0, s_X9_gap_1, s_X9_gap_4, s_X9_gap_7, s_X9_gap_8, s_X9_gap_11, s_X9_gap_14, s_X9_gap_17, s_X9_gap_18, s_X9_gap_19, s_X9_gap_22, s_X9_gap_23, s_X9_gap_26, s_X9_gap_27, s_X9_gap_30, s_X9_gap_31, s_X9_gap_34, s_X9_gap_37, s_X9_gap_38, s_X9_gap_39, s_X9_gap_40, s_X9_gap_41, s_X9_gap_42, s_X9_gap_45, s_X9_gap_48, s_X9_gap_51, s_X9_gap_52, s_X9_gap_55, s_X9_gap_58, s_X9_gap_59, s_X9_gap_60, s_X9_gap_61, s_X9_gap_64]
  refine sp_X9_isSum ?_
  simp only [Option.toList_some, Option.toList_none, List.cons_append, List.nil_append, Option.toList, s_X9_gap_0, s_X9_gap_1, s_X9_gap_4, s_X9_gap_7, s_X9_gap_8, s_X9_gap_11, s_X9_gap_14, s_X9_gap_17, s_X9_gap_18, s_X9_gap_19, s_X9_gap_22, s_X9_gap_23, s_X9_gap_26, s_X9_gap_27, s_X9_gap_30, s_X9_gap_31, s_X9_gap_34, s_X9_gap_37, s_X9_gap_38, s_X9_gap_39, s_X9_gap_40, s_X9_gap_41, s_X9_gap_42, s_X9_gap_45, s_X9_gap_48, s_X9_gap_51, s_X9_gap_52, s_X9_gap_55, s_X9_gap_58, s_X9_gap_59, s_X9_gap_60, s_X9_gap_61, s_X9_gap_64, b2_0]
  refine ⟨fun hx => no (fun q => hx q.1), fun hx => sp_X9_isBit ?_⟩
  have hx := Decidable.not_not.mp hx
  simp only [Option.toList_some, Option.toList_none, List.cons_append, List.nil_append, Option.toList, s_X9_gap_0, s_X9_gap_1, s_X9_gap_4, s_X9_gap_7, s_X9_gap_8, s_X9_gap_11, s_X9_gap_14, s_X9_gap_17, s_X9_gap_18, s_X9_gap_19, s_X9_gap_22, s_X9_gap_23, s_X9_gap_26, s_X9_gap_27, s_X9_gap_30, s_X9_gap_31, s_X9_gap_34, s_X9_gap_37, s_X9_gap_38, s_X9_gap_39, s_X9_gap_40, s_X9_gap_41, s_X9_gap_42, s_X9_gap_45, s_X9_gap_48, s_X9_gap_51, s_X9_gap_52, s_X9_gap_55, s_X9_gap_58, s_X9_gap_59, s_X9_gap_60, s_X9_gap_61, s_X9_gap_64, b2_0, gl8 h0, gl0 h0, vca h31]
  refine ⟨fun hy => no (fun q => hy q.2), fun hy => ?_⟩
  have hy := Decidable.not_not.mp hy
  obtain ⟨a, ha1, ha2, rfl⟩ := inR_nI hx (by decide) (by decide)
  refine sp_X1_find hV hC ⟨ha1, ha2⟩ fun c1 rw gp s1 f1 hC1 e31 e36 e37 hrw hgp => ?_
  have hw := hk c1 (f1.mono rfl) hC1
  rw [gapA, if_pos ⟨hx, hy⟩, nI_c (by omega)] at hw
  have htt1 := hC1.2.1.1
  simp only [Option.toList_some, Option.toList_none, List.cons_append, List.nil_append, Option.toList, s_X9_gap_0, s_X9_gap_1, s_X9_gap_4, s_X9_gap_7, s_X9_gap_8, s_X9_gap_11, s_X9_gap_14, s_X9_gap_17, s_X9_gap_18, s_X9_gap_19, s_X9_gap_22, s_X9_gap_23, s_X9_gap_26, s_X9_gap_27, s_X9_gap_30, s_X9_gap_31, s_X9_gap_34, s_X9_gap_37, s_X9_gap_38, s_X9_gap_39, s_X9_gap_40, s_X9_gap_41, s_X9_gap_42, s_X9_gap_45, s_X9_gap_48, s_X9_gap_51, s_X9_gap_52, s_X9_gap_55, s_X9_gap_58, s_X9_gap_59, s_X9_gap_60, s_X9_gap_61, s_X9_gap_64, gl8 hC1.1.1, gl0 hC1.1.1, gc3 e31, al_i e37 (show 37 < 70 by decide) (show a < 9 by omega) (by decide), gt0 htt1 (show 1 < 70 by decide), nI_l (show a < 2 ^ 31 by omega)]
  refine sp_X9_power (by omega) ?_
  simp only [Option.toList_some, Option.toList_none, List.cons_append, List.nil_append, Option.toList, s_X9_gap_0, s_X9_gap_1, s_X9_gap_4, s_X9_gap_7, s_X9_gap_8, s_X9_gap_11, s_X9_gap_14, s_X9_gap_17, s_X9_gap_18, s_X9_gap_19, s_X9_gap_22, s_X9_gap_23, s_X9_gap_26, s_X9_gap_27, s_X9_gap_30, s_X9_gap_31, s_X9_gap_34, s_X9_gap_37, s_X9_gap_38, s_X9_gap_39, s_X9_gap_40, s_X9_gap_41, s_X9_gap_42, s_X9_gap_45, s_X9_gap_48, s_X9_gap_51, s_X9_gap_52, s_X9_gap_55, s_X9_gap_58, s_X9_gap_59, s_X9_gap_60, s_X9_gap_61, s_X9_gap_64, gl0 hC1.1.1, vt_o htt1 (show 1 < 70 by decide), pwL_lN]
  refine sp_X6_shares htt1 (by decide) hV.2.2.1 ?_
  have htm := tm_le v
  simp only [Option.toList_some, Option.toList_none, List.cons_append, List.nil_append, Option.toList, s_X9_gap_0, s_X9_gap_1, s_X9_gap_4, s_X9_gap_7, s_X9_gap_8, s_X9_gap_11, s_X9_gap_14, s_X9_gap_17, s_X9_gap_18, s_X9_gap_19, s_X9_gap_22, s_X9_gap_23, s_X9_gap_26, s_X9_gap_27, s_X9_gap_30, s_X9_gap_31, s_X9_gap_34, s_X9_gap_37, s_X9_gap_38, s_X9_gap_39, s_X9_gap_40, s_X9_gap_41, s_X9_gap_42, s_X9_gap_45, s_X9_gap_48, s_X9_gap_51, s_X9_gap_52, s_X9_gap_55, s_X9_gap_58, s_X9_gap_59, s_X9_gap_60, s_X9_gap_61, s_X9_gap_64, nI_l (show tmF v < 2 ^ 31 by omega), lN_mul, hgp]
  refine sp_X9_lowest (by have := rsH_lt (v := v) (n := n) hm ⟨ha1, ha2⟩ hn.2; omega) (low_lt (by omega) (by omega) htm.2) (low_pos ha1 htm.1) ?_
  simp only [Option.toList_some, Option.toList_none, List.cons_append, List.nil_append, Option.toList, s_X9_gap_0, s_X9_gap_1, s_X9_gap_4, s_X9_gap_7, s_X9_gap_8, s_X9_gap_11, s_X9_gap_14, s_X9_gap_17, s_X9_gap_18, s_X9_gap_19, s_X9_gap_22, s_X9_gap_23, s_X9_gap_26, s_X9_gap_27, s_X9_gap_30, s_X9_gap_31, s_X9_gap_34, s_X9_gap_37, s_X9_gap_38, s_X9_gap_39, s_X9_gap_40, s_X9_gap_41, s_X9_gap_42, s_X9_gap_45, s_X9_gap_48, s_X9_gap_51, s_X9_gap_52, s_X9_gap_55, s_X9_gap_58, s_X9_gap_59, s_X9_gap_60, s_X9_gap_61, s_X9_gap_64]
  exact hw
end CC
