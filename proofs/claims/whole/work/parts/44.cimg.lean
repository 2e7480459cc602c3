/-! ===== the class: images ===== -/
def imgI (im : Nat → Option TS) (T : TS) (x : Int32) : Nat → Option TS := if inR 0 1 x then (fun k => if k = x.toNatClampNeg then some T else im k) else im
def imgA (x : Int32) : Int32 := if inR 0 1 x then nI 1 else - nI 2
def resT (T : TS) (im : Nat → Option TS) (x : Int32) : TS := if inR 0 1 x then (im x.toNatClampNeg).getD T else T
def resA (im : Nat → Option TS) (x : Int32) : Int32 := if inR 0 1 x then (if (im x.toNatClampNeg).isSome = true then nI 1 else - nI 3) else - nI 2
section CE
variable {ro : rQ} {LL : Nat} {xs : Nat → Int32} {d : Nat} {R : rR} {c : Nat → rE} {h : rH} {n m v si sg k t q l f : Nat} {w fo s : Nat → Nat} {st pd b : Nat → Int32} {im : Nat → Option TS} {x y z : Int32}
theorem cp_i {r1 r2 N : Nat} {val : Nat → Int32} {K : rH → Prop} (h1 : isI c r1 N val) (h2 : tyI c r2 N) (hr1 : r1 < 70) (hr2 : r2 < 70) (hN : N < 100000) (kk : ∀ c', frm [r2] c c' → isI c' r2 N val → K (tab c')) : rCp (tab c) r1 (nI 0) r2 (nI 0) (nI N) K := by
  obtain ⟨g1, e1, v1⟩ := h1
  obtain ⟨g2, e2⟩ := h2
  unfold rCp
  rw [tab_get hr1, e1, tab_get hr2, e2]
  refine ⟨⟨by decide, by decide, by rw [sI_lt0 hN]; exact id, by rw [nI_c (by decide), nI_c hN]; omega, by rw [nI_c (by decide), nI_c hN]; omega⟩, ?_⟩
  rw [tab_set]
  refine kk _ (frm.rf.fup (by simp)) (isI_fup (fun j hj => ?_))
  unfold va_cpy
  rw [nI_c (by decide), nI_c hN, if_pos ⟨by omega, by omega⟩, show 0 + (j - 0) = j by omega]
  exact v1 j hj
theorem sp_X6_copy {T T0 : TS} (hp : (t = 1 ∧ (f = 8 ∨ f = 14)) ∨ (f = 1 ∧ (t = 8 ∨ t = 14))) (hF : TBL c f T) (hT : TBL c t T0) (hk : ∀ c', frm [t, t + 1, t + 2, t + 3, t + 4, t + 5] c c' → TBL c' t T → R none (tab c')) : rM ro (d + 1) 32 0 0 [.ref t, .ref f] (tab c) R := by
  obtain ⟨n, m, v, w, fo, si, st⟩ := T
  obtain ⟨n0, m0, v0, w0, fo0, si0, st0⟩ := T0
  obtain ⟨a0, a1, a2, a3, a4, a5⟩ := hF
  obtain ⟨b0, b1, b2, b3, b4, b5⟩ := hT
  have ht : t + 5 < 70 := by omega
  have hf : f + 5 < 70 := by omega
  have hd : t + 5 < f ∨ f + 5 < t := by omega
  have cc : ∀ j, t ≤ j → j ≤ t + 5 → ([t, t + 1, t + 2, t + 3, t + 4, t + 5] : List Nat).contains j = true := fun j h1 h2 => by
    rcases (show j = t ∨ j = t + 1 ∨ j = t + 2 ∨ j = t + 3 ∨ j = t + 4 ∨ j = t + 5 by omega) with rfl | rfl | rfl | rfl | rfl | rfl <;> simp
  have m1 : ∀ j, t ≤ j → j ≤ t + 5 → ([j] : List Nat).all (fun j => ([t, t + 1, t + 2, t + 3, t + 4, t + 5] : List Nat).contains j) = true := fun j h1 h2 => by
    rw [List.all_cons, cc j h1 h2]; rfl
  have ne1 : ∀ i j : Nat, j ≠ i → ([i] : List Nat).contains j = false := fun i j h => by simp [h]
  rw [en_X6_copy]
  simp only [s_X6_copy_0, s_X6_copy_1, s_X6_copy_2, s_X6_copy_5, s_X6_copy_9, s_X6_copy_10, s_X6_copy_13, s_X6_copy_16, s_X6_copy_17, s_X6_copy_18, s_X6_copy_21, s_X6_copy_24, s_X6_copy_25, s_X6_copy_26, s_X6_copy_29, s_X6_copy_32, s_X6_copy_33, s_X6_copy_36, s_X6_copy_37, s_X6_copy_38, s_X6_copy_41, s_X6_copy_42, s_X6_copy_44, s_X6_copy_47, s_X6_copy_48, s_X6_copy_51, s_X6_copy_52, s_X6_copy_53, s_X6_copy_56, s_X6_copy_57, s_X6_copy_59, s_X6_copy_62, s_X6_copy_63, s_X6_copy_66, s_X6_copy_67, s_X6_copy_68, s_X6_copy_71, s_X6_copy_72, s_X6_copy_74, s_X6_copy_77, s_X6_copy_78, s_X6_copy_81, s_X6_copy_82, s_X6_copy_83, s_X6_copy_86, s_X6_copy_87, s_X6_copy_89, s_X6_copy_92, s_X6_copy_93, s_X6_copy_96, s_X6_copy_97, s_X6_copy_98, s_X6_copy_101, s_X6_copy_102, s_X6_copy_104, s_X6_copy_107, gt0 a0 (show f < 70 by omega), pt0 b0 (show t < 70 by omega)]
  obtain ⟨c1, hc1⟩ : ∃ c1, c1 = fup c t (tobj t (nI n) (nI m0) (nI v0) (nI si0)) := ⟨_, rfl⟩
  rw [← hc1]
  have f1 : frm [t] c c1 := by rw [hc1]; exact frm.rf.fup (by simp)
  have b01 : c1 t = tobj t (nI n) (nI m0) (nI v0) (nI si0) := by rw [hc1]; exact fup_self
  have a01 := (f1 f (ne1 _ _ (by omega))).trans a0
  simp only [s_X6_copy_0, s_X6_copy_1, s_X6_copy_2, s_X6_copy_5, s_X6_copy_8, s_X6_copy_9, s_X6_copy_10, s_X6_copy_13, s_X6_copy_17, s_X6_copy_18, s_X6_copy_21, s_X6_copy_24, s_X6_copy_25, s_X6_copy_26, s_X6_copy_29, s_X6_copy_32, s_X6_copy_33, s_X6_copy_36, s_X6_copy_37, s_X6_copy_38, s_X6_copy_41, s_X6_copy_42, s_X6_copy_44, s_X6_copy_47, s_X6_copy_48, s_X6_copy_51, s_X6_copy_52, s_X6_copy_53, s_X6_copy_56, s_X6_copy_57, s_X6_copy_59, s_X6_copy_62, s_X6_copy_63, s_X6_copy_66, s_X6_copy_67, s_X6_copy_68, s_X6_copy_71, s_X6_copy_72, s_X6_copy_74, s_X6_copy_77, s_X6_copy_78, s_X6_copy_81, s_X6_copy_82, s_X6_copy_83, s_X6_copy_86, s_X6_copy_87, s_X6_copy_89, s_X6_copy_92, s_X6_copy_93, s_X6_copy_96, s_X6_copy_97, s_X6_copy_98, s_X6_copy_101, s_X6_copy_102, s_X6_copy_104, s_X6_copy_107, gt1 a01 (show f < 70 by omega), pt1 b01 (show t < 70 by omega)]
  obtain ⟨c2, hc2⟩ : ∃ c2, c2 = fup c1 t (tobj t (nI n) (nI m) (nI v0) (nI si0)) := ⟨_, rfl⟩
  rw [← hc2]
  have f2 : frm [t] c c2 := by rw [hc2]; exact f1.fup (by simp)
  have b02 : c2 t = tobj t (nI n) (nI m) (nI v0) (nI si0) := by rw [hc2]; exact fup_self
  have a02 := (f2 f (ne1 _ _ (by omega))).trans a0
  simp only [s_X6_copy_0, s_X6_copy_1, s_X6_copy_2, s_X6_copy_5, s_X6_copy_8, s_X6_copy_9, s_X6_copy_10, s_X6_copy_13, s_X6_copy_16, s_X6_copy_17, s_X6_copy_18, s_X6_copy_21, s_X6_copy_25, s_X6_copy_26, s_X6_copy_29, s_X6_copy_32, s_X6_copy_33, s_X6_copy_36, s_X6_copy_37, s_X6_copy_38, s_X6_copy_41, s_X6_copy_42, s_X6_copy_44, s_X6_copy_47, s_X6_copy_48, s_X6_copy_51, s_X6_copy_52, s_X6_copy_53, s_X6_copy_56, s_X6_copy_57, s_X6_copy_59, s_X6_copy_62, s_X6_copy_63, s_X6_copy_66, s_X6_copy_67, s_X6_copy_68, s_X6_copy_71, s_X6_copy_72, s_X6_copy_74, s_X6_copy_77, s_X6_copy_78, s_X6_copy_81, s_X6_copy_82, s_X6_copy_83, s_X6_copy_86, s_X6_copy_87, s_X6_copy_89, s_X6_copy_92, s_X6_copy_93, s_X6_copy_96, s_X6_copy_97, s_X6_copy_98, s_X6_copy_101, s_X6_copy_102, s_X6_copy_104, s_X6_copy_107, gt2 a02 (show f < 70 by omega), pt2 b02 (show t < 70 by omega)]
  obtain ⟨c3, hc3⟩ : ∃ c3, c3 = fup c2 t (tobj t (nI n) (nI m) (nI v) (nI si0)) := ⟨_, rfl⟩
  rw [← hc3]
  have f3 : frm [t] c c3 := by rw [hc3]; exact f2.fup (by simp)
  have b03 : c3 t = tobj t (nI n) (nI m) (nI v) (nI si0) := by rw [hc3]; exact fup_self
  have a03 := (f3 f (ne1 _ _ (by omega))).trans a0
  simp only [s_X6_copy_0, s_X6_copy_1, s_X6_copy_2, s_X6_copy_5, s_X6_copy_8, s_X6_copy_9, s_X6_copy_10, s_X6_copy_13, s_X6_copy_16, s_X6_copy_17, s_X6_copy_18, s_X6_copy_21, s_X6_copy_24, s_X6_copy_25, s_X6_copy_26, s_X6_copy_29, s_X6_copy_33, s_X6_copy_36, s_X6_copy_37, s_X6_copy_38, s_X6_copy_41, s_X6_copy_42, s_X6_copy_44, s_X6_copy_47, s_X6_copy_48, s_X6_copy_51, s_X6_copy_52, s_X6_copy_53, s_X6_copy_56, s_X6_copy_57, s_X6_copy_59, s_X6_copy_62, s_X6_copy_63, s_X6_copy_66, s_X6_copy_67, s_X6_copy_68, s_X6_copy_71, s_X6_copy_72, s_X6_copy_74, s_X6_copy_77, s_X6_copy_78, s_X6_copy_81, s_X6_copy_82, s_X6_copy_83, s_X6_copy_86, s_X6_copy_87, s_X6_copy_89, s_X6_copy_92, s_X6_copy_93, s_X6_copy_96, s_X6_copy_97, s_X6_copy_98, s_X6_copy_101, s_X6_copy_102, s_X6_copy_104, s_X6_copy_107, gt8 a03 (show f < 70 by omega), pt8 b03 (show t < 70 by omega)]
  obtain ⟨c4, hc4⟩ : ∃ c4, c4 = fup c3 t (tobj t (nI n) (nI m) (nI v) (nI si)) := ⟨_, rfl⟩
  rw [← hc4]
  have f4 : frm [t] c c4 := by rw [hc4]; exact f3.fup (by simp)
  have b04 : c4 t = tobj t (nI n) (nI m) (nI v) (nI si) := by rw [hc4]; exact fup_self
  have a04 := (f4 f (ne1 _ _ (by omega))).trans a0
  simp only [s_X6_copy_0, s_X6_copy_1, s_X6_copy_2, s_X6_copy_5, s_X6_copy_8, s_X6_copy_9, s_X6_copy_10, s_X6_copy_13, s_X6_copy_16, s_X6_copy_17, s_X6_copy_18, s_X6_copy_21, s_X6_copy_24, s_X6_copy_25, s_X6_copy_26, s_X6_copy_29, s_X6_copy_32, s_X6_copy_33, s_X6_copy_36, s_X6_copy_37, s_X6_copy_38, s_X6_copy_41, s_X6_copy_42, s_X6_copy_44, s_X6_copy_48, s_X6_copy_51, s_X6_copy_52, s_X6_copy_53, s_X6_copy_56, s_X6_copy_57, s_X6_copy_59, s_X6_copy_62, s_X6_copy_63, s_X6_copy_66, s_X6_copy_67, s_X6_copy_68, s_X6_copy_71, s_X6_copy_72, s_X6_copy_74, s_X6_copy_77, s_X6_copy_78, s_X6_copy_81, s_X6_copy_82, s_X6_copy_83, s_X6_copy_86, s_X6_copy_87, s_X6_copy_89, s_X6_copy_92, s_X6_copy_93, s_X6_copy_96, s_X6_copy_97, s_X6_copy_98, s_X6_copy_101, s_X6_copy_102, s_X6_copy_104, s_X6_copy_107, gt3 a04 (show f < 70 by omega), gt3 b04 (show t < 70 by omega)]
  refine cp_i (a1.fr f4 (ne1 _ _ (by omega))) (b1.ty.fr f4 (ne1 _ _ (by omega))) (by omega) (by omega) (by decide) fun c5 f5 i5 => ?_
  have b05 := (f5 t (ne1 _ _ (by omega))).trans b04
  have a05 := (f5 f (ne1 _ _ (by omega))).trans a04
  simp only [s_X6_copy_0, s_X6_copy_1, s_X6_copy_2, s_X6_copy_5, s_X6_copy_8, s_X6_copy_9, s_X6_copy_10, s_X6_copy_13, s_X6_copy_16, s_X6_copy_17, s_X6_copy_18, s_X6_copy_21, s_X6_copy_24, s_X6_copy_25, s_X6_copy_26, s_X6_copy_29, s_X6_copy_32, s_X6_copy_33, s_X6_copy_36, s_X6_copy_37, s_X6_copy_38, s_X6_copy_41, s_X6_copy_42, s_X6_copy_44, s_X6_copy_47, s_X6_copy_48, s_X6_copy_51, s_X6_copy_52, s_X6_copy_53, s_X6_copy_56, s_X6_copy_57, s_X6_copy_59, s_X6_copy_63, s_X6_copy_66, s_X6_copy_67, s_X6_copy_68, s_X6_copy_71, s_X6_copy_72, s_X6_copy_74, s_X6_copy_77, s_X6_copy_78, s_X6_copy_81, s_X6_copy_82, s_X6_copy_83, s_X6_copy_86, s_X6_copy_87, s_X6_copy_89, s_X6_copy_92, s_X6_copy_93, s_X6_copy_96, s_X6_copy_97, s_X6_copy_98, s_X6_copy_101, s_X6_copy_102, s_X6_copy_104, s_X6_copy_107, gt4 a05 (show f < 70 by omega), gt4 b05 (show t < 70 by omega)]
  refine cp_i ((a2.fr f4 (ne1 _ _ (by omega))).fr f5 (ne1 _ _ (by omega))) ((b2.ty.fr f4 (ne1 _ _ (by omega))).fr f5 (ne1 _ _ (by omega))) (by omega) (by omega) (by decide) fun c6 f6 i6 => ?_
  have b06 := (f6 t (ne1 _ _ (by omega))).trans b05
  have a06 := (f6 f (ne1 _ _ (by omega))).trans a05
  simp only [s_X6_copy_0, s_X6_copy_1, s_X6_copy_2, s_X6_copy_5, s_X6_copy_8, s_X6_copy_9, s_X6_copy_10, s_X6_copy_13, s_X6_copy_16, s_X6_copy_17, s_X6_copy_18, s_X6_copy_21, s_X6_copy_24, s_X6_copy_25, s_X6_copy_26, s_X6_copy_29, s_X6_copy_32, s_X6_copy_33, s_X6_copy_36, s_X6_copy_37, s_X6_copy_38, s_X6_copy_41, s_X6_copy_42, s_X6_copy_44, s_X6_copy_47, s_X6_copy_48, s_X6_copy_51, s_X6_copy_52, s_X6_copy_53, s_X6_copy_56, s_X6_copy_57, s_X6_copy_59, s_X6_copy_62, s_X6_copy_63, s_X6_copy_66, s_X6_copy_67, s_X6_copy_68, s_X6_copy_71, s_X6_copy_72, s_X6_copy_74, s_X6_copy_78, s_X6_copy_81, s_X6_copy_82, s_X6_copy_83, s_X6_copy_86, s_X6_copy_87, s_X6_copy_89, s_X6_copy_92, s_X6_copy_93, s_X6_copy_96, s_X6_copy_97, s_X6_copy_98, s_X6_copy_101, s_X6_copy_102, s_X6_copy_104, s_X6_copy_107, gt5 a06 (show f < 70 by omega), gt5 b06 (show t < 70 by omega)]
  refine cp_i (((a3.fr f4 (ne1 _ _ (by omega))).fr f5 (ne1 _ _ (by omega))).fr f6 (ne1 _ _ (by omega))) (((b3.ty.fr f4 (ne1 _ _ (by omega))).fr f5 (ne1 _ _ (by omega))).fr f6 (ne1 _ _ (by omega))) (by omega) (by omega) (by decide) fun c7 f7 i7 => ?_
  have b07 := (f7 t (ne1 _ _ (by omega))).trans b06
  have a07 := (f7 f (ne1 _ _ (by omega))).trans a06
  simp only [s_X6_copy_0, s_X6_copy_1, s_X6_copy_2, s_X6_copy_5, s_X6_copy_8, s_X6_copy_9, s_X6_copy_10, s_X6_copy_13, s_X6_copy_16, s_X6_copy_17, s_X6_copy_18, s_X6_copy_21, s_X6_copy_24, s_X6_copy_25, s_X6_copy_26, s_X6_copy_29, s_X6_copy_32, s_X6_copy_33, s_X6_copy_36, s_X6_copy_37, s_X6_copy_38, s_X6_copy_41, s_X6_copy_42, s_X6_copy_44, s_X6_copy_47, s_X6_copy_48, s_X6_copy_51, s_X6_copy_52, s_X6_copy_53, s_X6_copy_56, s_X6_copy_57, s_X6_copy_59, s_X6_copy_62, s_X6_copy_63, s_X6_copy_66, s_X6_copy_67, s_X6_copy_68, s_X6_copy_71, s_X6_copy_72, s_X6_copy_74, s_X6_copy_77, s_X6_copy_78, s_X6_copy_81, s_X6_copy_82, s_X6_copy_83, s_X6_copy_86, s_X6_copy_87, s_X6_copy_89, s_X6_copy_93, s_X6_copy_96, s_X6_copy_97, s_X6_copy_98, s_X6_copy_101, s_X6_copy_102, s_X6_copy_104, s_X6_copy_107, gt6 a07 (show f < 70 by omega), gt6 b07 (show t < 70 by omega)]
  refine cp_i ((((a4.fr f4 (ne1 _ _ (by omega))).fr f5 (ne1 _ _ (by omega))).fr f6 (ne1 _ _ (by omega))).fr f7 (ne1 _ _ (by omega))) ((((b4.ty.fr f4 (ne1 _ _ (by omega))).fr f5 (ne1 _ _ (by omega))).fr f6 (ne1 _ _ (by omega))).fr f7 (ne1 _ _ (by omega))) (by omega) (by omega) (by decide) fun c8 f8 i8 => ?_
  have b08 := (f8 t (ne1 _ _ (by omega))).trans b07
  have a08 := (f8 f (ne1 _ _ (by omega))).trans a07
  simp only [s_X6_copy_0, s_X6_copy_1, s_X6_copy_2, s_X6_copy_5, s_X6_copy_8, s_X6_copy_9, s_X6_copy_10, s_X6_copy_13, s_X6_copy_16, s_X6_copy_17, s_X6_copy_18, s_X6_copy_21, s_X6_copy_24, s_X6_copy_25, s_X6_copy_26, s_X6_copy_29, s_X6_copy_32, s_X6_copy_33, s_X6_copy_36, s_X6_copy_37, s_X6_copy_38, s_X6_copy_41, s_X6_copy_42, s_X6_copy_44, s_X6_copy_47, s_X6_copy_48, s_X6_copy_51, s_X6_copy_52, s_X6_copy_53, s_X6_copy_56, s_X6_copy_57, s_X6_copy_59, s_X6_copy_62, s_X6_copy_63, s_X6_copy_66, s_X6_copy_67, s_X6_copy_68, s_X6_copy_71, s_X6_copy_72, s_X6_copy_74, s_X6_copy_77, s_X6_copy_78, s_X6_copy_81, s_X6_copy_82, s_X6_copy_83, s_X6_copy_86, s_X6_copy_87, s_X6_copy_89, s_X6_copy_92, s_X6_copy_93, s_X6_copy_96, s_X6_copy_97, s_X6_copy_98, s_X6_copy_101, s_X6_copy_102, s_X6_copy_104, gt7 a08 (show f < 70 by omega), gt7 b08 (show t < 70 by omega)]
  refine cp_i (((((a5.fr f4 (ne1 _ _ (by omega))).fr f5 (ne1 _ _ (by omega))).fr f6 (ne1 _ _ (by omega))).fr f7 (ne1 _ _ (by omega))).fr f8 (ne1 _ _ (by omega))) (((((b5.ty.fr f4 (ne1 _ _ (by omega))).fr f5 (ne1 _ _ (by omega))).fr f6 (ne1 _ _ (by omega))).fr f7 (ne1 _ _ (by omega))).fr f8 (ne1 _ _ (by omega))) (by omega) (by omega) (by decide) fun c9 f9 i9 => ?_
  rw [s_X6_copy_107]
  refine hk c9 ((f4.mono (m1 _ (by omega) (by omega))).trans ((f5.mono (m1 _ (by omega) (by omega))).trans ((f6.mono (m1 _ (by omega) (by omega))).trans ((f7.mono (m1 _ (by omega) (by omega))).trans ((f8.mono (m1 _ (by omega) (by omega))).trans (f9.mono (m1 _ (by omega) (by omega)))))))) ⟨(f9 t (ne1 _ _ (by omega))).trans b08, ?_, ?_, ?_, ?_, i9⟩
  · exact (((i5.fr f6 (ne1 _ _ (by omega))).fr f7 (ne1 _ _ (by omega))).fr f8 (ne1 _ _ (by omega))).fr f9 (ne1 _ _ (by omega))
  · exact ((i6.fr f7 (ne1 _ _ (by omega))).fr f8 (ne1 _ _ (by omega))).fr f9 (ne1 _ _ (by omega))
  · exact (i7.fr f8 (ne1 _ _ (by omega))).fr f9 (ne1 _ _ (by omega))
  · exact i8.fr f9 (ne1 _ _ (by omega))
theorem aa_o {K : Nat → Prop} (h : c 7 = obj 100 [.ref 8, .ref 14]) (hk : k = 0 ∨ k = 1) : rAa (tab c) 7 (nI k) K ↔ K (8 + 6 * k) := by
  unfold rAa
  rw [tab_get (by decide), h]
  rcases hk with rfl | rfl
  · exact ⟨fun q => q.2, fun q => ⟨vp_n (by decide) (by decide), q⟩⟩
  · exact ⟨fun q => q.2, fun q => ⟨vp_n (by decide) (by decide), q⟩⟩
theorem kpF_sb {T : TS} (hk : k < 2) : ∀ j, j < 2 → upd (kpF im) k (vp_nar .boolean (nI 1)) j = kpF (fun i => if i = k then some T else im i) j := fun j _ => by
  unfold upd kpF
  show (if j = k then vp_nar .boolean (nI 1) else if (im j).isSome then nI 1 else nI 0) = if (if j = k then some T else im j).isSome then nI 1 else nI 0
  by_cases e : j = k
  · rw [if_pos e, if_pos e, if_pos (show (some T).isSome = true from rfl)]; decide
  · rw [if_neg e, if_neg e]
theorem az_i {K : Int32 → Prop} {r N : Nat} {val : Nat → Int32} (h : isZ c r N val) (hr : r < 70) (hx : k < N) (hN : N < 100000) : rAb (tab c) r (nI k) K ↔ K (val k) := by
  obtain ⟨g, h1, h2⟩ := h
  rw [az_o h1 hr, nI_c (by omega), h2 k hx]
  exact ⟨fun q => q.2, fun q => ⟨vp_n hx hN, q⟩⟩
theorem sz_i {K : rH → Prop} {r N : Nat} {val : Nat → Int32} (h : isZ c r N val) (hr : r < 70) (hx : k < N) (hN : N < 100000) (kk : ∀ c', frm [r] c c' → isZ c' r N (upd val k (vp_nar .boolean x)) → K (tab c')) : rSb (tab c) r (nI k) x K := by
  obtain ⟨g, h1, h2⟩ := h
  rw [sz_o h1 hr, nI_c (by omega)]
  refine ⟨vp_n hx hN, kk _ (frm.rf.fup (by simp)) ⟨_, fup_self, fun j hj => ?_⟩⟩
  unfold upd
  rw [h2 j hj]
theorem cl_image {T : TS} (hC : CS c T sg pd im) (hk : ∀ c', frm CM c c' → CS c' T sg pd (imgI im T x) → R (some (.int (imgA x))) (tab c')) : rM ro (d + 2) 71 0 0 [.ref 0, .int x] (tab c) R := by
  have h0 := hC.1.1
  rw [en_X9_image]
  simp only [s_X9_image_0, s_X9_image_1, s_X9_image_4, s_X9_image_7, s_X9_image_9, s_X9_image_10, s_X9_image_11, s_X9_image_14, s_X9_image_15, s_X9_image_16, s_X9_image_17, s_X9_image_20, s_X9_image_23, s_X9_image_24, s_X9_image_27, s_X9_image_28, s_X9_image_29, s_X9_image_30, s_X9_image_31]
  refine sp_X9_isBit ?_
  simp only [Option.toList_some, Option.toList_none, List.cons_append, List.nil_append, Option.toList, s_X9_image_0, s_X9_image_1, s_X9_image_4, s_X9_image_7, s_X9_image_9, s_X9_image_10, s_X9_image_11, s_X9_image_14, s_X9_image_15, s_X9_image_16, s_X9_image_17, s_X9_image_20, s_X9_image_23, s_X9_image_24, s_X9_image_27, s_X9_image_28, s_X9_image_29, s_X9_image_30, s_X9_image_31, b2_0, gl1 h0, gl0 h0]
  refine ⟨fun hx => ?_, fun hx => ?_⟩
  · have := hk c frm.rf (by rw [imgI, if_neg hx]; exact hC)
    rw [imgA, if_neg hx] at this
    exact this
  have hx := Decidable.not_not.mp hx
  rw [imgI, imgA, if_pos hx, if_pos hx] at hk
  obtain ⟨k, h1, h2, rfl⟩ := inR_nI hx (by decide) (by decide)
  rw [nI_c (by omega)] at hk
  have hT := hC.2.1
  obtain ⟨⟨T0, i0, j0⟩, ⟨T1, i1, j1⟩, hz⟩ := hC.2.2.1
  have fin : ∀ c1, frm [8, 9, 10, 11, 12, 13, 14, 15, 16, 17, 18, 19, 20] c c1 → isZ c1 20 2 (kpF im) → (∃ T0, TBL c1 8 T0 ∧ ∀ T', (if 0 = k then some T else im 0) = some T' → T0 = T') → (∃ T1, TBL c1 14 T1 ∧ ∀ T', (if 1 = k then some T else im 1) = some T' → T1 = T') → rU ro (d + 1) tb_X9_image R 23 [.ref 0, .int (nI k)] [] (tab c1) := by
    intro c1 hf1 hz1 g0 g1
    have e0 := (hf1 0 rfl).trans h0
    simp only [s_X9_image_0, s_X9_image_1, s_X9_image_4, s_X9_image_7, s_X9_image_9, s_X9_image_10, s_X9_image_11, s_X9_image_14, s_X9_image_15, s_X9_image_16, s_X9_image_17, s_X9_image_20, s_X9_image_23, s_X9_image_24, s_X9_image_27, s_X9_image_28, s_X9_image_29, s_X9_image_30, s_X9_image_31, gl2 e0]
    refine sz_i hz1 (by decide) (by omega) (by decide) fun c2 hf2 hz2 => ?_
    have hff := hf1.trans (hf2.mono (M' := [8, 9, 10, 11, 12, 13, 14, 15, 16, 17, 18, 19, 20]) rfl)
    obtain ⟨T0, g0, g0'⟩ := g0
    obtain ⟨T1, g1, g1'⟩ := g1
    refine hk c2 (hff.mono rfl) (hC.img hff ⟨⟨T0, g0.fr hf2 rfl, g0'⟩, ⟨T1, g1.fr hf2 rfl, g1'⟩, ?_⟩)
    obtain ⟨g, hg1, hg2⟩ := hz2
    exact ⟨g, hg1, fun j hj => (hg2 j hj).trans (kpF_sb (by omega) j hj)⟩
  rw [aa_o hC.1.2.1 (by omega)]
  rcases (show k = 0 ∨ k = 1 by omega) with rfl | rfl
  · obtain ⟨n0, m0, v0, w0, fo0, si0, st0⟩ := T0
    rw [vt_o i0.1 (by decide)]
    refine sp_X6_copy (Or.inr ⟨rfl, Or.inl rfl⟩) hT i0 fun c1 hf1 hT1 => ?_
    simp only [Option.toList_some, Option.toList_none, List.cons_append, List.nil_append, Option.toList]
    exact fin c1 (hf1.mono rfl) (hz.fr hf1 rfl) ⟨T, hT1, fun T' h => by rw [if_pos rfl] at h; exact Option.some.inj h⟩ ⟨T1, i1.fr hf1 rfl, fun T' h => by rw [if_neg (by decide)] at h; exact j1 T' h⟩
  · obtain ⟨n0, m0, v0, w0, fo0, si0, st0⟩ := T1
    rw [vt_o i1.1 (by decide)]
    refine sp_X6_copy (Or.inr ⟨rfl, Or.inr rfl⟩) hT i1 fun c1 hf1 hT1 => ?_
    simp only [Option.toList_some, Option.toList_none, List.cons_append, List.nil_append, Option.toList]
    exact fin c1 (hf1.mono rfl) (hz.fr hf1 rfl) ⟨T0, i0.fr hf1 rfl, fun T' h => by rw [if_neg (by decide)] at h; exact j0 T' h⟩ ⟨T, hT1, fun T' h => by rw [if_pos rfl] at h; exact Option.some.inj h⟩
theorem cl_restore {T : TS} (hC : CS c T sg pd im) (hk : ∀ c', frm CM c c' → CS c' (resT T im x) sg pd im → R (some (.int (resA im x))) (tab c')) : rM ro (d + 2) 72 0 0 [.ref 0, .int x] (tab c) R := by
  have h0 := hC.1.1
  rw [en_X9_restore]
  simp only [s_X9_restore_0, s_X9_restore_1, s_X9_restore_4, s_X9_restore_7, s_X9_restore_9, s_X9_restore_10, s_X9_restore_11, s_X9_restore_14, s_X9_restore_15, s_X9_restore_16, s_X9_restore_19, s_X9_restore_21, s_X9_restore_22, s_X9_restore_23, s_X9_restore_26, s_X9_restore_27, s_X9_restore_30, s_X9_restore_31, s_X9_restore_32, s_X9_restore_35, s_X9_restore_36]
  refine sp_X9_isBit ?_
  simp only [Option.toList_some, Option.toList_none, List.cons_append, List.nil_append, Option.toList, s_X9_restore_0, s_X9_restore_1, s_X9_restore_4, s_X9_restore_7, s_X9_restore_9, s_X9_restore_10, s_X9_restore_11, s_X9_restore_14, s_X9_restore_15, s_X9_restore_16, s_X9_restore_19, s_X9_restore_21, s_X9_restore_22, s_X9_restore_23, s_X9_restore_26, s_X9_restore_27, s_X9_restore_30, s_X9_restore_31, s_X9_restore_32, s_X9_restore_35, s_X9_restore_36, b2_0, gl1 h0, gl0 h0, gl2 h0]
  refine ⟨fun hx => ?_, fun hx => ?_⟩
  · have := hk c frm.rf (by rw [resT, if_neg hx]; exact hC)
    rw [resA, if_neg hx] at this
    exact this
  have hx := Decidable.not_not.mp hx
  rw [resT, resA, if_pos hx, if_pos hx] at hk
  obtain ⟨k, h1, h2, rfl⟩ := inR_nI hx (by decide) (by decide)
  rw [nI_c (by omega)] at hk
  have hT := hC.2.1
  obtain ⟨⟨T0, i0, j0⟩, ⟨T1, i1, j1⟩, hz⟩ := hC.2.2.1
  simp only [az_i hz (show 20 < 70 by decide) (show k < 2 by omega) (by decide), s_X9_restore_0, s_X9_restore_1, s_X9_restore_4, s_X9_restore_7, s_X9_restore_9, s_X9_restore_10, s_X9_restore_11, s_X9_restore_14, s_X9_restore_15, s_X9_restore_16, s_X9_restore_19, s_X9_restore_21, s_X9_restore_22, s_X9_restore_23, s_X9_restore_26, s_X9_restore_27, s_X9_restore_30, s_X9_restore_31, s_X9_restore_32, s_X9_restore_35, s_X9_restore_36, gl1 h0, gl0 h0]
  rw [aa_o hC.1.2.1 (by omega)]
  unfold kpF
  cases hi : im k with
  | none =>
    rw [hi] at hk
    refine ⟨fun _ => hk c frm.rf hC, fun q => absurd (if_neg (by decide)) q⟩
  | some T' =>
    rw [hi] at hk
    refine ⟨fun q => absurd q (by rw [if_pos (show (some T').isSome = true from rfl)]; decide), fun _ => ?_⟩
    have hk' : ∀ c', frm CM c c' → CS c' T' sg pd im → R (some (.int (nI 1))) (tab c') := hk
    obtain ⟨n0, m0, v0, w0, fo0, si0, st0⟩ := T
    rw [vt_o hT.1 (by decide)]
    rcases (show k = 0 ∨ k = 1 by omega) with rfl | rfl
    · have := j0 T' hi
      subst this
      refine sp_X6_copy (Or.inl ⟨rfl, Or.inl rfl⟩) i0 hT fun c1 hf1 hT1 => ?_
      simp only [Option.toList_some, Option.toList_none, List.cons_append, List.nil_append, Option.toList, s_X9_restore_0, s_X9_restore_1, s_X9_restore_4, s_X9_restore_7, s_X9_restore_9, s_X9_restore_10, s_X9_restore_11, s_X9_restore_14, s_X9_restore_15, s_X9_restore_16, s_X9_restore_19, s_X9_restore_21, s_X9_restore_22, s_X9_restore_23, s_X9_restore_26, s_X9_restore_27, s_X9_restore_30, s_X9_restore_31, s_X9_restore_32, s_X9_restore_35, s_X9_restore_36]
      exact hk' c1 (hf1.mono rfl) (hC.tb hf1 hT1)
    · have := j1 T' hi
      subst this
      refine sp_X6_copy (Or.inl ⟨rfl, Or.inr rfl⟩) i1 hT fun c1 hf1 hT1 => ?_
      simp only [Option.toList_some, Option.toList_none, List.cons_append, List.nil_append, Option.toList, s_X9_restore_0, s_X9_restore_1, s_X9_restore_4, s_X9_restore_7, s_X9_restore_9, s_X9_restore_10, s_X9_restore_11, s_X9_restore_14, s_X9_restore_15, s_X9_restore_16, s_X9_restore_19, s_X9_restore_21, s_X9_restore_22, s_X9_restore_23, s_X9_restore_26, s_X9_restore_27, s_X9_restore_30, s_X9_restore_31, s_X9_restore_32, s_X9_restore_35, s_X9_restore_36]
      exact hk' c1 (hf1.mono rfl) (hC.tb hf1 hT1)
end CE
