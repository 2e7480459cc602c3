/-! ===== the class: men who come late ===== -/
def sumB (g : Nat → Nat) : Nat → Nat
  | 0 => 0
  | s + 1 => sumB g s + g (s + 1)
def BL : Nat → Nat → Nat
  | 0 => fun s => if s = 0 then 0 else 1
  | j + 1 => sumB (BL j)
theorem BL_step (j s : Nat) : BL (j + 1) (s + 1) = BL (j + 1) s + BL j (s + 1) := rfl
theorem BL_mono (j : Nat) {s : Nat} : ∀ k, BL j s ≤ BL j (s + k)
  | 0 => Nat.le_refl _
  | k + 1 => by
    have h := BL_mono j (s := s) k
    cases j with
    | zero =>
      show (if s = 0 then 0 else 1) ≤ (if s + (k + 1) = 0 then 0 else 1)
      rw [if_neg (show ¬ s + (k + 1) = 0 by omega)]
      split <;> omega
    | succ j =>
      rw [show s + (k + 1) = (s + k) + 1 by omega, BL_step]
      omega
theorem BL_tab : ∀ j, j < 7 → 1 ≤ j → ∀ s, s < 7 → rTB.getD (j * 7 + s) 0 = BL j s ∧ BL j s ≤ 462 := by decide +kernel
def rkF (f : Nat → Nat) : Nat → Nat
  | 0 => 0
  | j + 1 => rkF f j + BL (j + 1) (smF f (j + 1) 1)
theorem smF_s (f : Nat → Nat) (j : Nat) : smF f (j + 1) 1 = smF f j 1 + f (j + 1) := by
  have := smF_split f j 1 1
  rw [this, smF, smF, Nat.add_zero, Nat.add_comm 1 j]
theorem rkF_bd (f : Nat → Nat) : ∀ j, BL j (smF f j 1) ≤ rkF f j ∧ rkF f j < BL j (smF f j 1 + 1)
  | 0 => by rw [smF, rkF]; decide
  | j + 1 => by
    obtain ⟨h1, h2⟩ := rkF_bd f j
    rw [rkF, BL_step]
    have h3 := BL_mono j (s := smF f j 1 + 1) (f (j + 1))
    rw [show smF f j 1 + 1 + f (j + 1) = smF f (j + 1) 1 + 1 by rw [smF_s]; omega] at h3
    omega
theorem rkF_inj {f g : Nat → Nat} : ∀ j, rkF f j = rkF g j → ∀ i, i ≤ j → smF f i 1 = smF g i 1
  | 0, _, i, hi => by rw [show i = 0 by omega]; rfl
  | j + 1, h, i, hi => by
    have a := rkF_bd f (j + 1)
    have b := rkF_bd g (j + 1)
    have key : ∀ x y : Nat, x < y → BL (j + 1) (x + 1) ≤ BL (j + 1) y := fun x y hxy => by
      have := BL_mono (j + 1) (s := x + 1) (y - (x + 1))
      rw [show x + 1 + (y - (x + 1)) = y by omega] at this
      exact this
    have hs : smF f (j + 1) 1 = smF g (j + 1) 1 := by
      by_cases h1 : smF f (j + 1) 1 < smF g (j + 1) 1
      · have := key _ _ h1; omega
      · by_cases h2 : smF g (j + 1) 1 < smF f (j + 1) 1
        · have := key _ _ h2; omega
        · omega
    by_cases e : i = j + 1
    · rw [e]; exact hs
    · rw [rkF, rkF, hs] at h
      exact rkF_inj j (by omega) i (by omega)
theorem rkF_eq {f g : Nat → Nat} {m : Nat} (h : rkF f m = rkF g m) : ∀ i, 1 ≤ i → i ≤ m → f i = g i := fun i h1 h2 => by
  have a := rkF_inj m h i h2
  have b := rkF_inj m h (i - 1) (by omega)
  rw [show i = (i - 1) + 1 by omega, smF_s, smF_s, b] at a
  rw [show i = (i - 1) + 1 by omega]
  omega
theorem rkF_lt {f : Nat → Nat} {m : Nat} (hm : 1 ≤ m ∧ m ≤ 6) (hs : smF f m 1 ≤ 5) : rkF f m < 924 := by
  have h := (rkF_bd f m).2
  have h2 := (BL_tab m (by omega) hm.1 (smF f m 1 + 1) (by omega)).2
  omega
def bmp (f : Nat → Nat) (y : Nat) : Nat → Nat := updN f y (f y + 1)
def fbF (f : Nat → Nat) : Nat → Int32 := fun j => nI (f j)
def pkF (g : Nat → Nat) : Nat → Nat → Nat
  | 0, _ => 1
  | r + 1, y => if g y = y then y else pkF g r (y + 1)
theorem pkF_le {g : Nat → Nat} {m : Nat} : ∀ r y, 1 ≤ m → y + r ≤ m + 1 → 1 ≤ y → 1 ≤ pkF g r y ∧ pkF g r y ≤ m
  | 0, _, h, _, _ => ⟨Nat.le_refl _, h⟩
  | r + 1, y, h, h1, h2 => by
    rw [pkF]
    split
    · omega
    · exact pkF_le r (y + 1) h (by omega) (by omega)
theorem pkF_cg {g g' : Nat → Nat} : ∀ r y, (∀ j, y ≤ j → j < y + r → g j = g' j) → pkF g r y = pkF g' r y
  | 0, _, _ => rfl
  | r + 1, y, h => by rw [pkF, pkF, h y (Nat.le_refl _) (by omega), pkF_cg r (y + 1) (fun j h1 h2 => h j (by omega) (by omega))]
def coF (fo : Nat → Nat) (m i : Nat) (g : Nat → Nat) : Nat := if fo i = 0 then pkF g m 1 else fo i
/-- who wins in the end: r men still to write, i wrote already, by the counts f -/
def enF (v m : Nat) (fo : Nat → Nat) : Nat → Nat → (Nat → Nat) → Nat
  | 0, _, f => winF v m (fbF f)
  | r + 1, i, f => enF v m fo r (i + 1) (bmp f (coF fo m i (fun y => enF v m fo r (i + 1) (bmp f y))))
theorem bmp_cg {f g : Nat → Nat} {m y : Nat} (h : ∀ j, 1 ≤ j → j ≤ m → f j = g j) : ∀ j, 1 ≤ j → j ≤ m → bmp f y j = bmp g y j := fun j h1 h2 => by
  unfold bmp updN
  by_cases e : j = y
  · rw [if_pos e, if_pos e, ← e, h j h1 h2]
  · rw [if_neg e, if_neg e, h j h1 h2]
theorem enF_cg {v m : Nat} {fo : Nat → Nat} : ∀ r i (f g : Nat → Nat), (∀ j, 1 ≤ j → j ≤ m → f j = g j) → enF v m fo r i f = enF v m fo r i g
  | 0, i, f, g, h => winF_cg (fun j h1 h2 => by unfold fbF; rw [h j h1 h2])
  | r + 1, i, f, g, h => by
    rw [enF, enF]
    have hg : (fun y => enF v m fo r (i + 1) (bmp f y)) = (fun y => enF v m fo r (i + 1) (bmp g y)) := funext fun y => enF_cg r (i + 1) _ _ (bmp_cg h)
    rw [hg]
    exact enF_cg r (i + 1) _ _ (bmp_cg h)
theorem coF_le {fo : Nat → Nat} {m i : Nat} {g : Nat → Nat} (hm : 1 ≤ m) (hf : fo i ≤ m) : 1 ≤ coF fo m i g ∧ coF fo m i g ≤ m := by
  unfold coF
  split
  · exact pkF_le m 1 hm (by omega) (by omega)
  · omega
theorem enF_le {v m : Nat} {fo : Nat → Nat} : ∀ r i f, enF v m fo r i f ≤ m
  | 0, _, _ => winF_le
  | r + 1, i, f => by rw [enF]; exact enF_le r _ _
theorem smF_bmp {f : Nat → Nat} {y : Nat} : ∀ r x, x ≤ y → y < x + r → smF (bmp f y) r x = smF f r x + 1
  | 0, x, h1, h2 => by omega
  | r + 1, x, h1, h2 => by
    rw [smF, smF]
    by_cases e : x = y
    · subst e
      rw [smF_cg r (x + 1) (f := bmp f x) (g := f) (fun j h3 h4 => by unfold bmp updN; rw [if_neg (by omega)])]
      unfold bmp updN
      rw [if_pos rfl]
      omega
    · rw [smF_bmp r (x + 1) (by omega) (by omega)]
      unfold bmp updN
      rw [if_neg e]
      omega
def MEMO (n m v : Nat) (fo : Nat → Nat) (e : Nat → Int32) : Prop := ∀ p, p < 924 → e p = nI 0 ∨ ∀ f, smF f m 1 ≤ n → rkF f m = p → e p = nI (enF v m fo (n - smF f m 1) (smF f m 1) f + 1)
def isB (c : Nat → rE) (r N : Nat) (val : Nat → Int32) : Prop := ∃ g, c r = byts N g ∧ ∀ j, j < N → g j = val j
theorem isB.fr {M : List Nat} {c c' : Nat → rE} {r N : Nat} {val : Nat → Int32} (h : isB c r N val) (hf : frm M c c') (hr : M.contains r = false) : isB c' r N val := h.elim fun g hg => ⟨g, (hf r hr).trans hg.1, hg.2⟩
theorem isB.ty {c : Nat → rE} {r N : Nat} {val : Nat → Int32} (h : isB c r N val) : tyB c r N := h.elim fun g hg => ⟨g, hg.1⟩
theorem nar_byte : ∀ k, k < 8 → vp_nar .byte (vp_nar .byte (nI k)) = nI k ∧ vp_nar .byte (nI k) = nI k := by decide +kernel
section CL
variable {ro : rQ} {LL : Nat} {xs : Nat → Int32} {d : Nat} {R : rR} {c : Nat → rE} {h : rH} {n m v si sg k t q l s z : Nat} {w fo o f : Nat → Nat} {st pd e : Nat → Int32} {im : Nat → Option TS} {x y : Int32}
theorem ga0 (h : c 45 = obj 0 [.ref 46, .ref 47]) {K : Value → Prop} : rGf (tab c) 45 0 [0] K ↔ K (.ref 46) := gf_o (ci := 0) h (by decide) rfl rfl
theorem ga1 (h : c 45 = obj 0 [.ref 46, .ref 47]) {K : Value → Prop} : rGf (tab c) 45 1 [0] K ↔ K (.ref 47) := gf_o (ci := 0) h (by decide) rfl rfl
theorem va_o {f : Nat} {As : List Value} (h : c 45 = obj 0 [.ref 46, .ref 47]) : rVc ro d [0, f] 45 As (tab c) R ↔ rM ro d f 0 0 (.ref 45 :: As) (tab c) R := vc_o (ci := 0) h (by decide) rfl
theorem ab_i {K : Int32 → Prop} {r N : Nat} {val : Nat → Int32} (h : isB c r N val) (hr : r < 70) (hx : k < N) (hN : N < 100000) : rAb (tab c) r (nI k) K ↔ K (val k) := by
  obtain ⟨g, h1, h2⟩ := h
  rw [ab_o h1 hr, nI_c (by omega), h2 k hx]
  exact ⟨fun q => q.2, fun q => ⟨vp_n hx hN, q⟩⟩
theorem sb_i {K : rH → Prop} {r N : Nat} {val : Nat → Int32} (h : isB c r N val) (hr : r < 70) (hx : k < N) (hN : N < 100000) (kk : ∀ c', frm [r] c c' → isB c' r N (upd val k (vp_nar .byte x)) → K (tab c')) : rSb (tab c) r (nI k) x K := by
  obtain ⟨g, h1, h2⟩ := h
  rw [sb_o h1 hr, nI_c (by omega)]
  refine ⟨vp_n hx hN, kk _ (frm.rf.fup (by simp)) ⟨_, fup_self, fun j hj => ?_⟩⟩
  unfold upd
  rw [h2 j hj]
theorem sp_X0_rank (h45 : c 45 = obj 0 [.ref 46, .ref 47]) (h46 : isI c 46 7 (fbF f)) (hm : 1 ≤ m ∧ m ≤ 6) (hs : smF f m 1 ≤ 6) (hk : R (some (.int (nI (rkF f m)))) (tab c)) : rM (rRo LL xs) (d + 1) 2 0 0 [.ref 45, .int (nI m)] (tab c) R := by
  rw [en_X0_rank]
  simp only [s_X0_rank_0, s_X0_rank_1, s_X0_rank_2, s_X0_rank_3, s_X0_rank_4, s_X0_rank_5, s_X0_rank_9, s_X0_rank_10, s_X0_rank_13, s_X0_rank_15, s_X0_rank_17, s_X0_rank_20, s_X0_rank_21, s_X0_rank_22, s_X0_rank_25, s_X0_rank_27, s_X0_rank_28, s_X0_rank_29, s_X0_rank_30, s_X0_rank_31, s_X0_rank_34, s_X0_rank_35, s_X0_rank_37, s_X0_rank_40, s_X0_rank_41, s_X0_rank_44, s_X0_rank_46, s_X0_rank_48, s_X0_rank_49, s_X0_rank_50, s_X0_rank_51, s_X0_rank_52, s_X0_rank_53, s_X0_rank_54, s_X0_rank_57, s_X0_rank_60, s_X0_rank_61]
  refine ⟨rfl, rfl, rfl, ?_⟩
  have lp : ∀ rem i, i + rem = m → rU (rRo LL xs) d tb_X0_rank R 7 [.ref 45, .int (nI m), .int (nI (smF f i 1)), .int (nI (rkF f i)), .int (nI (i + 1))] [] (tab c) := by
    intro rem
    induction rem with
    | zero =>
      intro i hi
      have : i = m := by omega
      subst this
      rw [s_X0_rank_7]
      simp only [s_X0_rank_0, s_X0_rank_1, s_X0_rank_2, s_X0_rank_3, s_X0_rank_4, s_X0_rank_5, s_X0_rank_9, s_X0_rank_10, s_X0_rank_13, s_X0_rank_15, s_X0_rank_17, s_X0_rank_20, s_X0_rank_21, s_X0_rank_22, s_X0_rank_25, s_X0_rank_27, s_X0_rank_28, s_X0_rank_29, s_X0_rank_30, s_X0_rank_31, s_X0_rank_34, s_X0_rank_35, s_X0_rank_37, s_X0_rank_40, s_X0_rank_41, s_X0_rank_44, s_X0_rank_46, s_X0_rank_48, s_X0_rank_49, s_X0_rank_50, s_X0_rank_51, s_X0_rank_52, s_X0_rank_53, s_X0_rank_54, s_X0_rank_57, s_X0_rank_60, s_X0_rank_61]
      exact ⟨fun _ => hk, fun hc => absurd ((sI_lt (by omega) (by omega)).mpr (Nat.lt_succ_self _)) hc⟩
    | succ rem ih =>
      intro i hi
      have hle : smF f (i + 1) 1 ≤ 6 := by
        have := smF_split f (i + 1) rem 1
        rw [show i + 1 + rem = m by omega] at this
        omega
      have htb := (BL_tab (i + 1) (by omega) (by omega) (smF f (i + 1) 1) (by omega)).1
      have hgc : rgetI (rRo LL xs) (tab c) 1000002 = some (49, fun k => nI (rTB.getD k 0)) := rfl
      have e1 : nI (smF f i 1) + nI (f (i + 1)) = nI (smF f (i + 1) 1) := by rw [nI_add, smF_s]
      rw [s_X0_rank_7]
      simp only [s_X0_rank_0, s_X0_rank_1, s_X0_rank_2, s_X0_rank_3, s_X0_rank_4, s_X0_rank_5, s_X0_rank_9, s_X0_rank_10, s_X0_rank_13, s_X0_rank_15, s_X0_rank_17, s_X0_rank_20, s_X0_rank_21, s_X0_rank_22, s_X0_rank_25, s_X0_rank_27, s_X0_rank_28, s_X0_rank_29, s_X0_rank_30, s_X0_rank_31, s_X0_rank_34, s_X0_rank_35, s_X0_rank_37, s_X0_rank_40, s_X0_rank_41, s_X0_rank_44, s_X0_rank_46, s_X0_rank_48, s_X0_rank_49, s_X0_rank_50, s_X0_rank_51, s_X0_rank_52, s_X0_rank_53, s_X0_rank_54, s_X0_rank_57, s_X0_rank_60, s_X0_rank_61, ga0 h45, nI_add, sI_lt (show m < 100000 by omega) (show i + 1 < 100000 by omega), sI_le (show 7 < 100000 by decide) (show i + 1 < 100000 by omega), ai_i h46 (show 46 < 70 by decide) (show i + 1 < 7 by omega) (by decide), fbF, ← smF_s, sI_lt0 (show smF f (i + 1) 1 < 100000 by omega), sI_le (show 7 < 100000 by decide) (show smF f (i + 1) 1 < 100000 by omega), ai_g hgc, nI_mul, nI_c (show (i + 1) * 7 + smF f (i + 1) 1 < 100000 by omega), htb]
      refine ⟨fun hc => absurd hc (by omega), fun _ => ⟨fun hc => absurd hc (by omega), fun _ => ⟨rfl, False.elim, fun _ => ⟨fun hc => absurd hc (by omega), fun _ => ⟨vp_n (by omega) (by decide), rfl, rfl, ih (i + 1) (by omega)⟩⟩⟩⟩⟩
  exact lp m 0 (by omega)
end CL
