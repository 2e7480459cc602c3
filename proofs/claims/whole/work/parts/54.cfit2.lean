/-! ===== the class: rows that fit, counted ===== -/
def mwI (mw : Option Nat) : Int32 := match mw with
  | none => - nI 1
  | some q => nI q
def b01 (b : Bool) : Int32 := if b then nI 1 else nI 0
def fob (v n m mw cl : Int32) : rE := obj 3 [.ref 49, .ref 52, .int v, .int n, .int m, .int mw, .int cl]
def FTS (c : Nat → rE) (T : TS) (S : FST) : Prop := c 48 = fob (nI T.2.2.1) (nI T.1) (nI T.2.1) (mwI S.2.1) (b01 S.2.2) ∧ gsc c 7 49 ∧ isI c 52 6 (fun j => nI (S.1 j))
theorem l2i_lN {a : Nat} (h : a < 100000) : (lN a).toInt32 = nI a := by
  apply Int32.toInt_inj.mp
  rw [Int64.toInt_toInt32, lN_toI (by omega), nI_toInt (by omega)]
  exact Int.bmod_eq_of_le (by omega) (by omega)
theorem pw_le {m n : Nat} (hm : m ≤ 6) (hn : n ≤ 6) : m ^ n ≤ 46656 := Nat.le_trans (Nat.pow_le_pow_left hm n) (Nat.pow_le_pow_right (by decide) hn)
theorem rwN_le {T : TS} {S : FST} (hm : 1 ≤ T.2.1 ∧ T.2.1 ≤ 6) (hn : T.1 ≤ 6) : rwN T S ≤ 46656 := by
  unfold rwN
  split
  · omega
  · have h1 := FF_leB (w := oneF) (g := gM T.2.2.1 T.2.1 S.2.1) (m := T.2.1) (x := 1) (B := 1) (fun b => by unfold gM; split; omega; split <;> omega) (jnK (fun i => some (S.1 i)) T.1 0 0) (jnB (fun i => some (S.1 i)) T.1 0 zrB)
    rw [one_sm _ (by omega), Nat.mul_one] at h1
    have h2 := jnK_le (fun i => some (S.1 i)) T.1 0 0
    exact Nat.le_trans h1 (pw_le hm.2 (by omega))
theorem FF_one {w : Nat → Nat} {m x : Nat} : ∀ (k : Nat) (b : Nat → Int32), FF w (fun _ => 1) m x k b = smF w m x ^ k
  | 0, _ => rfl
  | k + 1, b => by
    rw [FF, smF_cg m x (g := fun y => smF w m x ^ k * w y) (fun j _ _ => by rw [FF_one k, Nat.mul_comm]), smF_mul, Nat.pow_succ]
section CF
variable {ro : rQ} {LL : Nat} {xs : Nat → Int32} {d : Nat} {R : rR} {c : Nat → rE} {h : rH} {n m v si sg k t q l : Nat} {w fo o f : Nat → Nat} {st pd e : Nat → Int32} {im : Nat → Option TS} {x y a0 a1 a2 a3 a4 : Int32} {S : FST}
theorem gf0 (h : c 48 = fob a0 a1 a2 a3 a4) {K : Value → Prop} : rGf (tab c) 48 0 [3] K ↔ K (.ref 49) := gf_o (ci := 3) h (by decide) rfl rfl
theorem gf1 (h : c 48 = fob a0 a1 a2 a3 a4) {K : Value → Prop} : rGf (tab c) 48 1 [3] K ↔ K (.ref 52) := gf_o (ci := 3) h (by decide) rfl rfl
theorem gf2 (h : c 48 = fob a0 a1 a2 a3 a4) {K : Value → Prop} : rGf (tab c) 48 2 [3] K ↔ K (.int a0) := gf_o (ci := 3) h (by decide) rfl rfl
theorem gf3 (h : c 48 = fob a0 a1 a2 a3 a4) {K : Value → Prop} : rGf (tab c) 48 3 [3] K ↔ K (.int a1) := gf_o (ci := 3) h (by decide) rfl rfl
theorem gf4 (h : c 48 = fob a0 a1 a2 a3 a4) {K : Value → Prop} : rGf (tab c) 48 4 [3] K ↔ K (.int a2) := gf_o (ci := 3) h (by decide) rfl rfl
theorem gf5 (h : c 48 = fob a0 a1 a2 a3 a4) {K : Value → Prop} : rGf (tab c) 48 5 [3] K ↔ K (.int a3) := gf_o (ci := 3) h (by decide) rfl rfl
theorem gf6 (h : c 48 = fob a0 a1 a2 a3 a4) {K : Value → Prop} : rGf (tab c) 48 6 [3] K ↔ K (.int a4) := gf_o (ci := 3) h (by decide) rfl rfl
theorem pf2 (h : c 48 = fob a0 a1 a2 a3 a4) {K : rH → Prop} : rPf (tab c) 48 [2, 0, 0, 3] (.int x) K ↔ K (tab (fup c 48 (fob x a1 a2 a3 a4))) := pf_o (ci := 3) h (by decide) rfl rfl
theorem pf3 (h : c 48 = fob a0 a1 a2 a3 a4) {K : rH → Prop} : rPf (tab c) 48 [3, 0, 0, 3] (.int x) K ↔ K (tab (fup c 48 (fob a0 x a2 a3 a4))) := pf_o (ci := 3) h (by decide) rfl rfl
theorem pf4 (h : c 48 = fob a0 a1 a2 a3 a4) {K : rH → Prop} : rPf (tab c) 48 [4, 0, 0, 3] (.int x) K ↔ K (tab (fup c 48 (fob a0 a1 x a3 a4))) := pf_o (ci := 3) h (by decide) rfl rfl
theorem pf5 (h : c 48 = fob a0 a1 a2 a3 a4) {K : rH → Prop} : rPf (tab c) 48 [5, 0, 0, 3] (.int x) K ↔ K (tab (fup c 48 (fob a0 a1 a2 x a4))) := pf_o (ci := 3) h (by decide) rfl rfl
theorem pf6 (h : c 48 = fob a0 a1 a2 a3 a4) {K : rH → Prop} (hx : x = 0 ∨ x = 1) : rPf (tab c) 48 [6, 0, 3, 3] (.int x) K ↔ K (tab (fup c 48 (fob a0 a1 a2 a3 x))) := pz_o (ci := 3) h (by decide) rfl hx
theorem vfi {f : Nat} {As : List Value} (h : c 48 = fob a0 a1 a2 a3 a4) : rVc ro d [3, f] 48 As (tab c) R ↔ rM ro d f 0 0 (.ref 48 :: As) (tab c) R := vc_o (ci := 3) h (by decide) rfl
theorem sp_X3_bind {T : TS} {a b : Nat} (hF : FTS c T S) (hT : T.1 ≤ 6) (hS : fOK T.1 T.2.1 S) (hm6 : T.2.1 ≤ 6) (ha : a < T.1) (hb : b ≤ T.2.1) (hk : ∀ c', frm [48, 52] c c' → FTS c' T (bnS S a b) → R none (tab c')) : rM ro (d + 1) 15 0 0 [.ref 48, .int (nI a), .int (nI b)] (tab c) R := by
  obtain ⟨h48, hg, h52⟩ := hF
  have hsa := hS.1 a
  have fin : ∀ c1 cl, frm [48] c c1 → c1 48 = fob (nI T.2.2.1) (nI T.1) (nI T.2.1) (mwI S.2.1) (b01 cl) → cl = (S.2.2 || (decide (S.1 a ≠ 0) && decide (S.1 a ≠ b))) → rU ro d tb_X3_bind R 35 [.ref 48, .int (nI a), .int (nI b)] [] (tab c1) := by
    intro c1 cl f1 e48 hcl
    simp only [s_X3_bind_0, s_X3_bind_1, s_X3_bind_4, s_X3_bind_5, s_X3_bind_7, s_X3_bind_10, s_X3_bind_11, s_X3_bind_12, s_X3_bind_15, s_X3_bind_16, s_X3_bind_17, s_X3_bind_20, s_X3_bind_21, s_X3_bind_24, s_X3_bind_25, s_X3_bind_26, s_X3_bind_27, s_X3_bind_30, s_X3_bind_31, s_X3_bind_32, s_X3_bind_35, s_X3_bind_36, s_X3_bind_39, s_X3_bind_40, s_X3_bind_41, s_X3_bind_42, gf1 e48]
    refine si_i (h52.fr f1 rfl) (by decide) (by omega) (by decide) fun c2 f2 hi2 => ?_
    refine hk c2 ((f1.mono rfl).trans (f2.mono rfl)) ⟨?_, (hg.fr f1 rfl).fr f2 rfl, hi2.cg (fun j _ => (congrFun updN_nI j).symm)⟩
    rw [(f2 48 rfl), e48, hcl]
    rfl
  have e0 : (nI (S.1 a) = 0) ↔ S.1 a = 0 := by rw [← nI_0]; exact sI_eq (by omega) (by decide)
  rw [en_X3_bind]
  simp only [s_X3_bind_0, s_X3_bind_1, s_X3_bind_4, s_X3_bind_5, s_X3_bind_7, s_X3_bind_10, s_X3_bind_11, s_X3_bind_12, s_X3_bind_15, s_X3_bind_16, s_X3_bind_17, s_X3_bind_20, s_X3_bind_21, s_X3_bind_24, s_X3_bind_25, s_X3_bind_26, s_X3_bind_27, s_X3_bind_30, s_X3_bind_31, s_X3_bind_32, s_X3_bind_36, s_X3_bind_39, s_X3_bind_40, s_X3_bind_41, s_X3_bind_42, gf1 h48, sI_lt0 (show a < 100000 by omega), sI_lt (show a < 100000 by omega) (show 6 < 100000 by decide), ai_i h52 (show 52 < 70 by decide) (show a < 6 by omega) (by decide), e0, sI_eq (show S.1 a < 100000 by omega) (show b < 100000 by omega), pf6 h48 (Or.inr rfl : nI 1 = 0 ∨ nI 1 = 1)]
  refine ⟨False.elim, fun _ => ⟨fun _ => ⟨fun h0 => fin c S.2.2 frm.rf h48 (by rw [h0]; simp), fun h0 => ⟨fun h1 => fin c S.2.2 frm.rf h48 (by rw [h1]; simp), fun h1 => ?_⟩⟩, fun q => absurd (by omega) q⟩⟩
  exact fin _ true (frm.rf.fup rfl) fup_self (by rw [decide_eq_true h0, decide_eq_true h1]; simp)
theorem sp_X3_demand {T : TS} {b : Nat} (hF : FTS c T S) (hS : fOK T.1 T.2.1 S) (hm6 : T.2.1 ≤ 6) (hb : b ≤ T.2.1) (hk : ∀ c', frm [48, 52] c c' → FTS c' T (dmS S b) → R none (tab c')) : rM ro (d + 1) 16 0 0 [.ref 48, .int (nI b)] (tab c) R := by
  obtain ⟨h48, hg, h52⟩ := hF
  have fin : ∀ c1 cl, frm [48] c c1 → c1 48 = fob (nI T.2.2.1) (nI T.1) (nI T.2.1) (mwI S.2.1) (b01 cl) → cl = (S.2.2 || (decide (S.2.1 ≠ none) && decide (S.2.1 ≠ some b))) → rU ro d tb_X3_demand R 21 [.ref 48, .int (nI b)] [] (tab c1) := by
    intro c1 cl f1 e48 hcl
    simp only [s_X3_demand_0, s_X3_demand_1, s_X3_demand_4, s_X3_demand_5, s_X3_demand_8, s_X3_demand_9, s_X3_demand_12, s_X3_demand_13, s_X3_demand_16, s_X3_demand_17, s_X3_demand_18, s_X3_demand_21, s_X3_demand_22, s_X3_demand_23, s_X3_demand_26, pf5 e48]
    have f2 : frm [48] c (fup c1 48 (fob (nI T.2.2.1) (nI T.1) (nI T.2.1) (nI b) (b01 cl))) := f1.fup rfl
    refine hk _ (f2.mono rfl) ⟨?_, hg.fr f2 rfl, h52.fr f2 rfl⟩
    rw [fup_self, hcl]
    rfl
  have hm1 : ∀ j, j ≤ 6 → ¬ nI j = - nI 1 := fun j hj e => by
    have := nI_toInt (n := j) (by omega)
    rw [e] at this
    have h2 : (- nI 1 : Int32).toInt = -1 := by decide
    omega
  rw [en_X3_demand]
  simp only [s_X3_demand_0, s_X3_demand_1, s_X3_demand_4, s_X3_demand_5, s_X3_demand_8, s_X3_demand_9, s_X3_demand_12, s_X3_demand_13, s_X3_demand_16, s_X3_demand_17, s_X3_demand_18, s_X3_demand_22, s_X3_demand_23, s_X3_demand_26, gf5 h48, pf6 h48 (Or.inr rfl : nI 1 = 0 ∨ nI 1 = 1)]
  refine ⟨fun h0 => ?_, fun h0 => ⟨fun h1 => ?_, fun h1 => ?_⟩⟩
  · refine fin c S.2.2 frm.rf h48 ?_
    cases hw : S.2.1 with
    | none => simp
    | some q => rw [hw] at h0; exact absurd h0 (hm1 q (by have := hS.2.2 q hw; omega))
  · refine fin c S.2.2 frm.rf h48 ?_
    cases hw : S.2.1 with
    | none => simp
    | some q =>
      rw [hw] at h1
      have hq := hS.2.2 q hw
      have : q = b := (sI_eq (by omega) (by omega)).mp h1
      rw [this]; simp
  · refine fin _ true (frm.rf.fup rfl) fup_self ?_
    cases hw : S.2.1 with
    | none => rw [hw] at h0; exact absurd rfl h0
    | some q =>
      rw [hw] at h1
      have : q ≠ b := fun e => h1 (by rw [e]; rfl)
      simp [this]
theorem sp_X3_read (hV : VS (n, m, v, w, fo, si, st)) (hC : CS c (n, m, v, w, fo, si, st) sg pd im) (hk : ∀ c', frm [48, 52] c c' → FTS c' (n, m, v, w, fo, si, st) (rdS (n, m, v, w, fo, si, st) si) → R none (tab c')) : rM ro (d + 2) 14 0 0 [.ref 48, .ref 1] (tab c) R := by
  have hT := hC.2.1
  have h0 := hT.1
  have hn := hV.1
  have hm := hV.2.1
  have hsi : si ≤ 6 := hV.2.2.2.2.2.2.2.2.1
  obtain ⟨⟨z0, z1, z2, z3, z4, h48⟩, hg, ⟨g52, h52⟩⟩ := hC.2.2.2.2.2.2.2.2.2.2
  have h48 : c 48 = fob z0 z1 z2 z3 z4 := h48
  rw [en_X3_read]
  simp only [s_X3_read_0, s_X3_read_1, s_X3_read_2, s_X3_read_5, s_X3_read_9, s_X3_read_10, s_X3_read_13, s_X3_read_16, s_X3_read_17, s_X3_read_18, s_X3_read_21, s_X3_read_24, s_X3_read_25, s_X3_read_26, s_X3_read_29, s_X3_read_30, s_X3_read_31, s_X3_read_34, s_X3_read_35, s_X3_read_36, s_X3_read_37, s_X3_read_39, s_X3_read_42, s_X3_read_43, s_X3_read_46, s_X3_read_47, s_X3_read_48, s_X3_read_49, s_X3_read_52, s_X3_read_55, s_X3_read_56, s_X3_read_57, s_X3_read_58, s_X3_read_59, s_X3_read_62, s_X3_read_65, s_X3_read_66, s_X3_read_68, s_X3_read_71, s_X3_read_72, s_X3_read_75, s_X3_read_76, s_X3_read_77, s_X3_read_78, s_X3_read_79, s_X3_read_80, s_X3_read_83, s_X3_read_84, s_X3_read_85, s_X3_read_88, s_X3_read_89, s_X3_read_90, s_X3_read_91, s_X3_read_94, s_X3_read_95, s_X3_read_96, s_X3_read_99, s_X3_read_100, s_X3_read_101, s_X3_read_104, s_X3_read_105, s_X3_read_106, s_X3_read_107, s_X3_read_110, s_X3_read_111, s_X3_read_114, s_X3_read_115, s_X3_read_118, s_X3_read_119, s_X3_read_120, s_X3_read_123, s_X3_read_126, s_X3_read_129, gt2 h0 (show 1 < 70 by decide), pf2 h48]
  have e1 : ∀ a0 a1 a2 a3 a4, frm [48] c (fup c 48 (fob a0 a1 a2 a3 a4)) := fun _ _ _ _ _ => frm.rf.fup rfl
  obtain ⟨c1, hc1⟩ : ∃ c1, c1 = fup c 48 (fob (nI v) z1 z2 z3 z4) := ⟨_, rfl⟩
  rw [← hc1]
  have f1 : frm [48] c c1 := by rw [hc1]; exact frm.rf.fup rfl
  have k1 : c1 48 = fob (nI v) z1 z2 z3 z4 := by rw [hc1]; exact fup_self
  simp only [s_X3_read_0, s_X3_read_1, s_X3_read_2, s_X3_read_5, s_X3_read_8, s_X3_read_9, s_X3_read_10, s_X3_read_13, s_X3_read_17, s_X3_read_18, s_X3_read_21, s_X3_read_24, s_X3_read_25, s_X3_read_26, s_X3_read_29, s_X3_read_30, s_X3_read_31, s_X3_read_34, s_X3_read_35, s_X3_read_36, s_X3_read_37, s_X3_read_39, s_X3_read_42, s_X3_read_43, s_X3_read_46, s_X3_read_47, s_X3_read_48, s_X3_read_49, s_X3_read_52, s_X3_read_55, s_X3_read_56, s_X3_read_57, s_X3_read_58, s_X3_read_59, s_X3_read_62, s_X3_read_65, s_X3_read_66, s_X3_read_68, s_X3_read_71, s_X3_read_72, s_X3_read_75, s_X3_read_76, s_X3_read_77, s_X3_read_78, s_X3_read_79, s_X3_read_80, s_X3_read_83, s_X3_read_84, s_X3_read_85, s_X3_read_88, s_X3_read_89, s_X3_read_90, s_X3_read_91, s_X3_read_94, s_X3_read_95, s_X3_read_96, s_X3_read_99, s_X3_read_100, s_X3_read_101, s_X3_read_104, s_X3_read_105, s_X3_read_106, s_X3_read_107, s_X3_read_110, s_X3_read_111, s_X3_read_114, s_X3_read_115, s_X3_read_118, s_X3_read_119, s_X3_read_120, s_X3_read_123, s_X3_read_126, s_X3_read_129, gt0 ((f1 1 rfl).trans h0) (show 1 < 70 by decide), pf3 k1]
  obtain ⟨c2, hc2⟩ : ∃ c2, c2 = fup c1 48 (fob (nI v) (nI n) z2 z3 z4) := ⟨_, rfl⟩
  rw [← hc2]
  have f2 : frm [48] c c2 := by rw [hc2]; exact f1.fup rfl
  have k2 : c2 48 = fob (nI v) (nI n) z2 z3 z4 := by rw [hc2]; exact fup_self
  simp only [s_X3_read_0, s_X3_read_1, s_X3_read_2, s_X3_read_5, s_X3_read_8, s_X3_read_9, s_X3_read_10, s_X3_read_13, s_X3_read_16, s_X3_read_17, s_X3_read_18, s_X3_read_21, s_X3_read_25, s_X3_read_26, s_X3_read_29, s_X3_read_30, s_X3_read_31, s_X3_read_34, s_X3_read_35, s_X3_read_36, s_X3_read_37, s_X3_read_39, s_X3_read_42, s_X3_read_43, s_X3_read_46, s_X3_read_47, s_X3_read_48, s_X3_read_49, s_X3_read_52, s_X3_read_55, s_X3_read_56, s_X3_read_57, s_X3_read_58, s_X3_read_59, s_X3_read_62, s_X3_read_65, s_X3_read_66, s_X3_read_68, s_X3_read_71, s_X3_read_72, s_X3_read_75, s_X3_read_76, s_X3_read_77, s_X3_read_78, s_X3_read_79, s_X3_read_80, s_X3_read_83, s_X3_read_84, s_X3_read_85, s_X3_read_88, s_X3_read_89, s_X3_read_90, s_X3_read_91, s_X3_read_94, s_X3_read_95, s_X3_read_96, s_X3_read_99, s_X3_read_100, s_X3_read_101, s_X3_read_104, s_X3_read_105, s_X3_read_106, s_X3_read_107, s_X3_read_110, s_X3_read_111, s_X3_read_114, s_X3_read_115, s_X3_read_118, s_X3_read_119, s_X3_read_120, s_X3_read_123, s_X3_read_126, s_X3_read_129, gt1 ((f2 1 rfl).trans h0) (show 1 < 70 by decide), pf4 k2]
  obtain ⟨c3, hc3⟩ : ∃ c3, c3 = fup c2 48 (fob (nI v) (nI n) (nI m) z3 z4) := ⟨_, rfl⟩
  rw [← hc3]
  have f3 : frm [48] c c3 := by rw [hc3]; exact f2.fup rfl
  have k3 : c3 48 = fob (nI v) (nI n) (nI m) z3 z4 := by rw [hc3]; exact fup_self
  simp only [s_X3_read_0, s_X3_read_1, s_X3_read_2, s_X3_read_5, s_X3_read_8, s_X3_read_9, s_X3_read_10, s_X3_read_13, s_X3_read_16, s_X3_read_17, s_X3_read_18, s_X3_read_21, s_X3_read_24, s_X3_read_25, s_X3_read_26, s_X3_read_30, s_X3_read_31, s_X3_read_34, s_X3_read_35, s_X3_read_36, s_X3_read_37, s_X3_read_39, s_X3_read_42, s_X3_read_43, s_X3_read_46, s_X3_read_47, s_X3_read_48, s_X3_read_49, s_X3_read_52, s_X3_read_55, s_X3_read_56, s_X3_read_57, s_X3_read_58, s_X3_read_59, s_X3_read_62, s_X3_read_65, s_X3_read_66, s_X3_read_68, s_X3_read_71, s_X3_read_72, s_X3_read_75, s_X3_read_76, s_X3_read_77, s_X3_read_78, s_X3_read_79, s_X3_read_80, s_X3_read_83, s_X3_read_84, s_X3_read_85, s_X3_read_88, s_X3_read_89, s_X3_read_90, s_X3_read_91, s_X3_read_94, s_X3_read_95, s_X3_read_96, s_X3_read_99, s_X3_read_100, s_X3_read_101, s_X3_read_104, s_X3_read_105, s_X3_read_106, s_X3_read_107, s_X3_read_110, s_X3_read_111, s_X3_read_114, s_X3_read_115, s_X3_read_118, s_X3_read_119, s_X3_read_120, s_X3_read_123, s_X3_read_126, s_X3_read_129, pf5 k3]
  obtain ⟨c4, hc4⟩ : ∃ c4, c4 = fup c3 48 (fob (nI v) (nI n) (nI m) (- nI 1) z4) := ⟨_, rfl⟩
  rw [← hc4]
  have f4 : frm [48] c c4 := by rw [hc4]; exact f3.fup rfl
  have k4 : c4 48 = fob (nI v) (nI n) (nI m) (- nI 1) z4 := by rw [hc4]; exact fup_self
  simp only [s_X3_read_0, s_X3_read_1, s_X3_read_2, s_X3_read_5, s_X3_read_8, s_X3_read_9, s_X3_read_10, s_X3_read_13, s_X3_read_16, s_X3_read_17, s_X3_read_18, s_X3_read_21, s_X3_read_24, s_X3_read_25, s_X3_read_26, s_X3_read_29, s_X3_read_30, s_X3_read_31, s_X3_read_34, s_X3_read_35, s_X3_read_37, s_X3_read_39, s_X3_read_42, s_X3_read_43, s_X3_read_46, s_X3_read_47, s_X3_read_48, s_X3_read_49, s_X3_read_52, s_X3_read_55, s_X3_read_56, s_X3_read_58, s_X3_read_59, s_X3_read_62, s_X3_read_65, s_X3_read_66, s_X3_read_68, s_X3_read_71, s_X3_read_72, s_X3_read_75, s_X3_read_76, s_X3_read_77, s_X3_read_78, s_X3_read_79, s_X3_read_80, s_X3_read_83, s_X3_read_84, s_X3_read_85, s_X3_read_88, s_X3_read_89, s_X3_read_90, s_X3_read_91, s_X3_read_94, s_X3_read_95, s_X3_read_96, s_X3_read_99, s_X3_read_100, s_X3_read_101, s_X3_read_104, s_X3_read_105, s_X3_read_106, s_X3_read_107, s_X3_read_110, s_X3_read_111, s_X3_read_114, s_X3_read_115, s_X3_read_118, s_X3_read_119, s_X3_read_120, s_X3_read_123, s_X3_read_126, s_X3_read_129, pf6 k4 (Or.inl rfl : nI 0 = 0 ∨ nI 0 = 1)]
  obtain ⟨c5, hc5⟩ : ∃ c5, c5 = fup c4 48 (fob (nI v) (nI n) (nI m) (- nI 1) (nI 0)) := ⟨_, rfl⟩
  rw [← hc5]
  have f5 : frm [48] c c5 := by rw [hc5]; exact f4.fup rfl
  have k5 : c5 48 = fob (nI v) (nI n) (nI m) (- nI 1) (nI 0) := by rw [hc5]; exact fup_self
  refine ⟨rfl, ?_⟩
  have lp2 : ∀ rem i c1 (l3 : Value), i + rem = si → frm [48, 52] c c1 → FTS c1 (n, m, v, w, fo, si, st) (rdS (n, m, v, w, fo, si, st) i) → rU ro (d + 1) tb_X3_read R 57 [.ref 48, .ref 1, .int (nI i), l3] [] (tab c1) := by
    intro rem
    induction rem with
    | zero =>
      intro i c1 l3 hi f1 hF
      have : i = si := by omega
      subst this
      rw [s_X3_read_57]
      simp only [s_X3_read_0, s_X3_read_1, s_X3_read_2, s_X3_read_5, s_X3_read_8, s_X3_read_9, s_X3_read_10, s_X3_read_13, s_X3_read_16, s_X3_read_17, s_X3_read_18, s_X3_read_21, s_X3_read_24, s_X3_read_25, s_X3_read_26, s_X3_read_29, s_X3_read_30, s_X3_read_31, s_X3_read_34, s_X3_read_35, s_X3_read_36, s_X3_read_37, s_X3_read_39, s_X3_read_42, s_X3_read_43, s_X3_read_46, s_X3_read_47, s_X3_read_48, s_X3_read_49, s_X3_read_52, s_X3_read_55, s_X3_read_56, s_X3_read_58, s_X3_read_59, s_X3_read_62, s_X3_read_65, s_X3_read_66, s_X3_read_68, s_X3_read_71, s_X3_read_72, s_X3_read_75, s_X3_read_76, s_X3_read_77, s_X3_read_78, s_X3_read_79, s_X3_read_80, s_X3_read_83, s_X3_read_84, s_X3_read_85, s_X3_read_88, s_X3_read_89, s_X3_read_90, s_X3_read_91, s_X3_read_94, s_X3_read_95, s_X3_read_96, s_X3_read_99, s_X3_read_100, s_X3_read_101, s_X3_read_104, s_X3_read_105, s_X3_read_106, s_X3_read_107, s_X3_read_110, s_X3_read_111, s_X3_read_114, s_X3_read_115, s_X3_read_118, s_X3_read_119, s_X3_read_120, s_X3_read_123, s_X3_read_126, s_X3_read_129, gt8 ((f1 1 rfl).trans h0) (show 1 < 70 by decide)]
      exact ⟨fun _ => hk c1 f1 hF, fun hc => absurd ((sI_le (by omega) (by omega)).mpr (Nat.le_refl _)) hc⟩
    | succ rem ih =>
      intro i c1 l3 hi f1 hF
      have e0 := (f1 1 rfl).trans h0
      have hT1 := hT.fr f1 rfl
      have hok := rd_ok hV i (by omega)
      have hst : st (3 * i) = sH (n, m, v, w, fo, si, st) i := rfl
      have nx : ∀ c2 (l3 : Value), frm [48, 52] c c2 → FTS c2 (n, m, v, w, fo, si, st) (rdS (n, m, v, w, fo, si, st) (i + 1)) → rU ro (d + 1) tb_X3_read R 123 [.ref 48, .ref 1, .int (nI i), l3] [] (tab c2) := by
        intro c2 l3 f2 hF2
        simp only [s_X3_read_0, s_X3_read_1, s_X3_read_2, s_X3_read_5, s_X3_read_8, s_X3_read_9, s_X3_read_10, s_X3_read_13, s_X3_read_16, s_X3_read_17, s_X3_read_18, s_X3_read_21, s_X3_read_24, s_X3_read_25, s_X3_read_26, s_X3_read_29, s_X3_read_30, s_X3_read_31, s_X3_read_34, s_X3_read_35, s_X3_read_36, s_X3_read_37, s_X3_read_39, s_X3_read_42, s_X3_read_43, s_X3_read_46, s_X3_read_47, s_X3_read_48, s_X3_read_49, s_X3_read_52, s_X3_read_55, s_X3_read_56, s_X3_read_58, s_X3_read_59, s_X3_read_62, s_X3_read_65, s_X3_read_66, s_X3_read_68, s_X3_read_71, s_X3_read_72, s_X3_read_75, s_X3_read_76, s_X3_read_77, s_X3_read_78, s_X3_read_79, s_X3_read_80, s_X3_read_83, s_X3_read_84, s_X3_read_85, s_X3_read_88, s_X3_read_89, s_X3_read_90, s_X3_read_91, s_X3_read_94, s_X3_read_95, s_X3_read_96, s_X3_read_99, s_X3_read_100, s_X3_read_101, s_X3_read_104, s_X3_read_105, s_X3_read_106, s_X3_read_107, s_X3_read_110, s_X3_read_111, s_X3_read_114, s_X3_read_115, s_X3_read_118, s_X3_read_119, s_X3_read_120, s_X3_read_123, s_X3_read_126, s_X3_read_129, nI_add]
        exact ⟨rfl, ih (i + 1) c2 l3 (by omega) f2 hF2⟩
      rw [s_X3_read_57]
      simp only [s_X3_read_0, s_X3_read_1, s_X3_read_2, s_X3_read_5, s_X3_read_8, s_X3_read_9, s_X3_read_10, s_X3_read_13, s_X3_read_16, s_X3_read_17, s_X3_read_18, s_X3_read_21, s_X3_read_24, s_X3_read_25, s_X3_read_26, s_X3_read_29, s_X3_read_30, s_X3_read_31, s_X3_read_34, s_X3_read_35, s_X3_read_36, s_X3_read_37, s_X3_read_39, s_X3_read_42, s_X3_read_43, s_X3_read_46, s_X3_read_47, s_X3_read_48, s_X3_read_49, s_X3_read_52, s_X3_read_55, s_X3_read_56, s_X3_read_58, s_X3_read_59, s_X3_read_62, s_X3_read_65, s_X3_read_66, s_X3_read_68, s_X3_read_71, s_X3_read_72, s_X3_read_75, s_X3_read_76, s_X3_read_77, s_X3_read_78, s_X3_read_79, s_X3_read_80, s_X3_read_83, s_X3_read_84, s_X3_read_85, s_X3_read_88, s_X3_read_89, s_X3_read_90, s_X3_read_91, s_X3_read_94, s_X3_read_95, s_X3_read_96, s_X3_read_100, s_X3_read_101, s_X3_read_104, s_X3_read_105, s_X3_read_106, s_X3_read_107, s_X3_read_110, s_X3_read_111, s_X3_read_114, s_X3_read_115, s_X3_read_118, s_X3_read_119, s_X3_read_120, s_X3_read_126, s_X3_read_129, gt8 e0 (show 1 < 70 by decide), gt5 e0 (show 1 < 70 by decide), gt6 e0 (show 1 < 70 by decide), gt7 e0 (show 1 < 70 by decide), vfi hF.1, sI_le (show si < 100000 by omega) (show i < 100000 by omega), sI_le (show 6 < 100000 by decide) (show i < 100000 by omega), ai_i hT1.2.2.2.1 (show 1 + 3 < 70 by decide) (show i < 6 by omega) (by decide), ai_i hT1.2.2.2.2.1 (show 1 + 4 < 70 by decide) (show i < 6 by omega) (by decide), ai_i hT1.2.2.2.2.2 (show 1 + 5 < 70 by decide) (show i < 6 by omega) (by decide), hst]
      refine ⟨fun hc => absurd hc (by omega), fun _ => ⟨fun hc => absurd hc (by omega), fun _ => ⟨rfl, fun h2 => ?_, fun h2 => ?_⟩⟩⟩
      · simp only [s_X3_read_0, s_X3_read_1, s_X3_read_2, s_X3_read_5, s_X3_read_8, s_X3_read_9, s_X3_read_10, s_X3_read_13, s_X3_read_16, s_X3_read_17, s_X3_read_18, s_X3_read_21, s_X3_read_24, s_X3_read_25, s_X3_read_26, s_X3_read_29, s_X3_read_30, s_X3_read_31, s_X3_read_34, s_X3_read_35, s_X3_read_36, s_X3_read_37, s_X3_read_39, s_X3_read_42, s_X3_read_43, s_X3_read_46, s_X3_read_47, s_X3_read_48, s_X3_read_49, s_X3_read_52, s_X3_read_55, s_X3_read_56, s_X3_read_58, s_X3_read_59, s_X3_read_62, s_X3_read_65, s_X3_read_66, s_X3_read_68, s_X3_read_71, s_X3_read_72, s_X3_read_75, s_X3_read_76, s_X3_read_77, s_X3_read_78, s_X3_read_79, s_X3_read_80, s_X3_read_83, s_X3_read_84, s_X3_read_85, s_X3_read_88, s_X3_read_89, s_X3_read_90, s_X3_read_91, s_X3_read_94, s_X3_read_95, s_X3_read_96, s_X3_read_99, s_X3_read_100, s_X3_read_101, s_X3_read_104, s_X3_read_105, s_X3_read_106, s_X3_read_107, s_X3_read_110, s_X3_read_111, s_X3_read_114, s_X3_read_115, s_X3_read_118, s_X3_read_119, s_X3_read_120, s_X3_read_126, s_X3_read_129, vfi hF.1, h2]
        refine ⟨fun q => absurd q (by decide), fun _ => ⟨fun _ => ?_, fun q => absurd trivial q⟩⟩
        refine sp_X3_demand hF hok (by show m ≤ 6; omega) (Nat.zero_le _) fun c2 f2 hF2 => ?_
        simp only [Option.toList_some, Option.toList_none, List.cons_append, List.nil_append, Option.toList, s_X3_read_0, s_X3_read_1, s_X3_read_2, s_X3_read_5, s_X3_read_8, s_X3_read_9, s_X3_read_10, s_X3_read_13, s_X3_read_16, s_X3_read_17, s_X3_read_18, s_X3_read_21, s_X3_read_24, s_X3_read_25, s_X3_read_26, s_X3_read_29, s_X3_read_30, s_X3_read_31, s_X3_read_34, s_X3_read_35, s_X3_read_36, s_X3_read_37, s_X3_read_39, s_X3_read_42, s_X3_read_43, s_X3_read_46, s_X3_read_47, s_X3_read_48, s_X3_read_49, s_X3_read_52, s_X3_read_55, s_X3_read_56, s_X3_read_58, s_X3_read_59, s_X3_read_62, s_X3_read_65, s_X3_read_66, s_X3_read_68, s_X3_read_71, s_X3_read_72, s_X3_read_75, s_X3_read_76, s_X3_read_77, s_X3_read_78, s_X3_read_79, s_X3_read_80, s_X3_read_83, s_X3_read_84, s_X3_read_85, s_X3_read_88, s_X3_read_89, s_X3_read_90, s_X3_read_91, s_X3_read_94, s_X3_read_95, s_X3_read_96, s_X3_read_99, s_X3_read_100, s_X3_read_101, s_X3_read_104, s_X3_read_105, s_X3_read_106, s_X3_read_107, s_X3_read_110, s_X3_read_111, s_X3_read_114, s_X3_read_115, s_X3_read_118, s_X3_read_119, s_X3_read_120, s_X3_read_126, s_X3_read_129]
        exact nx c2 _ (f1.trans f2) (by rw [rdS, if_pos h2]; exact hF2)
      · obtain ⟨h01, ha, hx1, hx2, ea, ex⟩ := (hV.sg (show i < si by omega)).resolve_left h2
        rw [ea, ex]
        refine sp_X3_bind hF (by show n ≤ 6; omega) hok (by show m ≤ 6; omega) ha hx2 fun c2 f2 hF2 => ?_
        have e02 := (f2 1 rfl).trans e0
        have hT2 := hT1.fr f2 rfl
        simp only [Option.toList_some, Option.toList_none, List.cons_append, List.nil_append, Option.toList, s_X3_read_0, s_X3_read_1, s_X3_read_2, s_X3_read_5, s_X3_read_8, s_X3_read_9, s_X3_read_10, s_X3_read_13, s_X3_read_16, s_X3_read_17, s_X3_read_18, s_X3_read_21, s_X3_read_24, s_X3_read_25, s_X3_read_26, s_X3_read_29, s_X3_read_30, s_X3_read_31, s_X3_read_34, s_X3_read_35, s_X3_read_36, s_X3_read_37, s_X3_read_39, s_X3_read_42, s_X3_read_43, s_X3_read_46, s_X3_read_47, s_X3_read_48, s_X3_read_49, s_X3_read_52, s_X3_read_55, s_X3_read_56, s_X3_read_58, s_X3_read_59, s_X3_read_62, s_X3_read_65, s_X3_read_66, s_X3_read_68, s_X3_read_71, s_X3_read_72, s_X3_read_75, s_X3_read_76, s_X3_read_77, s_X3_read_78, s_X3_read_79, s_X3_read_80, s_X3_read_83, s_X3_read_84, s_X3_read_85, s_X3_read_88, s_X3_read_89, s_X3_read_90, s_X3_read_91, s_X3_read_94, s_X3_read_95, s_X3_read_96, s_X3_read_99, s_X3_read_100, s_X3_read_101, s_X3_read_104, s_X3_read_105, s_X3_read_106, s_X3_read_107, s_X3_read_110, s_X3_read_111, s_X3_read_114, s_X3_read_115, s_X3_read_118, s_X3_read_119, s_X3_read_120, s_X3_read_126, s_X3_read_129, vfi hF2.1, gt7 e02 (show 1 < 70 by decide), ai_i hT2.2.2.2.2.2 (show 1 + 5 < 70 by decide) (show i < 6 by omega) (by decide)]
        refine ⟨fun h1 => nx c2 _ (f1.trans f2) (by rw [rdS, if_neg h2, if_pos h1]; exact hF2), fun h1 => ⟨fun q => absurd q h2, fun _ => ?_⟩⟩
        rw [ex]
        refine sp_X3_demand hF2 (bn_ok hok ha hx2) (by show m ≤ 6; omega) hx2 fun c3 f3 hF3 => ?_
        simp only [Option.toList_some, Option.toList_none, List.cons_append, List.nil_append, Option.toList, s_X3_read_0, s_X3_read_1, s_X3_read_2, s_X3_read_5, s_X3_read_8, s_X3_read_9, s_X3_read_10, s_X3_read_13, s_X3_read_16, s_X3_read_17, s_X3_read_18, s_X3_read_21, s_X3_read_24, s_X3_read_25, s_X3_read_26, s_X3_read_29, s_X3_read_30, s_X3_read_31, s_X3_read_34, s_X3_read_35, s_X3_read_36, s_X3_read_37, s_X3_read_39, s_X3_read_42, s_X3_read_43, s_X3_read_46, s_X3_read_47, s_X3_read_48, s_X3_read_49, s_X3_read_52, s_X3_read_55, s_X3_read_56, s_X3_read_58, s_X3_read_59, s_X3_read_62, s_X3_read_65, s_X3_read_66, s_X3_read_68, s_X3_read_71, s_X3_read_72, s_X3_read_75, s_X3_read_76, s_X3_read_77, s_X3_read_78, s_X3_read_79, s_X3_read_80, s_X3_read_83, s_X3_read_84, s_X3_read_85, s_X3_read_88, s_X3_read_89, s_X3_read_90, s_X3_read_91, s_X3_read_94, s_X3_read_95, s_X3_read_96, s_X3_read_99, s_X3_read_100, s_X3_read_101, s_X3_read_104, s_X3_read_105, s_X3_read_106, s_X3_read_107, s_X3_read_110, s_X3_read_111, s_X3_read_114, s_X3_read_115, s_X3_read_118, s_X3_read_119, s_X3_read_120, s_X3_read_126, s_X3_read_129]
        exact nx c3 _ (f1.trans (f2.trans f3)) (by rw [rdS, if_neg h2, if_neg h1]; exact hF3)
  have lp : ∀ rem i c1 val, i + rem = 6 → frm [48, 52] c c1 → c1 48 = fob (nI v) (nI n) (nI m) (- nI 1) (nI 0) → isI c1 52 6 val → (∀ j, j < i → val j = nI 0) → rU ro (d + 1) tb_X3_read R 36 [.ref 48, .ref 1, .int (nI i), .null] [] (tab c1) := by
    intro rem
    induction rem with
    | zero =>
      intro i c1 val hi f1 k1 hv hv2
      have : i = 6 := by omega
      subst this
      rw [s_X3_read_36]
      simp only [s_X3_read_0, s_X3_read_1, s_X3_read_2, s_X3_read_5, s_X3_read_8, s_X3_read_9, s_X3_read_10, s_X3_read_13, s_X3_read_16, s_X3_read_17, s_X3_read_18, s_X3_read_21, s_X3_read_24, s_X3_read_25, s_X3_read_26, s_X3_read_29, s_X3_read_30, s_X3_read_31, s_X3_read_34, s_X3_read_35, s_X3_read_37, s_X3_read_39, s_X3_read_42, s_X3_read_43, s_X3_read_46, s_X3_read_47, s_X3_read_48, s_X3_read_49, s_X3_read_52, s_X3_read_55, s_X3_read_56, s_X3_read_58, s_X3_read_59, s_X3_read_62, s_X3_read_65, s_X3_read_66, s_X3_read_68, s_X3_read_71, s_X3_read_72, s_X3_read_75, s_X3_read_76, s_X3_read_77, s_X3_read_78, s_X3_read_79, s_X3_read_80, s_X3_read_83, s_X3_read_84, s_X3_read_85, s_X3_read_88, s_X3_read_89, s_X3_read_90, s_X3_read_91, s_X3_read_94, s_X3_read_95, s_X3_read_96, s_X3_read_99, s_X3_read_100, s_X3_read_101, s_X3_read_104, s_X3_read_105, s_X3_read_106, s_X3_read_107, s_X3_read_110, s_X3_read_111, s_X3_read_114, s_X3_read_115, s_X3_read_118, s_X3_read_119, s_X3_read_120, s_X3_read_123, s_X3_read_126, s_X3_read_129]
      exact ⟨fun _ => ⟨rfl, lp2 si 0 c1 _ (by omega) f1 ⟨k1, hg.fr f1 rfl, hv.cg hv2⟩⟩, fun hc => absurd ((sI_le (by decide) (by decide)).mpr (Nat.le_refl _)) hc⟩
    | succ rem ih =>
      intro i c1 val hi f1 k1 hv hv2
      rw [s_X3_read_36]
      simp only [s_X3_read_0, s_X3_read_1, s_X3_read_2, s_X3_read_5, s_X3_read_8, s_X3_read_9, s_X3_read_10, s_X3_read_13, s_X3_read_16, s_X3_read_17, s_X3_read_18, s_X3_read_21, s_X3_read_24, s_X3_read_25, s_X3_read_26, s_X3_read_29, s_X3_read_30, s_X3_read_31, s_X3_read_34, s_X3_read_35, s_X3_read_37, s_X3_read_39, s_X3_read_42, s_X3_read_43, s_X3_read_46, s_X3_read_47, s_X3_read_48, s_X3_read_49, s_X3_read_52, s_X3_read_55, s_X3_read_56, s_X3_read_58, s_X3_read_59, s_X3_read_62, s_X3_read_65, s_X3_read_66, s_X3_read_68, s_X3_read_71, s_X3_read_72, s_X3_read_75, s_X3_read_76, s_X3_read_77, s_X3_read_78, s_X3_read_79, s_X3_read_80, s_X3_read_83, s_X3_read_84, s_X3_read_85, s_X3_read_88, s_X3_read_89, s_X3_read_90, s_X3_read_91, s_X3_read_94, s_X3_read_95, s_X3_read_96, s_X3_read_99, s_X3_read_100, s_X3_read_101, s_X3_read_104, s_X3_read_105, s_X3_read_106, s_X3_read_107, s_X3_read_110, s_X3_read_111, s_X3_read_114, s_X3_read_115, s_X3_read_118, s_X3_read_119, s_X3_read_120, s_X3_read_123, s_X3_read_126, s_X3_read_129, gf1 k1, nI_add, sI_le (show 6 < 100000 by decide) (show i < 100000 by omega)]
      refine ⟨fun hc => absurd hc (by omega), fun _ => si_i hv (by decide) (by omega) (by decide) fun c2 f2 hi2 => ?_⟩
      exact ⟨rfl, ih (i + 1) c2 _ (by omega) (f1.trans (f2.mono rfl)) ((f2 48 rfl).trans k1) hi2 (fillI hv2 rfl)⟩
  exact lp 6 0 c5 g52 (by omega) (f5.mono rfl) k5 ⟨g52, (f5 52 rfl).trans h52, fun _ _ => rfl⟩ (fun j hj => absurd hj (by omega))
end CF
