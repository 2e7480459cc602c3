/-! ===== friends: sets, rows, the first of the most ===== -/
def hasB (s i : Nat) : Bool := s / 2 ^ i % 2 == 1
def rkN (s : Nat) : Nat → Nat
  | 0 => 0
  | i + 1 => rkN s i + (if hasB s i then 1 else 0)
def fcN (fo : Nat → Nat) (s : Nat) : Nat → Nat → Nat
  | 0, _ => 0
  | i + 1, j => fcN fo s i j + (if hasB s i = false ∧ fo i = j then 1 else 0)
def bxF (fo : Nat → Nat) (s n : Nat) (x : List Nat) : Nat → Int32 := fun j => if j = 0 then nI 0 else nI (x.count j + fcN fo s n j)
def VF (w : Nat → Nat) (v m : Nat) (fo : Nat → Nat) (s n : Nat) (x : List Nat) : Nat := FF w (fun f => x.count (winF v m f)) m 1 (fcN fo s n 0) (bxF fo s n x)
theorem rkN_le (s : Nat) : ∀ i, rkN s i ≤ i
  | 0 => Nat.le_refl _
  | i + 1 => by have := rkN_le s i; rw [rkN]; split <;> omega
theorem rkN_mono (s : Nat) {i : Nat} : ∀ k, rkN s i ≤ rkN s (i + k)
  | 0 => Nat.le_refl _
  | k + 1 => by have := rkN_mono s (i := i) k; rw [show i + (k + 1) = (i + k) + 1 by omega, rkN]; omega
theorem fcN_le (fo : Nat → Nat) (s : Nat) : ∀ i j, fcN fo s i j ≤ i
  | 0, _ => Nat.le_refl _
  | i + 1, j => by have := fcN_le fo s i j; rw [fcN]; split <;> omega
theorem FF_add {w : Nat → Nat} {g g' : (Nat → Int32) → Nat} {m x : Nat} : ∀ (k : Nat) (b : Nat → Int32), FF w (fun f => g f + g' f) m x k b = FF w g m x k b + FF w g' m x k b
  | 0, _ => rfl
  | k + 1, b => by
    have hs : ∀ (f f' : Nat → Nat) r y, smF (fun j => f j + f' j) r y = smF f r y + smF f' r y := by
      intro f f' r
      induction r with
      | zero => intro y; rfl
      | succ r ih => intro y; rw [smF, smF, smF, ih]; omega
    rw [FF, FF, FF, ← hs]
    exact smF_cg _ _ (fun j _ _ => by rw [FF_add k, Nat.mul_add])
theorem FF_leB {w : Nat → Nat} {g : (Nat → Int32) → Nat} {m x B : Nat} (hg : ∀ b, g b ≤ B) : ∀ (k : Nat) (b : Nat → Int32), FF w g m x k b ≤ smF w m x ^ k * B
  | 0, b => by rw [FF, Nat.pow_zero, Nat.one_mul]; exact hg b
  | k + 1, b => by
    rw [FF, Nat.pow_succ, Nat.mul_comm (smF w m x ^ k), Nat.mul_assoc]
    exact smF_wle m x (fun j _ _ => FF_leB hg k _)
theorem FF_zero {w : Nat → Nat} {m x : Nat} : ∀ (k : Nat) (b : Nat → Int32), FF w (fun _ => 0) m x k b = 0
  | 0, _ => rfl
  | k + 1, b => by
    rw [FF]
    have : ∀ r y, smF (fun j => w j * FF w (fun _ => 0) m x k (ad1 b j 1)) r y = 0 := by
      intro r
      induction r with
      | zero => intro y; rfl
      | succ r ih => intro y; rw [smF, ih, FF_zero k]; simp
    exact this m x
theorem tl_list {w : Nat → Nat} {v m k : Nat} {b : Nat → Int32} : ∀ x : List Nat, (x.map (fun y => tlF w v m k b y)).sum = FF w (fun f => x.count (winF v m f)) m 1 k b
  | [] => by
    rw [List.map_nil, List.sum_nil, FF_cg (g' := fun _ => 0) (fun f => List.count_nil), FF_zero]
  | y :: x => by
    rw [List.map_cons, List.sum_cons, tl_list x, Nat.add_comm, tlF, ← FF_add]
    exact FF_cg (fun f => by
      rw [List.count_cons]
      congr 1
      by_cases h : winF v m f = y
      · rw [if_pos h, if_pos (by rw [h]; exact beq_self_eq_true y)]
      · rw [if_neg h, if_neg (by rw [beq_iff_eq]; exact fun e => h e.symm)]) k b
theorem VF_le {w : Nat → Nat} {v m : Nat} {fo : Nat → Nat} {s n : Nat} {x : List Nat} (hW : smF w m 1 ≤ 12) (hn : n ≤ 6) (hx : x.length ≤ 6) : VF w v m fo s n x ≤ 2985984 * 6 := by
  have h1 := FF_leB (w := w) (g := fun f => x.count (winF v m f)) (m := m) (x := 1) (B := 6) (fun f => Nat.le_trans List.count_le_length hx) (fcN fo s n 0) (bxF fo s n x)
  have h2 := pow12 hW (Nat.le_trans (fcN_le fo s n 0) hn)
  exact Nat.le_trans h1 (Nat.mul_le_mul_right _ h2)
def mxO (V : List Nat → Nat) (best : Option (List Nat)) (l : List Nat) : Option (List Nat) := match best with
  | none => some l
  | some b => if V b < V l then some l else some b
def mxL (V : List Nat → Nat) (best : Option (List Nat)) (ls : List (List Nat)) : Option (List Nat) := ls.foldl (mxO V) best
def ris (m : Nat) : Nat → Nat → List (List Nat)
  | 0, _ => [[]]
  | r + 1, lo => (List.range (m + 1 - lo)).flatMap (fun a => (ris m r (lo + a)).map ((lo + a) :: ·))
def lgL (T : TS) (s : Nat) : List Nat := (mxL (VF T.2.2.2.1 T.2.2.1 T.2.1 T.2.2.2.2.1 s T.1) none (ris T.2.1 (rkN s T.1) 1)).getD []
def frnA (T : TS) (x y : Int32) : Int32 := if inR 0 (T.1 - 1) y then (if inR 1 (2 ^ T.1 - 1) x then (if hasB x.toNatClampNeg y.toNatClampNeg = true then nI ((lgL T x.toNatClampNeg).getD (rkN x.toNatClampNeg y.toNatClampNeg) 0) else - nI 1) else - nI 2) else - nI 1
def leaA (T : TS) (x z : Int32) : Int64 := if inR 1 (2 ^ T.1 - 1) x ∧ inR 0 1 z then frF (VF T.2.2.2.1 T.2.2.1 T.2.1 T.2.2.2.2.1 x.toNatClampNeg T.1 (lgL T x.toNatClampNeg)) (wT T ^ fcN T.2.2.2.2.1 x.toNatClampNeg T.1 0 * tmF T.2.2.1) z else L2
theorem has_and : ∀ s, s < 64 → ∀ i, i < 6 → ((nI s >>> (nI i &&& 31)) &&& nI 1) = nI (if hasB s i then 1 else 0) := by decide +kernel
theorem shl_pow : ∀ n, n < 7 → nI 1 <<< (nI n &&& 31) = nI (2 ^ n) := by decide +kernel
theorem pow_le : ∀ n, n < 7 → 2 ^ n ≤ 64 ∧ 1 ≤ 2 ^ n := by decide
theorem take_cnt {x : List Nat} {p j : Nat} (h : p < x.length) : (x.take (p + 1)).count j = (x.take p).count j + if x.getD p 0 = j then 1 else 0 := by
  rw [List.take_succ, List.getElem?_eq_getElem h, List.count_append, List.getD_eq_getElem?_getD, List.getElem?_eq_getElem h]
  congr 1
  show List.count j [x[p]] = if x[p] = j then 1 else 0
  rw [List.count_singleton]
  by_cases e : x[p] = j
  · rw [if_pos (by rw [beq_iff_eq]; exact e), if_pos e]
  · rw [if_neg (by rw [beq_iff_eq]; exact e), if_neg e]
theorem take_sum {x : List Nat} {p : Nat} {f : Nat → Nat} (h : p < x.length) : ((x.take (p + 1)).map f).sum = ((x.take p).map f).sum + f (x.getD p 0) := by
  rw [List.take_succ, List.getElem?_eq_getElem h, List.map_append, List.sum_append, List.getD_eq_getElem?_getD, List.getElem?_eq_getElem h]
  simp
theorem bx_up {g : Nat → Nat} {y j : Nat} (hy : y ≠ 0) : ad1 (fun j => if j = 0 then nI 0 else nI (g j)) y 1 j = if j = 0 then nI 0 else nI (g j + if y = j then 1 else 0) := by
  unfold ad1 upd
  show (if j = y then (if y = 0 then nI 0 else nI (g y)) + nI 1 else if j = 0 then nI 0 else nI (g j)) = _
  by_cases hj : j = y
  · subst hj
    rw [if_pos rfl, if_neg hy, if_neg hy, if_pos rfl, nI_add]
  · rw [if_neg hj]
    by_cases hj0 : j = 0
    · rw [if_pos hj0, if_pos hj0]
    · rw [if_neg hj0, if_neg hj0, if_neg (fun q => hj q.symm), Nat.add_zero]
section CP
variable {ro : rQ} {LL : Nat} {xs : Nat → Int32} {d : Nat} {R : rR} {c : Nat → rE} {h : rH} {n m v si sg k t q l s z : Nat} {w fo o rf : Nat → Nat} {st pd rw br : Nat → Int32} {gp : Nat → Int64} {im : Nat → Option TS} {x y : Int32} {bu : Int64}
theorem bit_expr : ∀ s, s < 64 → ∀ i, i < 7 → ∃ r : Int32, r = nI (rkN s i) := fun _ _ _ _ => ⟨_, rfl⟩
def pob (bu : Int64) (s z : Int32) : rE := obj 5 [.ref 40, .ref 43, .ref 44, .long bu, .int s, .int z]
theorem gp0 {s z : Int32} (h : c 39 = pob bu s z) {K : Value → Prop} : rGf (tab c) 39 0 [5] K ↔ K (.ref 40) := gf_o (ci := 5) h (by decide) rfl rfl
theorem gp1 {s z : Int32} (h : c 39 = pob bu s z) {K : Value → Prop} : rGf (tab c) 39 1 [5] K ↔ K (.ref 43) := gf_o (ci := 5) h (by decide) rfl rfl
theorem gp2 {s z : Int32} (h : c 39 = pob bu s z) {K : Value → Prop} : rGf (tab c) 39 2 [5] K ↔ K (.ref 44) := gf_o (ci := 5) h (by decide) rfl rfl
theorem gp3 {s z : Int32} (h : c 39 = pob bu s z) {K : Value → Prop} : rGf (tab c) 39 3 [5] K ↔ K (.long bu) := gf_o (ci := 5) h (by decide) rfl rfl
theorem gp4 {s z : Int32} (h : c 39 = pob bu s z) {K : Value → Prop} : rGf (tab c) 39 4 [5] K ↔ K (.int s) := gf_o (ci := 5) h (by decide) rfl rfl
theorem gp5 {s z : Int32} (h : c 39 = pob bu s z) {K : Value → Prop} : rGf (tab c) 39 5 [5] K ↔ K (.int z) := gf_o (ci := 5) h (by decide) rfl rfl
theorem pp3 {s z : Int32} {bv : Int64} (h : c 39 = pob bu s z) {K : rH → Prop} : rPf (tab c) 39 [3, 0, 1, 5] (.long bv) K ↔ K (tab (fup c 39 (pob bv s z))) := pf_o (ci := 5) h (by decide) rfl rfl
theorem pp4 {s z : Int32} (h : c 39 = pob bu s z) {K : rH → Prop} : rPf (tab c) 39 [4, 0, 0, 5] (.int x) K ↔ K (tab (fup c 39 (pob bu x z))) := pf_o (ci := 5) h (by decide) rfl rfl
theorem pp5 {s z : Int32} (h : c 39 = pob bu s z) {K : rH → Prop} : rPf (tab c) 39 [5, 0, 0, 5] (.int x) K ↔ K (tab (fup c 39 (pob bu s x))) := pf_o (ci := 5) h (by decide) rfl rfl
theorem vpa {s z : Int32} {f : Nat} {As : List Value} (h : c 39 = pob bu s z) : rVc ro d [5, f] 39 As (tab c) R ↔ rM ro d f 0 0 (.ref 39 :: As) (tab c) R := vc_o (ci := 5) h (by decide) rfl
theorem sp_X5_gather {x : List Nat} {zz : Int32} (hV : VS (n, m, v, w, fo, si, st)) (hT : TBL c 1 (n, m, v, w, fo, si, st)) (h39 : c 39 = pob bu (nI s) zz) (hs : s < 64) (hg : gsc c 7 40) (h43 : isI c 43 6 rw) (hx : x.length = rkN s n) (hxr : ∀ j, j < x.length → rw j = nI (x.getD j 0)) (hxm : ∀ j, j < x.length → 1 ≤ x.getD j 0 ∧ x.getD j 0 ≤ m)
    (hk : ∀ c', frm [40, 41] c c' → c' 40 = gobj 7 40 (nI v) (nI m) (nI (fcN fo s n 0)) → isI c' 41 7 (bxF fo s n x) → R none (tab c')) : rM ro (d + 2) 28 0 0 [.ref 39, .ref 1] (tab c) R := by
  have h0 := hT.1
  have hn := hV.1
  have hm := hV.2.1
  obtain ⟨⟨a0, a1, a2, hg0⟩, hg1, hg2⟩ := hg
  rw [en_X5_gather]
  simp only [s_X5_gather_0, s_X5_gather_1, s_X5_gather_4, s_X5_gather_5, s_X5_gather_8, s_X5_gather_9, s_X5_gather_12, s_X5_gather_15, s_X5_gather_16, s_X5_gather_17, s_X5_gather_18, s_X5_gather_20, s_X5_gather_21, s_X5_gather_24, s_X5_gather_27, s_X5_gather_28, s_X5_gather_31, s_X5_gather_32, s_X5_gather_33, s_X5_gather_34, s_X5_gather_35, s_X5_gather_38, s_X5_gather_39, s_X5_gather_41, s_X5_gather_44, s_X5_gather_45, s_X5_gather_48, s_X5_gather_49, s_X5_gather_52, s_X5_gather_53, s_X5_gather_54, s_X5_gather_57, s_X5_gather_60, s_X5_gather_63, s_X5_gather_64, s_X5_gather_67, s_X5_gather_68, s_X5_gather_71, s_X5_gather_72, s_X5_gather_73, s_X5_gather_76, s_X5_gather_79, s_X5_gather_82, gp0 h39, gt2 h0 (show 1 < 70 by decide), gt1 h0 (show 1 < 70 by decide), vg7 hg0 (show 40 < 70 by decide)]
  refine sp_X7_clear hg0 (Or.inr rfl) (by decide) hg1 fun c1 f1 e1 b1 => ?_
  simp only [Option.toList_some, Option.toList_none, List.cons_append, List.nil_append, Option.toList, s_X5_gather_0, s_X5_gather_1, s_X5_gather_4, s_X5_gather_5, s_X5_gather_8, s_X5_gather_9, s_X5_gather_12, s_X5_gather_15, s_X5_gather_16, s_X5_gather_17, s_X5_gather_18, s_X5_gather_20, s_X5_gather_21, s_X5_gather_24, s_X5_gather_27, s_X5_gather_28, s_X5_gather_31, s_X5_gather_32, s_X5_gather_33, s_X5_gather_34, s_X5_gather_35, s_X5_gather_38, s_X5_gather_39, s_X5_gather_41, s_X5_gather_44, s_X5_gather_45, s_X5_gather_48, s_X5_gather_49, s_X5_gather_52, s_X5_gather_53, s_X5_gather_54, s_X5_gather_57, s_X5_gather_60, s_X5_gather_63, s_X5_gather_64, s_X5_gather_67, s_X5_gather_68, s_X5_gather_71, s_X5_gather_72, s_X5_gather_73, s_X5_gather_76, s_X5_gather_79, s_X5_gather_82]
  refine ⟨rfl, rfl, ?_⟩
  have lp : ∀ rem i c2, i + rem = n → frm [40, 41] c c2 → c2 40 = gobj 7 40 (nI v) (nI m) (nI (fcN fo s i 0)) → isI c2 41 7 (fun j => if j = 0 then nI 0 else nI ((x.take (rkN s i)).count j + fcN fo s i j)) → rU ro (d + 1) tb_X5_gather R 19 [.ref 39, .ref 1, .int (nI (rkN s i)), .int (nI i)] [] (tab c2) := by
    intro rem
    induction rem with
    | zero =>
      intro i c2 hi f2 e40 e41
      have : i = n := by omega
      subst this
      rw [s_X5_gather_19]
      simp only [s_X5_gather_0, s_X5_gather_1, s_X5_gather_4, s_X5_gather_5, s_X5_gather_8, s_X5_gather_9, s_X5_gather_12, s_X5_gather_15, s_X5_gather_16, s_X5_gather_17, s_X5_gather_18, s_X5_gather_20, s_X5_gather_21, s_X5_gather_24, s_X5_gather_27, s_X5_gather_28, s_X5_gather_31, s_X5_gather_32, s_X5_gather_33, s_X5_gather_34, s_X5_gather_35, s_X5_gather_38, s_X5_gather_39, s_X5_gather_41, s_X5_gather_44, s_X5_gather_45, s_X5_gather_48, s_X5_gather_49, s_X5_gather_52, s_X5_gather_53, s_X5_gather_54, s_X5_gather_57, s_X5_gather_60, s_X5_gather_63, s_X5_gather_64, s_X5_gather_67, s_X5_gather_68, s_X5_gather_71, s_X5_gather_72, s_X5_gather_73, s_X5_gather_76, s_X5_gather_79, s_X5_gather_82, gt0 ((f2 1 rfl).trans h0) (show 1 < 70 by decide)]
      refine ⟨fun _ => hk c2 f2 e40 (e41.cg (fun j _ => ?_)), fun hc => absurd ((sI_le (by omega) (by omega)).mpr (Nat.le_refl _)) hc⟩
      unfold bxF
      rw [List.take_of_length_le (by omega)]
    | succ rem ih =>
      intro i c2 hi f2 e40 e41
      have e39 := (f2 39 rfl).trans h39
      have e0 := (f2 1 rfl).trans h0
      have hrk := rkN_le s i
      have hmono := rkN_mono s (i := i + 1) rem
      rw [show i + 1 + rem = n by omega] at hmono
      have hfi := hV.2.2.2.2.2.2.2.1 i
      rw [s_X5_gather_19]
      simp only [s_X5_gather_0, s_X5_gather_1, s_X5_gather_4, s_X5_gather_5, s_X5_gather_8, s_X5_gather_9, s_X5_gather_12, s_X5_gather_15, s_X5_gather_16, s_X5_gather_17, s_X5_gather_18, s_X5_gather_20, s_X5_gather_21, s_X5_gather_24, s_X5_gather_27, s_X5_gather_28, s_X5_gather_31, s_X5_gather_32, s_X5_gather_33, s_X5_gather_34, s_X5_gather_35, s_X5_gather_38, s_X5_gather_39, s_X5_gather_41, s_X5_gather_44, s_X5_gather_45, s_X5_gather_48, s_X5_gather_49, s_X5_gather_52, s_X5_gather_53, s_X5_gather_54, s_X5_gather_57, s_X5_gather_60, s_X5_gather_63, s_X5_gather_64, s_X5_gather_67, s_X5_gather_68, s_X5_gather_71, s_X5_gather_72, s_X5_gather_73, s_X5_gather_79, s_X5_gather_82, gt0 e0 (show 1 < 70 by decide), gp4 e39, gp0 e39, gp1 e39, gt4 e0 (show 1 < 70 by decide), has_and s hs i (by omega), sI_le (show n < 100000 by omega) (show i < 100000 by omega), sI_le (show 6 < 100000 by decide) (show rkN s i < 100000 by omega), ai_i (hT.2.2.1.fr f2 rfl) (show 1 + 2 < 70 by decide) (show i < 6 by omega) (by decide), ai_i (h43.fr f2 rfl) (show 43 < 70 by decide) (show rkN s i < 6 by omega) (by decide), vg7 e40 (show 40 < 70 by decide)]
      refine ⟨fun hc => absurd hc (by omega), fun _ => ⟨fun hh => ?_, fun hh => ⟨fun hc => absurd hc (by omega), fun _ => ?_⟩⟩⟩
      · have hh : hasB s i = false := by
          cases hq : hasB s i
          · rfl
          · rw [hq, if_pos rfl] at hh; exact absurd hh (by decide)
        have hrk2 : rkN s (i + 1) = rkN s i := by rw [rkN, hh, if_neg (by decide), Nat.add_zero]
        refine sp_X7_join e40 (Or.inr rfl) (by decide) e41 hm.2 hfi fun c3 f3 g40 g41 => ?_
        simp only [Option.toList_some, Option.toList_none, List.cons_append, List.nil_append, Option.toList, s_X5_gather_0, s_X5_gather_1, s_X5_gather_4, s_X5_gather_5, s_X5_gather_8, s_X5_gather_9, s_X5_gather_12, s_X5_gather_15, s_X5_gather_16, s_X5_gather_17, s_X5_gather_18, s_X5_gather_20, s_X5_gather_21, s_X5_gather_24, s_X5_gather_27, s_X5_gather_28, s_X5_gather_31, s_X5_gather_32, s_X5_gather_33, s_X5_gather_34, s_X5_gather_35, s_X5_gather_38, s_X5_gather_39, s_X5_gather_41, s_X5_gather_44, s_X5_gather_45, s_X5_gather_48, s_X5_gather_49, s_X5_gather_52, s_X5_gather_53, s_X5_gather_54, s_X5_gather_57, s_X5_gather_60, s_X5_gather_63, s_X5_gather_64, s_X5_gather_67, s_X5_gather_68, s_X5_gather_71, s_X5_gather_72, s_X5_gather_73, s_X5_gather_76, s_X5_gather_79, s_X5_gather_82, nI_add]
        refine ⟨rfl, ?_⟩
        have := ih (i + 1) c3 (by omega) (f2.trans f3)
        rw [hrk2] at this
        refine this ?_ ?_
        · rw [g40]
          congr 2
          rw [fcN]
          by_cases hz : fo i = 0
          · rw [if_pos hz, if_pos ⟨hh, hz⟩]
          · rw [if_neg hz, if_neg (fun q => hz q.2)]; rfl
        · refine g41.cg (fun j _ => ?_)
          rw [fcN]
          by_cases hz : fo i = 0
          · rw [if_pos hz]
            by_cases hj : j = 0
            · rw [if_pos hj, if_pos hj]
            · rw [if_neg hj, if_neg hj, if_neg (fun q => hj (by rw [← q.2, hz])), Nat.add_zero]
          · rw [if_neg hz, bx_up hz]
            by_cases hj0 : j = 0
            · rw [if_pos hj0, if_pos hj0]
            · rw [if_neg hj0, if_neg hj0, Nat.add_assoc]
              congr 3
              simp [hh]
      · have hh : hasB s i = true := by
          cases hq : hasB s i
          · rw [hq, if_neg (by decide)] at hh; exact absurd nI_0 hh
          · rfl
        have hrk2 : rkN s (i + 1) = rkN s i + 1 := by rw [rkN, hh, if_pos rfl]
        obtain ⟨hy1, hy2⟩ := hxm (rkN s i) (by omega)
        rw [hxr (rkN s i) (by omega)]
        refine sp_X7_join e40 (Or.inr rfl) (by decide) e41 hm.2 hy2 fun c3 f3 g40 g41 => ?_
        rw [if_neg (by omega)] at g40 g41
        simp only [Option.toList_some, Option.toList_none, List.cons_append, List.nil_append, Option.toList, s_X5_gather_0, s_X5_gather_1, s_X5_gather_4, s_X5_gather_5, s_X5_gather_8, s_X5_gather_9, s_X5_gather_12, s_X5_gather_15, s_X5_gather_16, s_X5_gather_17, s_X5_gather_18, s_X5_gather_20, s_X5_gather_21, s_X5_gather_24, s_X5_gather_27, s_X5_gather_28, s_X5_gather_31, s_X5_gather_32, s_X5_gather_33, s_X5_gather_34, s_X5_gather_35, s_X5_gather_38, s_X5_gather_39, s_X5_gather_41, s_X5_gather_44, s_X5_gather_45, s_X5_gather_48, s_X5_gather_49, s_X5_gather_52, s_X5_gather_53, s_X5_gather_54, s_X5_gather_57, s_X5_gather_60, s_X5_gather_63, s_X5_gather_64, s_X5_gather_67, s_X5_gather_68, s_X5_gather_71, s_X5_gather_72, s_X5_gather_73, s_X5_gather_76, s_X5_gather_79, s_X5_gather_82, nI_add]
        refine ⟨rfl, rfl, ?_⟩
        have := ih (i + 1) c3 (by omega) (f2.trans f3)
        rw [hrk2] at this
        refine this ?_ ?_
        · rw [g40, fcN, if_neg (fun q => by rw [hh] at q; exact absurd q.1 (by decide)), Nat.add_zero]
        · refine g41.cg (fun j _ => ?_)
          rw [bx_up (by omega), fcN, take_cnt (by omega)]
          by_cases hj0 : j = 0
          · rw [if_pos hj0, if_pos hj0]
          · rw [if_neg hj0, if_neg hj0, if_neg (fun q : hasB s i = false ∧ fo i = j => by rw [hh] at q; exact absurd q.1 (by decide))]
            congr 1
            omega
  have h00 := lp n 0 c1 (by omega) f1 e1 (b1.cg (fun j _ => by
    show nI 0 = if j = 0 then nI 0 else nI (((x.take 0).count j) + fcN fo s 0 j)
    rw [List.take_zero, List.count_nil, fcN]
    split <;> rfl))
  exact h00
end CP
