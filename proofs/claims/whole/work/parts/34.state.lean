/-! ===== what the two objects hold between calls ===== -/
abbrev TS : Type := Nat × Nat × Nat × (Nat → Nat) × (Nat → Nat) × Nat × (Nat → Int32)
def isZ (c : Nat → rE) (r N : Nat) (val : Nat → Int32) : Prop := ∃ g, c r = bols N g ∧ ∀ j, j < N → g j = val j
def tyB (c : Nat → rE) (r N : Nat) : Prop := ∃ g, c r = byts N g
def TBL (c : Nat → rE) (t : Nat) (T : TS) : Prop := match T with
  | (n, m, v, w, fo, si, st) => c t = tobj t (nI n) (nI m) (nI v) (nI si) ∧ isI c (t + 1) 7 (fun j => nI (w j)) ∧ isI c (t + 2) 6 (fun j => nI (fo j)) ∧ isI c (t + 3) 6 (fun i => st (3 * i)) ∧ isI c (t + 4) 6 (fun i => st (3 * i + 1)) ∧ isI c (t + 5) 6 (fun i => st (3 * i + 2))
def okS (n m : Nat) (st : Nat → Int32) (i : Nat) : Prop := st (3 * i) = nI 2 ∨ ((st (3 * i) = nI 0 ∨ st (3 * i) = nI 1) ∧ ∃ a b, a < n ∧ 1 ≤ b ∧ b ≤ m ∧ st (3 * i + 1) = nI a ∧ st (3 * i + 2) = nI b)
def VS (T : TS) : Prop := match T with
  | (n, m, v, w, fo, si, st) => (2 ≤ n ∧ n ≤ 6) ∧ (2 ≤ m ∧ m ≤ 6) ∧ v ≤ 3 ∧ w 0 = 0 ∧ (∀ j, m < j → w j = 0) ∧ (∀ j, w j ≤ 9) ∧ (1 ≤ smF w m 1 ∧ smF w m 1 ≤ 12) ∧ (∀ j, fo j ≤ m) ∧ si ≤ 6 ∧ ∀ i, i < si → okS n m st i
/-- the first of the least -/
def amF (h : List Nat → Nat) : List (List Nat) → List Nat → List Nat
  | [], best => best
  | l :: t, best => if h l < h best then amF h t l else amF h t best
def rsH (v n m : Nat) (l : List Nat) : Nat := gpF (fll l) v m (n - 1) zrB
def rsL (v n m t : Nat) : List Nat := match cmp m t with
  | [] => []
  | a :: r => amF (rsH v n m) r a
def CALM (ky rw : Nat → Int32) (gp : Nat → Int64) : Prop := ∀ t, 1 ≤ t → t ≤ 8 → ky t = nI 0 ∨ ∃ v n m, v ≤ 3 ∧ (2 ≤ n ∧ n ≤ 6) ∧ (2 ≤ m ∧ m ≤ 6) ∧ ky t = nI (v * 100 + n * 10 + m) ∧ (∀ x, 1 ≤ x → x ≤ m → rw (t * 7 + x) = nI (fll (rsL v n m t) x)) ∧ gp t = lN (rsH v n m (rsL v n m t))
def gG0 (c : Nat → rE) (sg : Nat) : Prop := c 0 = lobj (nI sg) ∧ c 7 = obj 100 [.ref 8, .ref 14] ∧ c 22 = obj 2 [.ref 23, .ref 24]
def kpF (im : Nat → Option TS) (k : Nat) : Int32 := if (im k).isSome then nI 1 else nI 0
def gIM (c : Nat → rE) (im : Nat → Option TS) : Prop := (∃ T0, TBL c 8 T0 ∧ ∀ T, im 0 = some T → T0 = T) ∧ (∃ T1, TBL c 14 T1 ∧ ∀ T, im 1 = some T → T1 = T) ∧ isZ c 20 2 (kpF im)
def gEV (c : Nat → rE) : Prop := tyI c 23 6 ∧ tyI c 24 7
def gsc (c : Nat → rE) (ci g : Nat) : Prop := (∃ a b e, c g = gobj ci g a b e) ∧ tyI c (g + 1) 7 ∧ tyL c (g + 2) 7
def rwI (c : Nat → rE) : Prop := ∃ rf : Nat → Nat, isI c 38 7 (fun j => nI (rf j)) ∧ ∀ j, rf j ≤ 8
theorem rwI.fr {M : List Nat} {c c' : Nat → rE} (h : rwI c) (hf : frm M c c') (hr : M.contains 38 = false) : rwI c' := h.elim fun rf hq => ⟨rf, hq.1.fr hf hr, hq.2⟩
def gCA (c : Nat → rE) : Prop := (∃ s, c 31 = obj 1 [.ref 32, .ref 35, .ref 36, .ref 37, .ref 38, .int s]) ∧ gsc c 4 32 ∧ rwI c ∧ ∃ ky rw gp, isI c 35 9 ky ∧ isI c 36 63 rw ∧ isL c 37 9 gp ∧ CALM ky rw gp
def gPA (c : Nat → rE) : Prop := (∃ bu s z, c 39 = obj 5 [.ref 40, .ref 43, .ref 44, .long bu, .int s, .int z]) ∧ gsc c 7 40 ∧ tyI c 43 6 ∧ tyI c 44 6
def gAR (c : Nat → rE) : Prop := c 45 = obj 0 [.ref 46, .ref 47] ∧ tyI c 46 7 ∧ tyB c 47 924
def gFI (c : Nat → rE) : Prop := (∃ a b e f z, c 48 = obj 3 [.ref 49, .ref 52, .int a, .int b, .int e, .int f, .int z]) ∧ gsc c 7 49 ∧ tyI c 52 6
def CS (c : Nat → rE) (T : TS) (sg : Nat) (pd : Nat → Int32) (im : Nat → Option TS) : Prop := gG0 c sg ∧ TBL c 1 T ∧ gIM c im ∧ isI c 21 48 pd ∧ gEV c ∧ gsc c 4 25 ∧ gsc c 7 28 ∧ gCA c ∧ gPA c ∧ gAR c ∧ gFI c
def encF (T : TS) (j : Nat) : Int32 := match T with
  | (n, m, v, w, fo, si, st) => if j < 7 then nI (w j) else if j < 13 then nI (fo (j - 7)) else if j < 31 then st (j - 13) else if j = 31 then nI n else if j = 32 then nI m else if j = 33 then nI v else nI si
def mCO (c : Nat → rE) (T : TS) (sg : Nat) (pd : Nat → Int32) : Prop := match T with
  | (n, m, v, w, fo, si, st) => (∃ fr ru lu, c 53 = mobj (nI n) (nI m) (nI v) (nI si) (nI sg) fr ru lu) ∧ isI c 54 7 (fun j => nI (w j)) ∧ isI c 55 6 (fun j => nI (fo j)) ∧ isI c 56 18 st ∧ isI c 57 48 pd
def mSC (c : Nat → rE) : Prop := tyI c 58 7 ∧ tyI c 59 7 ∧ tyI c 60 7 ∧ tyI c 61 7 ∧ tyI c 62 7 ∧ tyI c 63 6 ∧ tyI c 64 6 ∧ tyI c 65 6 ∧ tyI c 66 46656 ∧ tyI c 67 46656
def mIM (c : Nat → rE) (im : Nat → Option TS) : Prop := (∃ imf, isI c 68 72 imf ∧ ∀ k, k < 2 → ∀ T, im k = some T → ∀ j, j < 35 → imf (36 * k + j) = encF T j) ∧ isZ c 69 2 (kpF im)
def MS (c : Nat → rE) (T : TS) (sg : Nat) (pd : Nat → Int32) (im : Nat → Option TS) : Prop := mCO c T sg pd ∧ mSC c ∧ mIM c im
theorem isZ.fr {M : List Nat} {c c' : Nat → rE} {r N : Nat} {val : Nat → Int32} (h : isZ c r N val) (hf : frm M c c') (hr : M.contains r = false) : isZ c' r N val := h.elim fun g hg => ⟨g, (hf r hr).trans hg.1, hg.2⟩
theorem tyB.fr {M : List Nat} {c c' : Nat → rE} {r N : Nat} (h : tyB c r N) (hf : frm M c c') (hr : M.contains r = false) : tyB c' r N := h.elim fun g hg => ⟨g, (hf r hr).trans hg⟩
def dsj (M L : List Nat) : Bool := L.all (fun j => !M.contains j)
theorem dsj_at {M L : List Nat} (h : dsj M L = true) (i : Nat) {j : Nat} (hi : L[i]? = some j) : M.contains j = false := by
  have := List.all_eq_true.mp h j (List.mem_of_getElem? hi)
  simpa using this
section FG
variable {M : List Nat} {c c' : Nat → rE} {T : TS} {sg ci g t : Nat} {pd : Nat → Int32} {im : Nat → Option TS}
theorem TBL.fr (h : TBL c t T) (hf : frm M c c') (hd : dsj M [t, t + 1, t + 2, t + 3, t + 4, t + 5] = true) : TBL c' t T := by
  obtain ⟨n, m, v, w, fo, si, st⟩ := T
  obtain ⟨h0, h1, h2, h3, h4, h5⟩ := h
  exact ⟨(hf t (dsj_at hd 0 rfl)).trans h0, h1.fr hf (dsj_at hd 1 rfl), h2.fr hf (dsj_at hd 2 rfl), h3.fr hf (dsj_at hd 3 rfl), h4.fr hf (dsj_at hd 4 rfl), h5.fr hf (dsj_at hd 5 rfl)⟩
theorem gG0.fr (h : gG0 c sg) (hf : frm M c c') (hd : dsj M [0, 7, 22] = true) : gG0 c' sg := ⟨(hf 0 (dsj_at hd 0 rfl)).trans h.1, (hf 7 (dsj_at hd 1 rfl)).trans h.2.1, (hf 22 (dsj_at hd 2 rfl)).trans h.2.2⟩
theorem gIM.fr (h : gIM c im) (hf : frm M c c') (hd : (dsj M [8, 9, 10, 11, 12, 13] && dsj M [14, 15, 16, 17, 18, 19] && dsj M [20]) = true) : gIM c' im := by
  simp only [Bool.and_eq_true] at hd
  obtain ⟨⟨T0, a0, b0⟩, ⟨T1, a1, b1⟩, hz⟩ := h
  exact ⟨⟨T0, a0.fr hf hd.1.1, b0⟩, ⟨T1, a1.fr hf hd.1.2, b1⟩, hz.fr hf (dsj_at hd.2 0 rfl)⟩
theorem gEV.fr (h : gEV c) (hf : frm M c c') (hd : dsj M [23, 24] = true) : gEV c' := ⟨h.1.fr hf (dsj_at hd 0 rfl), h.2.fr hf (dsj_at hd 1 rfl)⟩
theorem gsc.fr (h : gsc c ci g) (hf : frm M c c') (hd : dsj M [g, g + 1, g + 2] = true) : gsc c' ci g := by
  obtain ⟨⟨a, b, e, h0⟩, h1, h2⟩ := h
  exact ⟨⟨a, b, e, (hf g (dsj_at hd 0 rfl)).trans h0⟩, h1.fr hf (dsj_at hd 1 rfl), h2.fr hf (dsj_at hd 2 rfl)⟩
theorem gCA.fr (h : gCA c) (hf : frm M c c') (hd : (dsj M [31, 35, 36, 37, 38] && dsj M [32, 33, 34]) = true) : gCA c' := by
  simp only [Bool.and_eq_true] at hd
  obtain ⟨⟨s, h0⟩, h1, h2, ky, rw, gp, h3, h4, h5, h6⟩ := h
  exact ⟨⟨s, (hf 31 (dsj_at hd.1 0 rfl)).trans h0⟩, h1.fr hf hd.2, h2.fr hf (dsj_at hd.1 4 rfl), ky, rw, gp, h3.fr hf (dsj_at hd.1 1 rfl), h4.fr hf (dsj_at hd.1 2 rfl), h5.fr hf (dsj_at hd.1 3 rfl), h6⟩
theorem gPA.fr (h : gPA c) (hf : frm M c c') (hd : (dsj M [39, 43, 44] && dsj M [40, 41, 42]) = true) : gPA c' := by
  simp only [Bool.and_eq_true] at hd
  obtain ⟨⟨a, b, e, h0⟩, h1, h2, h3⟩ := h
  exact ⟨⟨a, b, e, (hf 39 (dsj_at hd.1 0 rfl)).trans h0⟩, h1.fr hf hd.2, h2.fr hf (dsj_at hd.1 1 rfl), h3.fr hf (dsj_at hd.1 2 rfl)⟩
theorem gAR.fr (h : gAR c) (hf : frm M c c') (hd : dsj M [45, 46, 47] = true) : gAR c' := ⟨(hf 45 (dsj_at hd 0 rfl)).trans h.1, h.2.1.fr hf (dsj_at hd 1 rfl), h.2.2.fr hf (dsj_at hd 2 rfl)⟩
theorem gFI.fr (h : gFI c) (hf : frm M c c') (hd : (dsj M [48, 52] && dsj M [49, 50, 51]) = true) : gFI c' := by
  simp only [Bool.and_eq_true] at hd
  obtain ⟨⟨a, b, e, f, z, h0⟩, h1, h2⟩ := h
  exact ⟨⟨a, b, e, f, z, (hf 48 (dsj_at hd.1 0 rfl)).trans h0⟩, h1.fr hf hd.2, h2.fr hf (dsj_at hd.1 1 rfl)⟩
theorem CS.ga (h : CS c T sg pd im) (hf : frm [25, 26, 27] c c') (hn : gsc c' 4 25) : CS c' T sg pd im := by
  obtain ⟨h0, h1, h2, h3, h4, h5, h6, h7, h8, h9, h10⟩ := h
  exact ⟨h0.fr hf rfl, h1.fr hf rfl, h2.fr hf rfl, h3.fr hf rfl, h4.fr hf rfl, hn, h6.fr hf rfl, h7.fr hf rfl, h8.fr hf rfl, h9.fr hf rfl, h10.fr hf rfl⟩
theorem CS.wi (h : CS c T sg pd im) (hf : frm [28, 29, 30] c c') (hn : gsc c' 7 28) : CS c' T sg pd im := by
  obtain ⟨h0, h1, h2, h3, h4, h5, h6, h7, h8, h9, h10⟩ := h
  exact ⟨h0.fr hf rfl, h1.fr hf rfl, h2.fr hf rfl, h3.fr hf rfl, h4.fr hf rfl, h5.fr hf rfl, hn, h7.fr hf rfl, h8.fr hf rfl, h9.fr hf rfl, h10.fr hf rfl⟩
theorem CS.ev (h : CS c T sg pd im) (hf : frm [23, 24] c c') (hn : gEV c') : CS c' T sg pd im := by
  obtain ⟨h0, h1, h2, h3, h4, h5, h6, h7, h8, h9, h10⟩ := h
  exact ⟨h0.fr hf rfl, h1.fr hf rfl, h2.fr hf rfl, h3.fr hf rfl, hn, h5.fr hf rfl, h6.fr hf rfl, h7.fr hf rfl, h8.fr hf rfl, h9.fr hf rfl, h10.fr hf rfl⟩
theorem CS.ca (h : CS c T sg pd im) (hf : frm [31, 32, 33, 34, 35, 36, 37, 38] c c') (hn : gCA c') : CS c' T sg pd im := by
  obtain ⟨h0, h1, h2, h3, h4, h5, h6, h7, h8, h9, h10⟩ := h
  exact ⟨h0.fr hf rfl, h1.fr hf rfl, h2.fr hf rfl, h3.fr hf rfl, h4.fr hf rfl, h5.fr hf rfl, h6.fr hf rfl, hn, h8.fr hf rfl, h9.fr hf rfl, h10.fr hf rfl⟩
theorem CS.pa (h : CS c T sg pd im) (hf : frm [39, 40, 41, 42, 43, 44] c c') (hn : gPA c') : CS c' T sg pd im := by
  obtain ⟨h0, h1, h2, h3, h4, h5, h6, h7, h8, h9, h10⟩ := h
  exact ⟨h0.fr hf rfl, h1.fr hf rfl, h2.fr hf rfl, h3.fr hf rfl, h4.fr hf rfl, h5.fr hf rfl, h6.fr hf rfl, h7.fr hf rfl, hn, h9.fr hf rfl, h10.fr hf rfl⟩
theorem CS.ar (h : CS c T sg pd im) (hf : frm [45, 46, 47, 23, 24] c c') (hn : gAR c') (he : gEV c') : CS c' T sg pd im := by
  obtain ⟨h0, h1, h2, h3, h4, h5, h6, h7, h8, h9, h10⟩ := h
  exact ⟨h0.fr hf rfl, h1.fr hf rfl, h2.fr hf rfl, h3.fr hf rfl, he, h5.fr hf rfl, h6.fr hf rfl, h7.fr hf rfl, h8.fr hf rfl, hn, h10.fr hf rfl⟩
theorem CS.fi (h : CS c T sg pd im) (hf : frm [48, 49, 50, 51, 52] c c') (hn : gFI c') : CS c' T sg pd im := by
  obtain ⟨h0, h1, h2, h3, h4, h5, h6, h7, h8, h9, h10⟩ := h
  exact ⟨h0.fr hf rfl, h1.fr hf rfl, h2.fr hf rfl, h3.fr hf rfl, h4.fr hf rfl, h5.fr hf rfl, h6.fr hf rfl, h7.fr hf rfl, h8.fr hf rfl, h9.fr hf rfl, hn⟩
theorem CS.tb {T' : TS} (h : CS c T sg pd im) (hf : frm [1, 2, 3, 4, 5, 6] c c') (hn : TBL c' 1 T') : CS c' T' sg pd im := by
  obtain ⟨h0, h1, h2, h3, h4, h5, h6, h7, h8, h9, h10⟩ := h
  exact ⟨h0.fr hf rfl, hn, h2.fr hf rfl, h3.fr hf rfl, h4.fr hf rfl, h5.fr hf rfl, h6.fr hf rfl, h7.fr hf rfl, h8.fr hf rfl, h9.fr hf rfl, h10.fr hf rfl⟩
theorem CS.sgn {sg' : Nat} {pd' : Nat → Int32} (h : CS c T sg pd im) (hf : frm [0, 21] c c') (hn : c' 0 = lobj (nI sg')) (hp : isI c' 21 48 pd') : CS c' T sg' pd' im := by
  obtain ⟨h0, h1, h2, h3, h4, h5, h6, h7, h8, h9, h10⟩ := h
  exact ⟨⟨hn, (hf 7 rfl).trans h0.2.1, (hf 22 rfl).trans h0.2.2⟩, h1.fr hf rfl, h2.fr hf rfl, hp, h4.fr hf rfl, h5.fr hf rfl, h6.fr hf rfl, h7.fr hf rfl, h8.fr hf rfl, h9.fr hf rfl, h10.fr hf rfl⟩
theorem CS.img {im' : Nat → Option TS} (h : CS c T sg pd im) (hf : frm [8, 9, 10, 11, 12, 13, 14, 15, 16, 17, 18, 19, 20] c c') (hn : gIM c' im') : CS c' T sg pd im' := by
  obtain ⟨h0, h1, h2, h3, h4, h5, h6, h7, h8, h9, h10⟩ := h
  exact ⟨h0.fr hf rfl, h1.fr hf rfl, hn, h3.fr hf rfl, h4.fr hf rfl, h5.fr hf rfl, h6.fr hf rfl, h7.fr hf rfl, h8.fr hf rfl, h9.fr hf rfl, h10.fr hf rfl⟩
/-- nothing of the class' cells has changed -/
theorem CS.out (h : CS c T sg pd im) (hf : frm [53, 54, 55, 56, 57, 58, 59, 60, 61, 62, 63, 64, 65, 66, 67, 68, 69] c c') : CS c' T sg pd im := by
  obtain ⟨h0, h1, h2, h3, h4, h5, h6, h7, h8, h9, h10⟩ := h
  exact ⟨h0.fr hf rfl, h1.fr hf rfl, h2.fr hf rfl, h3.fr hf rfl, h4.fr hf rfl, h5.fr hf rfl, h6.fr hf rfl, h7.fr hf rfl, h8.fr hf rfl, h9.fr hf rfl, h10.fr hf rfl⟩
theorem mSC.fr (h : mSC c) (hf : frm M c c') (hd : dsj M [58, 59, 60, 61, 62, 63, 64, 65, 66, 67] = true) : mSC c' := ⟨h.1.fr hf (dsj_at hd 0 rfl), h.2.1.fr hf (dsj_at hd 1 rfl), h.2.2.1.fr hf (dsj_at hd 2 rfl), h.2.2.2.1.fr hf (dsj_at hd 3 rfl), h.2.2.2.2.1.fr hf (dsj_at hd 4 rfl), h.2.2.2.2.2.1.fr hf (dsj_at hd 5 rfl), h.2.2.2.2.2.2.1.fr hf (dsj_at hd 6 rfl), h.2.2.2.2.2.2.2.1.fr hf (dsj_at hd 7 rfl), h.2.2.2.2.2.2.2.2.1.fr hf (dsj_at hd 8 rfl), h.2.2.2.2.2.2.2.2.2.fr hf (dsj_at hd 9 rfl)⟩
theorem mIM.fr (h : mIM c im) (hf : frm M c c') (hd : dsj M [68, 69] = true) : mIM c' im := by
  obtain ⟨⟨imf, h1, h2⟩, h3⟩ := h
  exact ⟨⟨imf, h1.fr hf (dsj_at hd 0 rfl), h2⟩, h3.fr hf (dsj_at hd 1 rfl)⟩
theorem mCO.fr (h : mCO c T sg pd) (hf : frm M c c') (hd : dsj M [53, 54, 55, 56, 57] = true) : mCO c' T sg pd := by
  obtain ⟨n, m, v, w, fo, si, st⟩ := T
  obtain ⟨⟨fr, ru, lu, h0⟩, h1, h2, h3, h4⟩ := h
  exact ⟨⟨fr, ru, lu, (hf 53 (dsj_at hd 0 rfl)).trans h0⟩, h1.fr hf (dsj_at hd 1 rfl), h2.fr hf (dsj_at hd 2 rfl), h3.fr hf (dsj_at hd 3 rfl), h4.fr hf (dsj_at hd 4 rfl)⟩
theorem MS.out (h : MS c T sg pd im) (hf : frm M c c') (hd : (dsj M [53, 54, 55, 56, 57] && dsj M [58, 59, 60, 61, 62, 63, 64, 65, 66, 67] && dsj M [68, 69]) = true) : MS c' T sg pd im := by
  simp only [Bool.and_eq_true] at hd
  exact ⟨h.1.fr hf hd.1.1, h.2.1.fr hf hd.1.2, h.2.2.fr hf hd.2⟩
/-- the model behind a call that only counted -/
theorem MS.sc {n m v si : Nat} {w fo : Nat → Nat} {st : Nat → Int32} (h : MS c (n, m, v, w, fo, si, st) sg pd im) (hf : frm [53, 58, 59, 60, 61, 62, 63, 64, 65, 66, 67] c c') (h53 : ∃ fr ru lu, c' 53 = mobj (nI n) (nI m) (nI v) (nI si) (nI sg) fr ru lu) (hs : mSC c') : MS c' (n, m, v, w, fo, si, st) sg pd im :=
  ⟨⟨h53, h.1.2.1.fr hf rfl, h.1.2.2.1.fr hf rfl, h.1.2.2.2.1.fr hf rfl, h.1.2.2.2.2.fr hf rfl⟩, hs, h.2.2.fr hf rfl⟩
end FG
