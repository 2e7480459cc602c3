/-! ===== the cells as a function; 70 of them ===== -/
def tab (c : Nat → rE) : rH := (List.range 70).map c
def fup (c : Nat → rE) (k : Nat) (e : rE) : Nat → rE := fun j => if j = k then e else c j
theorem fup_self {c : Nat → rE} {k : Nat} {e : rE} : fup c k e k = e := if_pos rfl
theorem fup_ne {c : Nat → rE} {k j : Nat} {e : rE} (h : j ≠ k) : fup c k e j = c j := if_neg h
theorem tab_get {c : Nat → rE} {r : Nat} (h : r < 70) : (tab c)[r]? = some (c r) := by simp [tab, h]
theorem tab_set {c : Nat → rE} {r : Nat} {e : rE} : (tab c).set r e = tab (fup c r e) := by
  apply List.ext_getElem?
  intro i
  by_cases hi : i < 70
  · by_cases hr : r = i
    · subst hr
      rw [List.getElem?_set_self (by simpa [tab] using hi), tab_get hi, fup_self]
    · rw [List.getElem?_set_ne hr, tab_get hi, tab_get hi, fup_ne (fun h => hr h.symm)]
  · rw [List.getElem?_eq_none (by simp [tab]; omega), List.getElem?_eq_none (by simp [tab]; omega)]
abbrev ints (n : Nat) (f : Nat → Int32) : rE := .inl (0, n, .inl f)
abbrev lngs (n : Nat) (f : Nat → Int64) : rE := .inl (1, n, .inr (.inl f))
abbrev byts (n : Nat) (f : Nat → Int32) : rE := .inl (2, n, .inl f)
abbrev bols (n : Nat) (f : Nat → Int32) : rE := .inl (3, n, .inl f)
abbrev obj (ci : Nat) (fs : List Value) : rE := .inr (ci, fs)
section TB
variable {c : Nat → rE} {r q n ci f : Nat} {cs ps : List Nat} {fs : List Value} {v : Value} {i x : Int32} {ro : rQ} {d : Nat}
theorem gf_o {K : Value → Prop} (hc : c r = obj ci fs) (hr : r < 70) (hcs : cs.contains ci = true) (hv : fs[q]? = some v) : rGf (tab c) r q cs K ↔ K v := by
  unfold rGf
  rw [tab_get hr, hc]
  simp only [hcs, hv, true_and]
theorem ai_o {K : Int32 → Prop} {g : Nat → Int32} (hc : c r = ints n g) (hr : r < 70) : rAi ro (tab c) r i K ↔ vp_in i n ∧ K (g i.toNatClampNeg) := by
  unfold rAi rgetI
  rw [show Nat.ble 1000000 r = false from by cases h : Nat.ble 1000000 r; rfl; exact absurd (Nat.le_of_ble_eq_true h) (by omega), tab_get hr, hc]
  rfl
theorem ai_g {K : Int32 → Prop} {h : rH} {g : Nat → Int32} (hc : rgetI ro h r = some (n, g)) : rAi ro h r i K ↔ vp_in i n ∧ K (g i.toNatClampNeg) := by
  unfold rAi
  rw [hc]
theorem gI_o {g : Nat → Int32} (hc : c r = ints n g) (hr : r < 70) : rgetI ro (tab c) r = some (n, g) := by
  unfold rgetI
  rw [show Nat.ble 1000000 r = false from by cases h : Nat.ble 1000000 r; rfl; exact absurd (Nat.le_of_ble_eq_true h) (by omega), tab_get hr, hc]
  rfl
theorem ln_g {K : Int32 → Prop} {h : rH} {g : Nat → Int32} (hc : rgetI ro h r = some (n, g)) : rLn ro h r K ↔ K (nI n) := by
  unfold rLn
  rw [hc]
theorem al_o {K : Int64 → Prop} {g : Nat → Int64} (hc : c r = lngs n g) (hr : r < 70) : rAl (tab c) r i K ↔ vp_in i n ∧ K (g i.toNatClampNeg) := by
  unfold rAl
  rw [tab_get hr, hc]
  exact Iff.rfl
theorem ab_o {K : Int32 → Prop} {g : Nat → Int32} (hc : c r = byts n g) (hr : r < 70) : rAb (tab c) r i K ↔ vp_in i n ∧ K (g i.toNatClampNeg) := by
  unfold rAb
  rw [tab_get hr, hc]
  exact Iff.rfl
theorem az_o {K : Int32 → Prop} {g : Nat → Int32} (hc : c r = bols n g) (hr : r < 70) : rAb (tab c) r i K ↔ vp_in i n ∧ K (g i.toNatClampNeg) := by
  unfold rAb
  rw [tab_get hr, hc]
  exact Iff.rfl
theorem si_o {K : rH → Prop} {g : Nat → Int32} (hc : c r = ints n g) (hr : r < 70) : rSi (tab c) r i x K ↔ vp_in i n ∧ K (tab (fup c r (ints n (upd g i.toNatClampNeg x)))) := by
  rw [← tab_set]
  unfold rSi
  rw [tab_get hr, hc]
  exact Iff.rfl
theorem sl_o {K : rH → Prop} {g : Nat → Int64} {x : Int64} (hc : c r = lngs n g) (hr : r < 70) : rSl (tab c) r i x K ↔ vp_in i n ∧ K (tab (fup c r (lngs n (vp_updL g i.toNatClampNeg x)))) := by
  rw [← tab_set]
  unfold rSl
  rw [tab_get hr, hc]
  exact Iff.rfl
theorem sb_o {K : rH → Prop} {g : Nat → Int32} (hc : c r = byts n g) (hr : r < 70) : rSb (tab c) r i x K ↔ vp_in i n ∧ K (tab (fup c r (byts n (upd g i.toNatClampNeg (vp_nar .byte x))))) := by
  rw [← tab_set]
  unfold rSb
  rw [tab_get hr, hc]
  exact Iff.rfl
theorem sz_o {K : rH → Prop} {g : Nat → Int32} (hc : c r = bols n g) (hr : r < 70) : rSb (tab c) r i x K ↔ vp_in i n ∧ K (tab (fup c r (bols n (upd g i.toNatClampNeg (vp_nar .boolean x))))) := by
  rw [← tab_set]
  unfold rSb
  rw [tab_get hr, hc]
  exact Iff.rfl
theorem pf_o {K : rH → Prop} {fin ty : Nat} (hc : c r = obj ci fs) (hr : r < 70) (hcs : (cs.contains ci && Nat.blt q fs.length) = true) (hv : (match ty, v with | 0, .int _ => true | 1, .long _ => true | 2, .ref _ => true | _, _ => false) = true) : rPf (tab c) r (q :: fin :: ty :: cs) v K ↔ K (tab (fup c r (obj ci (fs.set q v)))) := by
  rw [← tab_set]
  unfold rPf
  rw [tab_get hr, hc]
  simp only [hcs, true_and]
  rcases ty with _ | _ | _ | ty <;> cases v <;> first | exact Iff.rfl | (simp at hv)
theorem pz_o {K : rH → Prop} {fin : Nat} (hc : c r = obj ci fs) (hr : r < 70) (hcs : (cs.contains ci && Nat.blt q fs.length) = true) (hx : x = 0 ∨ x = 1) : rPf (tab c) r (q :: fin :: 3 :: cs) (.int x) K ↔ K (tab (fup c r (obj ci (fs.set q (.int x))))) := by
  rw [← tab_set]
  unfold rPf
  rw [tab_get hr, hc]
  simp only [hcs, true_and, hx]
theorem vc_o {R : rR} {As : List Value} (hc : c r = obj ci fs) (hr : r < 70) (hl : rlook ps ci = some f) : rVc ro d ps r As (tab c) R ↔ rM ro d f 0 0 (.ref r :: As) (tab c) R := by
  unfold rVc
  rw [tab_get hr, hc]
  simp only [hl]
end TB
theorem nI_c {n : Nat} (h : n < 100000) : (nI n).toNatClampNeg = n := nI_clamp (by omega)
theorem vp_n {i N : Nat} (h : i < N) (hN : N < 100000) : vp_in (nI i) N := vp_in_nI h (by omega)
theorem upd_self {f : Nat → Int32} {k : Nat} {x : Int32} : upd f k x k = x := if_pos rfl
theorem upd_ne {f : Nat → Int32} {k j : Nat} {x : Int32} (h : j ≠ k) : upd f k x j = f j := if_neg h
theorem updL_self {f : Nat → Int64} {k : Nat} {x : Int64} : vp_updL f k x k = x := if_pos rfl
theorem updL_ne {f : Nat → Int64} {k j : Nat} {x : Int64} (h : j ≠ k) : vp_updL f k x j = f j := if_neg h
theorem sI_lt {a b : Nat} (ha : a < 100000) (hb : b < 100000) : (nI a < nI b) ↔ a < b := nI_ltI (by omega) (by omega)
theorem sI_le {a b : Nat} (ha : a < 100000) (hb : b < 100000) : (nI a ≤ nI b) ↔ a ≤ b := nI_leI (by omega) (by omega)
theorem sI_eq {a b : Nat} (ha : a < 100000) (hb : b < 100000) : (nI a = nI b) ↔ a = b := nI_eq (by omega) (by omega)
theorem sI_sub {a b : Nat} (h : b ≤ a) : nI a - nI b = nI (a - b) := pk_sub h
theorem sI_m1 (n : Nat) (h : 0 < n) : nI n + (- nI 1) = nI (n - 1) := by
  obtain ⟨k, rfl⟩ : ∃ k, n = k + 1 := ⟨n - 1, by omega⟩
  exact pk_m1 k
theorem rcl_ok {L : List Value} {i : Nat} (h : rcl L i = true) : (rcl L i = true) = True := by simp [h]
