/-! ===== the law begins ===== -/
def w0 (j : Nat) : Nat := ([0, 1, 1, 1, 1, 1, 0] : List Nat).getD j 0
def T0 : TS := (4, 5, 0, w0, (fun _ => 0), 0, (fun _ => nI 0))
def pd0 : Nat → Int32 := fun _ => nI 0
def im0 : Nat → Option TS := fun _ => none
def hc (h : rH) (j : Nat) : rE := h.getD j (.inl (0, 0, .inl (fun _ => 0)))
theorem hc_at {h : rH} {k : Nat} {e : rE} (hk : h[k]? = some e) : hc h k = e := by
  unfold hc
  rw [List.getD_eq_getElem?_getD, hk]
  rfl
theorem hc_tab {h : rH} (hl : h.length = 70) : tab (hc h) = h := by
  apply List.ext_getElem?
  intro i
  by_cases hi : i < 70
  · rw [tab_get hi]
    have : h[i]? = some h[i] := List.getElem?_eq_getElem (by omega)
    rw [hc_at this, this]
  · rw [List.getElem?_eq_none (by simp [tab]; omega), List.getElem?_eq_none (by omega)]
theorem xo_ok {h : rH} {k ci : Nat} {fs : List Value} (hx : xo h k ci fs = true) : hc h k = obj ci fs := by
  unfold xo at hx
  split at hx
  · rename_i hk
    simp only [Bool.and_eq_true, decide_eq_true_eq] at hx
    rw [hc_at hk, Nat.eq_of_beq_eq_true hx.1, hx.2]
  · exact absurd hx (by decide)
theorem xa_ok {h : rH} {k N : Nat} (hx : xa h k 0 N = true) : tyI (hc h) k N := by
  unfold xa at hx
  split at hx
  · rename_i f hk
    simp only [Bool.and_eq_true] at hx
    refine ⟨f, ?_⟩
    rw [hc_at hk, Nat.eq_of_beq_eq_true hx.1, Nat.eq_of_beq_eq_true hx.2]
  · exact absurd hx (by decide)
theorem xa_okB {h : rH} {k N : Nat} (hx : xa h k 2 N = true) : tyB (hc h) k N := by
  unfold xa at hx
  split at hx
  · rename_i f hk
    simp only [Bool.and_eq_true] at hx
    refine ⟨f, ?_⟩
    rw [hc_at hk, Nat.eq_of_beq_eq_true hx.1, Nat.eq_of_beq_eq_true hx.2]
  · exact absurd hx (by decide)
theorem xl_ok {h : rH} {k N : Nat} (hx : xl h k N = true) : tyL (hc h) k N := by
  unfold xl at hx
  split at hx
  · rename_i f hk
    simp only [Bool.and_eq_true] at hx
    refine ⟨f, ?_⟩
    rw [hc_at hk, Nat.eq_of_beq_eq_true hx.1, Nat.eq_of_beq_eq_true hx.2]
  · exact absurd hx (by decide)
theorem xv_ok {h : rH} {k N : Nat} {val : List Nat} (hx : xv h k 0 N val = true) : isI (hc h) k N (fun j => nI (val.getD j 0)) := by
  unfold xv at hx
  split at hx
  · rename_i f hk
    simp only [Bool.and_eq_true] at hx
    refine ⟨f, ?_, fun j hj => ?_⟩
    · rw [hc_at hk, Nat.eq_of_beq_eq_true hx.1.1, Nat.eq_of_beq_eq_true hx.1.2]
    · simpa using List.all_eq_true.mp hx.2 j (List.mem_range.mpr hj)
  · exact absurd hx (by decide)
theorem xv_okZ {h : rH} {k N : Nat} {val : List Nat} (hx : xv h k 3 N val = true) : isZ (hc h) k N (fun j => nI (val.getD j 0)) := by
  unfold xv at hx
  split at hx
  · rename_i f hk
    simp only [Bool.and_eq_true] at hx
    refine ⟨f, ?_, fun j hj => ?_⟩
    · rw [hc_at hk, Nat.eq_of_beq_eq_true hx.1.1, Nat.eq_of_beq_eq_true hx.1.2]
    · simpa using List.all_eq_true.mp hx.2 j (List.mem_range.mpr hj)
  · exact absurd hx (by decide)
theorem nil0 (j : Nat) : nI (([] : List Nat).getD j 0) = nI 0 := rfl
theorem xv_z {h : rH} {k N : Nat} (hx : xv h k 0 N [] = true) : isI (hc h) k N (fun _ => nI 0) := (xv_ok hx).cg (fun j _ => nil0 j)
theorem xtb_ok {h : rH} {t : Nat} (hx : xtb h t = true) : TBL (hc h) t T0 := by
  unfold xtb at hx
  simp only [Bool.and_eq_true] at hx
  obtain ⟨⟨⟨⟨⟨h0, h1⟩, h2⟩, h3⟩, h4⟩, h5⟩ := hx
  exact ⟨xo_ok h0, xv_ok h1, xv_z h2, xv_z h3, xv_z h4, xv_z h5⟩
theorem xgs_ok {h : rH} {ci g : Nat} (hx : xgs h ci g = true) : gsc (hc h) ci g := by
  unfold xgs at hx
  simp only [Bool.and_eq_true] at hx
  exact ⟨⟨_, _, _, xo_ok hx.1.1⟩, xa_ok hx.1.2, xl_ok hx.2⟩
theorem kp0 (j : Nat) : kpF im0 j = nI 0 := rfl
theorem xcs_ok {h : rH} (h1 : xcls h = true) (h2 : xcl2 h = true) : CS (hc h) T0 0 pd0 im0 := by
  unfold xcls at h1
  unfold xcl2 at h2
  simp only [Bool.and_eq_true] at h1 h2
  obtain ⟨⟨⟨⟨⟨⟨⟨⟨⟨⟨⟨a0, a7⟩, a22⟩, t1⟩, t8⟩, t14⟩, a20⟩, a21⟩, a23⟩, a24⟩, g25⟩, g28⟩ := h1
  obtain ⟨⟨⟨⟨⟨⟨⟨⟨⟨⟨⟨⟨⟨⟨⟨b31, g32⟩, b35⟩, b36⟩, b37⟩, b38⟩, b39⟩, g40⟩, b43⟩, b44⟩, b45⟩, b46⟩, b47⟩, b48⟩, g49⟩, b52⟩ := h2
  refine ⟨⟨xo_ok a0, xo_ok a7, xo_ok a22⟩, xtb_ok t1, ⟨⟨T0, xtb_ok t8, fun T hT => absurd hT (by simp [im0])⟩, ⟨T0, xtb_ok t14, fun T hT => absurd hT (by simp [im0])⟩, ?_⟩, xv_z a21, ⟨xa_ok a23, xa_ok a24⟩, xgs_ok g25, xgs_ok g28, ⟨⟨_, xo_ok b31⟩, xgs_ok g32, ⟨fun _ => 0, xv_z b38, fun _ => Nat.zero_le _⟩, ?_⟩, ⟨⟨_, _, _, xo_ok b39⟩, xgs_ok g40, xa_ok b43, xa_ok b44⟩, ⟨xo_ok b45, xa_ok b46, xa_okB b47⟩, ⟨_, _, _, _, _, xo_ok b48⟩, xgs_ok g49, xa_ok b52⟩
  · exact (xv_okZ a20).elim fun g hg => ⟨g, hg.1, fun j hj => hg.2 j hj⟩
  · obtain ⟨rw, hrw⟩ := xa_ok b36
    obtain ⟨gp, hgp⟩ := xl_ok b37
    exact ⟨fun _ => nI 0, rw, gp, xv_z b35, ⟨rw, hrw, fun _ _ => rfl⟩, ⟨gp, hgp, fun _ _ => rfl⟩, fun t _ _ => Or.inl rfl⟩
theorem xms_ok {h : rH} (h1 : xmod h = true) : MS (hc h) T0 0 pd0 im0 := by
  unfold xmod at h1
  simp only [Bool.and_eq_true] at h1
  obtain ⟨⟨⟨⟨⟨⟨⟨⟨⟨⟨⟨⟨⟨⟨⟨⟨a53, a54⟩, a55⟩, a56⟩, a57⟩, a58⟩, a59⟩, a60⟩, a61⟩, a62⟩, a63⟩, a64⟩, a65⟩, a66⟩, a67⟩, a68⟩, a69⟩ := h1
  refine ⟨⟨⟨_, _, _, xo_ok a53⟩, xv_ok a54, xv_z a55, xv_z a56, xv_z a57⟩, ⟨xa_ok a58, xa_ok a59, xa_ok a60, xa_ok a61, xa_ok a62, xa_ok a63, xa_ok a64, xa_ok a65, xa_ok a66, xa_ok a67⟩, ?_, ?_⟩
  · obtain ⟨g, hg⟩ := xa_ok a68
    exact ⟨g, ⟨g, hg, fun _ _ => rfl⟩, fun k _ T hT => absurd hT (by simp [im0])⟩
  · exact (xv_okZ a69).elim fun g hg => ⟨g, hg.1, fun j hj => hg.2 j hj⟩
theorem VS0 : VS T0 := by
  refine ⟨by decide, by decide, by decide, rfl, fun j hj => ?_, fun j => ?_, by decide, fun _ => Nat.zero_le _, by decide, fun i hi => absurd hi (Nat.not_lt_zero _)⟩
  · have hj : 5 < j := hj
    unfold w0
    by_cases e : j = 6
    · rw [e]; rfl
    · rw [List.getD_eq_getElem?_getD, List.getElem?_eq_none (by simp; omega)]; rfl
  · unfold w0
    by_cases e : j < 7
    · rcases (show j = 0 ∨ j = 1 ∨ j = 2 ∨ j = 3 ∨ j = 4 ∨ j = 5 ∨ j = 6 by omega) with rfl | rfl | rfl | rfl | rfl | rfl | rfl <;> decide
    · rw [List.getD_eq_getElem?_getD, List.getElem?_eq_none (by simp; omega)]; exact Nat.zero_le _
theorem law_start {ro : rQ} {R : rR} (hk : ∀ c, CS c T0 0 pd0 im0 → MS c T0 0 pd0 im0 → rT ro (rM ro 1000) tb_L_law 70 94894 R (16, [.ref 1000004, .ref 0, .ref 53, .null], [], tab c, 70, 94894)) : rT ro (rM ro 1000) tb_L_law 70 94894 R (0, [.ref 1000004, .null, .null, .null], [], [], 0, 0) := by
  have h := start_ok
  unfold xst at h
  split at h
  · rename_i pc L st hh k z hx
    simp only [Bool.and_eq_true, decide_eq_true_eq] at h
    obtain ⟨⟨⟨⟨⟨⟨⟨⟨h1, h2⟩, h3⟩, h4⟩, h5⟩, h6⟩, h7⟩, h8⟩, h9⟩ := h
    have h1 := Nat.eq_of_beq_eq_true h1
    have h4 := Nat.eq_of_beq_eq_true h4
    have h5 := Nat.eq_of_beq_eq_true h5
    have h6 := Nat.eq_of_beq_eq_true h6
    subst h1 h2 h3 h4 h5
    refine xr_ok _ _ _ _ _ _ _ _ _ hx ?_
    have := hk (hc hh) (xcs_ok h7 h8) (xms_ok h9)
    rw [hc_tab h6] at this
    exact this
  · exact absurd h (by decide)
