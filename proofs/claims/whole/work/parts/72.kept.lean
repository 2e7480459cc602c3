/-! ===== what a state keeps to, over every call ===== -/
theorem sm_upd {w : Nat → Nat} {a b : Nat} : ∀ r x, x ≤ a → a < x + r → smF (updN w a b) r x = smF w r x - w a + b
  | 0, x, h1, h2 => by omega
  | r + 1, x, h1, h2 => by
    rw [smF, smF]
    by_cases e : x = a
    · subst e
      have h3 : smF (updN w x b) r (x + 1) = smF w r (x + 1) := smF_cg _ _ (fun j h1 h2 => by unfold updN; rw [if_neg (by omega)])
      rw [h3]
      unfold updN
      rw [if_pos rfl]
      omega
    · have ih := sm_upd (w := w) (a := a) (b := b) r (x + 1) (by omega) (by omega)
      have hle := smF_le (f := w) r (x + 1) a (by omega) (by omega)
      rw [ih]
      have h4 : updN w a b x = w x := by unfold updN; rw [if_neg e]
      rw [h4]
      omega
theorem sm_one : ∀ m, m < 7 → smF (fun j => if 1 ≤ j ∧ j ≤ m then 1 else 0) m 1 = m := by decide
theorem vs_inn {T : TS} {x y : Int32} (h : VS T) : VS (innT T x y) := by
  unfold innT
  split
  · rename_i hxy
    obtain ⟨a, ha1, ha2, rfl⟩ := inR_nI hxy.1 (by decide) (by decide)
    obtain ⟨b, hb1, hb2, rfl⟩ := inR_nI hxy.2 (by decide) (by decide)
    rw [nI_c (by omega), nI_c (by omega)]
    obtain ⟨n, m, v, w, fo, si, st⟩ := T
    have hs := sm_one b (by omega)
    refine ⟨⟨ha1, ha2⟩, ⟨hb1, hb2⟩, h.2.2.1, rfl, fun j hj => if_neg (by omega), fun j => ?_, by rw [hs]; omega, fun _ => Nat.zero_le _, Nat.zero_le _, fun i hi => absurd hi (Nat.not_lt_zero _)⟩
    show (if 1 ≤ j ∧ j ≤ b then 1 else 0) ≤ 9
    split <;> omega
  · exact h
theorem vs_rule {T : TS} {x : Int32} (h : VS T) : VS (rulT T x) := by
  unfold rulT
  split
  · rename_i hx
    obtain ⟨a, ha1, ha2, rfl⟩ := inR_nI hx (by decide) (by decide)
    rw [nI_c (by omega)]
    obtain ⟨n, m, v, w, fo, si, st⟩ := T
    exact ⟨h.1, h.2.1, ha2, h.2.2.2⟩
  · exact h
theorem vs_weight {T : TS} {x y : Int32} (h : VS T) : VS (weiT T x y) := by
  unfold weiT
  split
  · rename_i hxy
    obtain ⟨n, m, v, w, fo, si, st⟩ := T
    obtain ⟨h1, h2, h3, h4, h5, h6, h7, h8, h9⟩ := h
    obtain ⟨hx, hy, hy1, hy2⟩ := hxy
    have hm : m < 100000 := by omega
    obtain ⟨a, ha1, ha2, rfl⟩ := inR_nI hx (by decide) hm
    obtain ⟨b, hb1, hb2, rfl⟩ := inR_nI hy (by decide) (by decide)
    have ha2 : a ≤ m := ha2
    rw [nI_c (show a < 100000 by omega), nI_c (show b < 100000 by omega)] at hy1 hy2
    rw [nI_c (show a < 100000 by omega), nI_c (show b < 100000 by omega)]
    have hy1 : 1 ≤ smF w m 1 - w a + b := hy1
    have hy2 : smF w m 1 - w a + b ≤ 12 := hy2
    have hs := sm_upd (w := w) (a := a) (b := b) m 1 ha1 (by omega)
    refine ⟨h1, h2, h3, ?_, fun j hj => ?_, fun j => ?_, ?_, h8, h9⟩
    · show updN w a b 0 = 0
      unfold updN
      rw [if_neg (by omega)]
      exact h4
    · show updN w a b j = 0
      unfold updN
      rw [if_neg (by omega)]
      exact h5 j hj
    · show updN w a b j ≤ 9
      unfold updN
      split
      · exact hb2
      · exact h6 j
    · show 1 ≤ smF (updN w a b) m 1 ∧ smF (updN w a b) m 1 ≤ 12
      rw [hs]
      exact ⟨hy1, hy2⟩
  · exact h
theorem vs_fool {T : TS} {x y : Int32} (h : VS T) : VS (fooT T x y) := by
  unfold fooT
  split
  · rename_i hxy
    obtain ⟨n, m, v, w, fo, si, st⟩ := T
    obtain ⟨h1, h2, h3, h4, h5, h6, h7, h8, h9⟩ := h
    have hm : m < 100000 := by omega
    have hb : y.toNatClampNeg ≤ m := by
      rcases hxy.2 with rfl | hy
      · exact Nat.zero_le _
      · obtain ⟨b, hb1, hb2, rfl⟩ := inR_nI hy (by decide) hm
        have hb2 : b ≤ m := hb2
        rw [nI_c (by omega)]
        exact hb2
    refine ⟨h1, h2, h3, h4, h5, h6, h7, fun j => ?_, h9⟩
    show updN fo x.toNatClampNeg y.toNatClampNeg j ≤ m
    unfold updN
    split
    · exact hb
    · exact h8 j
  · exact h
theorem vs_seen {T : TS} {x y z : Int32} (h : VS T) : VS (senT T x y z) := by
  unfold senT
  split
  · rename_i hk
    obtain ⟨n, m, v, w, fo, si, st⟩ := T
    obtain ⟨h1, h2, h3, h4, h5, h6, h7, h8, h9, h10⟩ := h
    obtain ⟨hK, h02, hne⟩ := hk
    have hne : si ≠ 6 := hne
    refine ⟨h1, h2, h3, h4, h5, h6, h7, h8, by show si + 1 ≤ 6; omega, fun i hi => ?_⟩
    have hi : i < si + 1 := hi
    have hst := @stP_at st si i x y z
    show okS n m (stP st si x y z) i
    unfold okS
    rw [hst.1, hst.2.1, hst.2.2]
    unfold upd
    by_cases e : i = si
    · rw [if_pos e, if_pos e, if_pos e]
      obtain ⟨a, ha1, ha2, rfl⟩ := inR_nI h02 (by decide) (by decide)
      rcases hK with hK | ⟨hy, hz⟩
      · exact Or.inl hK
      · by_cases e2 : a = 2
        · exact Or.inl (by rw [e2])
        · obtain ⟨p, hp1, hp2, rfl⟩ := inR_nI hy (by decide) (by show n - 1 < 100000; omega)
          obtain ⟨q, hq1, hq2, rfl⟩ := inR_nI hz (by decide) (by show m < 100000; omega)
          have hp2 : p ≤ n - 1 := hp2
          refine Or.inr ⟨?_, p, q, by omega, hq1, hq2, rfl, rfl⟩
          rcases (show a = 0 ∨ a = 1 by omega) with rfl | rfl
          · exact Or.inl rfl
          · exact Or.inr rfl
    · rw [if_neg e, if_neg e, if_neg e]
      exact h10 i (by omega)
  · exact h
theorem vs_forget {n m v si : Nat} {w fo : Nat → Nat} {st : Nat → Int32} (h : VS (n, m, v, w, fo, si, st)) : VS (n, m, v, w, fo, 0, st) := ⟨h.1, h.2.1, h.2.2.1, h.2.2.2.1, h.2.2.2.2.1, h.2.2.2.2.2.1, h.2.2.2.2.2.2.1, h.2.2.2.2.2.2.2.1, Nat.zero_le _, fun i hi => absurd hi (Nat.not_lt_zero _)⟩
theorem vs_restore {T : TS} {im : Nat → Option TS} {x : Int32} (h : VS T) (hi : ∀ k T', im k = some T' → VS T') : VS (resT T im x) := by
  unfold resT
  split
  · cases hq : im x.toNatClampNeg with
    | none => exact h
    | some T' => exact hi _ _ hq
  · exact h
theorem say_le {sg : Nat} {x : Int32} (h : sg ≤ 48) : sayS sg x ≤ 48 := by
  unfold sayS
  split
  · split <;> omega
  · exact h
theorem img_vs {T : TS} {im : Nat → Option TS} {x : Int32} (h : VS T) (hi : ∀ k T', im k = some T' → VS T') : ∀ k T', imgI im T x k = some T' → VS T' := by
  intro k T' hq
  unfold imgI at hq
  split at hq
  · simp only at hq
    split at hq
    · have := Option.some.inj hq
      subst this
      exact h
    · exact hi k T' hq
  · exact hi k T' hq
/-- both objects hold the same state -/
def INV (c : Nat → rE) (T : TS) (sg : Nat) (pd : Nat → Int32) (im : Nat → Option TS) : Prop := CS c T sg pd im ∧ MS c T sg pd im ∧ VS T ∧ sg ≤ 48 ∧ ∀ k T', im k = some T' → VS T'
def NXT (ro : rQ) (R : rR) (i : Nat) : Prop := ∀ c T sg pd im, INV c T sg pd im → rV ro R 998 [.ref 1000004, .ref 0, .ref 53, .int (nI i)] [] (tab c)
theorem sc_rd {LL : Nat} {xs : Nat → Int32} {h : rH} {k : Nat} {K : Int32 → Prop} (hk : k < LL) (hL : LL ≤ 2048) : rAi (rRo LL xs) h 1000004 (nI k) K ↔ K (xs k) := by
  rw [ai_g (n := LL) (g := xs) rfl, nI_c (by omega)]
  exact ⟨fun h => h.2, fun h => ⟨vp_n hk (by omega), h⟩⟩
theorem lg_self (a : Int64) : lg_cmp a a = 0 := by
  unfold lg_cmp
  rw [if_neg (fun q => absurd q (Int64.lt_irrefl)), if_pos rfl]
