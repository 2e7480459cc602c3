/-! ===== the law: its loop ===== -/
theorem and31 (x : Int32) : ∃ k, k < 32 ∧ x &&& nI 31 = nI k := by
  refine ⟨x.toBitVec.toNat % 32, Nat.mod_lt _ (by decide), ?_⟩
  apply Int32.toBitVec_inj.mp
  apply BitVec.eq_of_toNat_eq
  have h1 : (x &&& nI 31).toBitVec = x.toBitVec &&& (31#32) := rfl
  have h2 : (nI (x.toBitVec.toNat % 32)).toBitVec = BitVec.ofNat 32 (x.toBitVec.toNat % 32) := rfl
  have h3 : (x.toBitVec &&& 31#32).toNat = x.toBitVec.toNat % 32 := by
    rw [BitVec.toNat_and]
    exact Nat.and_two_pow_sub_one_eq_mod x.toBitVec.toNat 5
  have h4 : (BitVec.ofNat 32 (x.toBitVec.toNat % 32)).toNat = x.toBitVec.toNat % 32 := by
    rw [BitVec.toNat_ofNat]
    have := Nat.mod_lt x.toBitVec.toNat (show 0 < 32 by decide)
    exact Nat.mod_eq_of_lt (Nat.lt_of_lt_of_le this (by decide))
  rw [h1, h2, h3, h4]
theorem end_iff {a i : Nat} (ha : a < 100000) (hi : i < 100000) : (nI a - nI 4 < nI i) ↔ a < i + 4 := by
  rw [Int32.lt_iff_toInt_lt, Int32.toInt_sub, nI_toInt (by omega), nI_toInt (by omega), nI_toInt (by omega), Int.bmod_eq_of_le (by omega) (by omega)]
  omega
section LP
variable {LL : Nat} {xs : Nat → Int32}
theorem law_loop (hL : LL ≤ 2048) : ∀ N i c T sg pd im, LL ≤ i + N → i ≤ 2048 → INV c T sg pd im → rV (rRo LL xs) (fun v _ => v = some (.int 1)) 18 [.ref 1000004, .ref 0, .ref 53, .int (nI i)] [] (tab c) := by
  intro N
  induction N with
  | zero =>
    intro i c T sg pd im hN hi hI
    simp only [s_L_law_18, s_L_law_19, s_L_law_20, s_L_law_21, s_L_law_22, s_L_law_23, ln_g (ro := rRo LL xs) (r := 1000004) (n := LL) (g := xs) rfl, end_iff (show LL < 100000 by omega) (show i < 100000 by omega)]
    refine ⟨fun _ => ?_, fun q => absurd (by omega) q⟩
    rw [s_L_law_1004, s_L_law_1005]
    exact ⟨Or.inr rfl, rfl⟩
  | succ N ih =>
    intro i c T sg pd im hN hi hI
    simp only [s_L_law_18, s_L_law_19, s_L_law_20, s_L_law_21, s_L_law_22, s_L_law_23, ln_g (ro := rRo LL xs) (r := 1000004) (n := LL) (g := xs) rfl, end_iff (show LL < 100000 by omega) (show i < 100000 by omega)]
    refine ⟨fun _ => ?_, fun q => ?_⟩
    · rw [s_L_law_1004, s_L_law_1005]
      exact ⟨Or.inr rfl, rfl⟩
    have hlt : i + 4 ≤ LL := by omega
    have hn : NXT (rRo LL xs) (fun v _ => v = some (.int 1)) i := by
      intro c' T' sg' pd' im' hI'
      simp only [s_L_law_998, s_L_law_1001, nI_add]
      exact ⟨rfl, ih (i + 4) c' T' sg' pd' im' (by omega) (by omega) hI'⟩
    simp only [s_L_law_26, s_L_law_27, s_L_law_28, s_L_law_29, s_L_law_31, s_L_law_32, sc_rd (show i < LL by omega) hL]
    obtain ⟨k, hk, he⟩ := and31 (xs i)
    rw [he]
    rcases (show k = 0 ∨ k = 1 ∨ k = 2 ∨ k = 3 ∨ k = 4 ∨ k = 5 ∨ k = 6 ∨ k = 7 ∨ k = 8 ∨ k = 9 ∨ k = 10 ∨ k = 11 ∨ k = 12 ∨ k = 13 ∨ k = 14 ∨ k = 15 ∨ k = 16 ∨ k = 17 ∨ k = 18 ∨ k = 19 ∨ k = 20 ∨ k = 21 ∨ k = 22 ∨ k = 23 ∨ k = 24 ∨ k = 25 ∨ k = 26 ∨ k = 27 ∨ k = 28 ∨ k = 29 ∨ k = 30 ∨ k = 31 by omega) with rfl | rfl | rfl | rfl | rfl | rfl | rfl | rfl | rfl | rfl | rfl | rfl | rfl | rfl | rfl | rfl | rfl | rfl | rfl | rfl | rfl | rfl | rfl | rfl | rfl | rfl | rfl | rfl | rfl | rfl | rfl | rfl
    · rw [show rsw 998 0 28 [164, 197, 220, 243, 256, 269, 292, 325, 358, 402, 425, 469, 493, 526, 560, 593, 627, 650, 684, 707, 740, 784, 827, 840, 863, 886, 929, 952, 975] (nI 0) = 164 by decide]
      exact lc_inn hlt hL hn hI
    · rw [show rsw 998 0 28 [164, 197, 220, 243, 256, 269, 292, 325, 358, 402, 425, 469, 493, 526, 560, 593, 627, 650, 684, 707, 740, 784, 827, 840, 863, 886, 929, 952, 975] (nI 1) = 197 by decide]
      exact lc_rule hlt hL hn hI
    · rw [show rsw 998 0 28 [164, 197, 220, 243, 256, 269, 292, 325, 358, 402, 425, 469, 493, 526, 560, 593, 627, 650, 684, 707, 740, 784, 827, 840, 863, 886, 929, 952, 975] (nI 2) = 220 by decide]
      exact lc_say hlt hL hn hI
    · rw [show rsw 998 0 28 [164, 197, 220, 243, 256, 269, 292, 325, 358, 402, 425, 469, 493, 526, 560, 593, 627, 650, 684, 707, 740, 784, 827, 840, 863, 886, 929, 952, 975] (nI 3) = 243 by decide]
      exact lc_wipe hlt hL hn hI
    · rw [show rsw 998 0 28 [164, 197, 220, 243, 256, 269, 292, 325, 358, 402, 425, 469, 493, 526, 560, 593, 627, 650, 684, 707, 740, 784, 827, 840, 863, 886, 929, 952, 975] (nI 4) = 256 by decide]
      exact lc_fault hlt hL hn hI
    · rw [show rsw 998 0 28 [164, 197, 220, 243, 256, 269, 292, 325, 358, 402, 425, 469, 493, 526, 560, 593, 627, 650, 684, 707, 740, 784, 827, 840, 863, 886, 929, 952, 975] (nI 5) = 269 by decide]
      exact lc_wins hlt hL hn hI
    · rw [show rsw 998 0 28 [164, 197, 220, 243, 256, 269, 292, 325, 358, 402, 425, 469, 493, 526, 560, 593, 627, 650, 684, 707, 740, 784, 827, 840, 863, 886, 929, 952, 975] (nI 6) = 292 by decide]
      exact lc_weight hlt hL hn hI
    · rw [show rsw 998 0 28 [164, 197, 220, 243, 256, 269, 292, 325, 358, 402, 425, 469, 493, 526, 560, 593, 627, 650, 684, 707, 740, 784, 827, 840, 863, 886, 929, 952, 975] (nI 7) = 325 by decide]
      exact lc_fool hlt hL hn hI
    · rw [show rsw 998 0 28 [164, 197, 220, 243, 256, 269, 292, 325, 358, 402, 425, 469, 493, 526, 560, 593, 627, 650, 684, 707, 740, 784, 827, 840, 863, 886, 929, 952, 975] (nI 8) = 358 by decide]
      exact lc_worth hlt hL hn hI
    · rw [show rsw 998 0 28 [164, 197, 220, 243, 256, 269, 292, 325, 358, 402, 425, 469, 493, 526, 560, 593, 627, 650, 684, 707, 740, 784, 827, 840, 863, 886, 929, 952, 975] (nI 9) = 402 by decide]
      exact lc_best hlt hL hn hI
    · rw [show rsw 998 0 28 [164, 197, 220, 243, 256, 269, 292, 325, 358, 402, 425, 469, 493, 526, 560, 593, 627, 650, 684, 707, 740, 784, 827, 840, 863, 886, 929, 952, 975] (nI 10) = 425 by decide]
      exact lc_mean hlt hL hn hI
    · rw [show rsw 998 0 28 [164, 197, 220, 243, 256, 269, 292, 325, 358, 402, 425, 469, 493, 526, 560, 593, 627, 650, 684, 707, 740, 784, 827, 840, 863, 886, 929, 952, 975] (nI 11) = 469 by decide]
      exact lc_nobody hlt hL hn hI
    · rw [show rsw 998 0 28 [164, 197, 220, 243, 256, 269, 292, 325, 358, 402, 425, 469, 493, 526, 560, 593, 627, 650, 684, 707, 740, 784, 827, 840, 863, 886, 929, 952, 975] (nI 12) = 493 by decide]
      exact lc_rest hlt hL hn hI
    · rw [show rsw 998 0 28 [164, 197, 220, 243, 256, 269, 292, 325, 358, 402, 425, 469, 493, 526, 560, 593, 627, 650, 684, 707, 740, 784, 827, 840, 863, 886, 929, 952, 975] (nI 13) = 526 by decide]
      exact lc_gap hlt hL hn hI
    · rw [show rsw 998 0 28 [164, 197, 220, 243, 256, 269, 292, 325, 358, 402, 425, 469, 493, 526, 560, 593, 627, 650, 684, 707, 740, 784, 827, 840, 863, 886, 929, 952, 975] (nI 14) = 560 by decide]
      exact lc_friends hlt hL hn hI
    · rw [show rsw 998 0 28 [164, 197, 220, 243, 256, 269, 292, 325, 358, 402, 425, 469, 493, 526, 560, 593, 627, 650, 684, 707, 740, 784, 827, 840, 863, 886, 929, 952, 975] (nI 15) = 593 by decide]
      exact lc_league hlt hL hn hI
    · rw [show rsw 998 0 28 [164, 197, 220, 243, 256, 269, 292, 325, 358, 402, 425, 469, 493, 526, 560, 593, 627, 650, 684, 707, 740, 784, 827, 840, 863, 886, 929, 952, 975] (nI 16) = 627 by decide]
      exact lc_spy hlt hL hn hI
    · rw [show rsw 998 0 28 [164, 197, 220, 243, 256, 269, 292, 325, 358, 402, 425, 469, 493, 526, 560, 593, 627, 650, 684, 707, 740, 784, 827, 840, 863, 886, 929, 952, 975] (nI 17) = 650 by decide]
      exact lc_spied hlt hL hn hI
    · rw [show rsw 998 0 28 [164, 197, 220, 243, 256, 269, 292, 325, 358, 402, 425, 469, 493, 526, 560, 593, 627, 650, 684, 707, 740, 784, 827, 840, 863, 886, 929, 952, 975] (nI 18) = 684 by decide]
      exact lc_steps hlt hL hn hI
    · rw [show rsw 998 0 28 [164, 197, 220, 243, 256, 269, 292, 325, 358, 402, 425, 469, 493, 526, 560, 593, 627, 650, 684, 707, 740, 784, 827, 840, 863, 886, 929, 952, 975] (nI 19) = 707 by decide]
      exact lc_late hlt hL hn hI
    · rw [show rsw 998 0 28 [164, 197, 220, 243, 256, 269, 292, 325, 358, 402, 425, 469, 493, 526, 560, 593, 627, 650, 684, 707, 740, 784, 827, 840, 863, 886, 929, 952, 975] (nI 20) = 740 by decide]
      exact lc_prize hlt hL hn hI
    · rw [show rsw 998 0 28 [164, 197, 220, 243, 256, 269, 292, 325, 358, 402, 425, 469, 493, 526, 560, 593, 627, 650, 684, 707, 740, 784, 827, 840, 863, 886, 929, 952, 975] (nI 21) = 784 by decide]
      exact lc_seen hlt hL hn hI
    · rw [show rsw 998 0 28 [164, 197, 220, 243, 256, 269, 292, 325, 358, 402, 425, 469, 493, 526, 560, 593, 627, 650, 684, 707, 740, 784, 827, 840, 863, 886, 929, 952, 975] (nI 22) = 827 by decide]
      exact lc_forget hlt hL hn hI
    · rw [show rsw 998 0 28 [164, 197, 220, 243, 256, 269, 292, 325, 358, 402, 425, 469, 493, 526, 560, 593, 627, 650, 684, 707, 740, 784, 827, 840, 863, 886, 929, 952, 975] (nI 23) = 840 by decide]
      exact lc_fits hlt hL hn hI
    · rw [show rsw 998 0 28 [164, 197, 220, 243, 256, 269, 292, 325, 358, 402, 425, 469, 493, 526, 560, 593, 627, 650, 684, 707, 740, 784, 827, 840, 863, 886, 929, 952, 975] (nI 24) = 863 by decide]
      exact lc_could hlt hL hn hI
    · rw [show rsw 998 0 28 [164, 197, 220, 243, 256, 269, 292, 325, 358, 402, 425, 469, 493, 526, 560, 593, 627, 650, 684, 707, 740, 784, 827, 840, 863, 886, 929, 952, 975] (nI 25) = 886 by decide]
      exact lc_year hlt hL hn hI
    · rw [show rsw 998 0 28 [164, 197, 220, 243, 256, 269, 292, 325, 358, 402, 425, 469, 493, 526, 560, 593, 627, 650, 684, 707, 740, 784, 827, 840, 863, 886, 929, 952, 975] (nI 26) = 929 by decide]
      exact lc_image hlt hL hn hI
    · rw [show rsw 998 0 28 [164, 197, 220, 243, 256, 269, 292, 325, 358, 402, 425, 469, 493, 526, 560, 593, 627, 650, 684, 707, 740, 784, 827, 840, 863, 886, 929, 952, 975] (nI 27) = 952 by decide]
      exact lc_restore hlt hL hn hI
    · rw [show rsw 998 0 28 [164, 197, 220, 243, 256, 269, 292, 325, 358, 402, 425, 469, 493, 526, 560, 593, 627, 650, 684, 707, 740, 784, 827, 840, 863, 886, 929, 952, 975] (nI 28) = 975 by decide]
      exact lc_told hlt hL hn hI
    · rw [show rsw 998 0 28 [164, 197, 220, 243, 256, 269, 292, 325, 358, 402, 425, 469, 493, 526, 560, 593, 627, 650, 684, 707, 740, 784, 827, 840, 863, 886, 929, 952, 975] (nI 29) = 998 by decide]
      exact hn _ _ _ _ _ hI
    · rw [show rsw 998 0 28 [164, 197, 220, 243, 256, 269, 292, 325, 358, 402, 425, 469, 493, 526, 560, 593, 627, 650, 684, 707, 740, 784, 827, 840, 863, 886, 929, 952, 975] (nI 30) = 998 by decide]
      exact hn _ _ _ _ _ hI
    · rw [show rsw 998 0 28 [164, 197, 220, 243, 256, 269, 292, 325, 358, 402, 425, 469, 493, 526, 560, 593, 627, 650, 684, 707, 740, 784, 827, 840, 863, 886, 929, 952, 975] (nI 31) = 998 by decide]
      exact hn _ _ _ _ _ hI
end LP
theorem law_pure (L : Nat) (xs : Nat → Int32) (hL : L ≤ 2048) : rT (rRo L xs) (rM (rRo L xs) 1000) tb_L_law 70 94894 (fun v _ => v = some (.int 1)) (0, [.ref 1000004, .null, .null, .null], [], [], 0, 0) := by
  refine law_start fun c hC hM => ?_
  show rV (rRo L xs) (fun v _ => v = some (.int 1)) 16 [.ref 1000004, .ref 0, .ref 53, .null] [] (tab c)
  simp only [s_L_law_16, s_L_law_17]
  exact ⟨rfl, law_loop hL L 0 c T0 0 pd0 im0 (by omega) (by omega) ⟨hC, hM, VS0, by decide, fun k T' h => absurd h (by simp [im0])⟩⟩
