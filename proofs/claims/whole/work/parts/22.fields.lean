/-! ===== objects and their fields ===== -/
def mobj (men numbers law sights signs free : Int32) (ru lu : Int64) : rE := obj 9 [.int men, .int numbers, .int law, .ref 54, .ref 55, .int sights, .ref 56, .int signs, .ref 57, .ref 58, .ref 59, .int free, .ref 60, .ref 61, .ref 62, .long ru, .ref 63, .ref 64, .long lu, .ref 65, .ref 66, .ref 67, .ref 68, .ref 69]
def lobj (signs : Int32) : rE := obj 8 [.ref 1, .ref 7, .ref 20, .ref 21, .int signs, .ref 22, .ref 25, .ref 28, .ref 31, .ref 39, .ref 45, .ref 48]
/-- a Table at t: its five rows follow it -/
def tobj (t : Nat) (men numbers law sights : Int32) : rE := obj 6 [.int men, .int numbers, .int law, .ref (t + 1), .ref (t + 2), .ref (t + 3), .ref (t + 4), .ref (t + 5), .int sights]
/-- a Tally at g (class 4 or 7): its two rows follow it -/
def gobj (ci g : Nat) (law numbers free : Int32) : rE := obj ci [.ref (g + 1), .ref (g + 2), .int law, .int numbers, .int free]
section FL
variable {c : Nat → rE} {K : Value → Prop} {KH : rH → Prop} {men numbers law sights signs free x : Int32} {ru lu y : Int64} {t g ci : Nat}
theorem gm0 (h : c 53 = mobj men numbers law sights signs free ru lu) : rGf (tab c) 53 0 [9] K ↔ K (.int men) := gf_o (ci := 9) h (by decide) rfl rfl
theorem gm1 (h : c 53 = mobj men numbers law sights signs free ru lu) : rGf (tab c) 53 1 [9] K ↔ K (.int numbers) := gf_o (ci := 9) h (by decide) rfl rfl
theorem gm2 (h : c 53 = mobj men numbers law sights signs free ru lu) : rGf (tab c) 53 2 [9] K ↔ K (.int law) := gf_o (ci := 9) h (by decide) rfl rfl
theorem gm3 (h : c 53 = mobj men numbers law sights signs free ru lu) : rGf (tab c) 53 3 [9] K ↔ K (.ref 54) := gf_o (ci := 9) h (by decide) rfl rfl
theorem gm4 (h : c 53 = mobj men numbers law sights signs free ru lu) : rGf (tab c) 53 4 [9] K ↔ K (.ref 55) := gf_o (ci := 9) h (by decide) rfl rfl
theorem gm5 (h : c 53 = mobj men numbers law sights signs free ru lu) : rGf (tab c) 53 5 [9] K ↔ K (.int sights) := gf_o (ci := 9) h (by decide) rfl rfl
theorem gm6 (h : c 53 = mobj men numbers law sights signs free ru lu) : rGf (tab c) 53 6 [9] K ↔ K (.ref 56) := gf_o (ci := 9) h (by decide) rfl rfl
theorem gm7 (h : c 53 = mobj men numbers law sights signs free ru lu) : rGf (tab c) 53 7 [9] K ↔ K (.int signs) := gf_o (ci := 9) h (by decide) rfl rfl
theorem gm8 (h : c 53 = mobj men numbers law sights signs free ru lu) : rGf (tab c) 53 8 [9] K ↔ K (.ref 57) := gf_o (ci := 9) h (by decide) rfl rfl
theorem gm9 (h : c 53 = mobj men numbers law sights signs free ru lu) : rGf (tab c) 53 9 [9] K ↔ K (.ref 58) := gf_o (ci := 9) h (by decide) rfl rfl
theorem gm10 (h : c 53 = mobj men numbers law sights signs free ru lu) : rGf (tab c) 53 10 [9] K ↔ K (.ref 59) := gf_o (ci := 9) h (by decide) rfl rfl
theorem gm11 (h : c 53 = mobj men numbers law sights signs free ru lu) : rGf (tab c) 53 11 [9] K ↔ K (.int free) := gf_o (ci := 9) h (by decide) rfl rfl
theorem gm12 (h : c 53 = mobj men numbers law sights signs free ru lu) : rGf (tab c) 53 12 [9] K ↔ K (.ref 60) := gf_o (ci := 9) h (by decide) rfl rfl
theorem gm13 (h : c 53 = mobj men numbers law sights signs free ru lu) : rGf (tab c) 53 13 [9] K ↔ K (.ref 61) := gf_o (ci := 9) h (by decide) rfl rfl
theorem gm14 (h : c 53 = mobj men numbers law sights signs free ru lu) : rGf (tab c) 53 14 [9] K ↔ K (.ref 62) := gf_o (ci := 9) h (by decide) rfl rfl
theorem gm15 (h : c 53 = mobj men numbers law sights signs free ru lu) : rGf (tab c) 53 15 [9] K ↔ K (.long ru) := gf_o (ci := 9) h (by decide) rfl rfl
theorem gm16 (h : c 53 = mobj men numbers law sights signs free ru lu) : rGf (tab c) 53 16 [9] K ↔ K (.ref 63) := gf_o (ci := 9) h (by decide) rfl rfl
theorem gm17 (h : c 53 = mobj men numbers law sights signs free ru lu) : rGf (tab c) 53 17 [9] K ↔ K (.ref 64) := gf_o (ci := 9) h (by decide) rfl rfl
theorem gm18 (h : c 53 = mobj men numbers law sights signs free ru lu) : rGf (tab c) 53 18 [9] K ↔ K (.long lu) := gf_o (ci := 9) h (by decide) rfl rfl
theorem gm19 (h : c 53 = mobj men numbers law sights signs free ru lu) : rGf (tab c) 53 19 [9] K ↔ K (.ref 65) := gf_o (ci := 9) h (by decide) rfl rfl
theorem gm20 (h : c 53 = mobj men numbers law sights signs free ru lu) : rGf (tab c) 53 20 [9] K ↔ K (.ref 66) := gf_o (ci := 9) h (by decide) rfl rfl
theorem gm21 (h : c 53 = mobj men numbers law sights signs free ru lu) : rGf (tab c) 53 21 [9] K ↔ K (.ref 67) := gf_o (ci := 9) h (by decide) rfl rfl
theorem gm22 (h : c 53 = mobj men numbers law sights signs free ru lu) : rGf (tab c) 53 22 [9] K ↔ K (.ref 68) := gf_o (ci := 9) h (by decide) rfl rfl
theorem gm23 (h : c 53 = mobj men numbers law sights signs free ru lu) : rGf (tab c) 53 23 [9] K ↔ K (.ref 69) := gf_o (ci := 9) h (by decide) rfl rfl
theorem pm0 (h : c 53 = mobj men numbers law sights signs free ru lu) : rPf (tab c) 53 [0, 0, 0, 9] (.int x) KH ↔ KH (tab (fup c 53 (mobj x numbers law sights signs free ru lu))) := pf_o (ci := 9) h (by decide) rfl rfl
theorem pm1 (h : c 53 = mobj men numbers law sights signs free ru lu) : rPf (tab c) 53 [1, 0, 0, 9] (.int x) KH ↔ KH (tab (fup c 53 (mobj men x law sights signs free ru lu))) := pf_o (ci := 9) h (by decide) rfl rfl
theorem pm2 (h : c 53 = mobj men numbers law sights signs free ru lu) : rPf (tab c) 53 [2, 0, 0, 9] (.int x) KH ↔ KH (tab (fup c 53 (mobj men numbers x sights signs free ru lu))) := pf_o (ci := 9) h (by decide) rfl rfl
theorem pm5 (h : c 53 = mobj men numbers law sights signs free ru lu) : rPf (tab c) 53 [5, 0, 0, 9] (.int x) KH ↔ KH (tab (fup c 53 (mobj men numbers law x signs free ru lu))) := pf_o (ci := 9) h (by decide) rfl rfl
theorem pm7 (h : c 53 = mobj men numbers law sights signs free ru lu) : rPf (tab c) 53 [7, 0, 0, 9] (.int x) KH ↔ KH (tab (fup c 53 (mobj men numbers law sights x free ru lu))) := pf_o (ci := 9) h (by decide) rfl rfl
theorem pm11 (h : c 53 = mobj men numbers law sights signs free ru lu) : rPf (tab c) 53 [11, 0, 0, 9] (.int x) KH ↔ KH (tab (fup c 53 (mobj men numbers law sights signs x ru lu))) := pf_o (ci := 9) h (by decide) rfl rfl
theorem pm15 (h : c 53 = mobj men numbers law sights signs free ru lu) : rPf (tab c) 53 [15, 0, 1, 9] (.long y) KH ↔ KH (tab (fup c 53 (mobj men numbers law sights signs free y lu))) := pf_o (ci := 9) h (by decide) rfl rfl
theorem pm18 (h : c 53 = mobj men numbers law sights signs free ru lu) : rPf (tab c) 53 [18, 0, 1, 9] (.long y) KH ↔ KH (tab (fup c 53 (mobj men numbers law sights signs free ru y))) := pf_o (ci := 9) h (by decide) rfl rfl
theorem gl0 (h : c 0 = lobj signs) : rGf (tab c) 0 0 [8] K ↔ K (.ref 1) := gf_o (ci := 8) h (by decide) rfl rfl
theorem gl1 (h : c 0 = lobj signs) : rGf (tab c) 0 1 [8] K ↔ K (.ref 7) := gf_o (ci := 8) h (by decide) rfl rfl
theorem gl2 (h : c 0 = lobj signs) : rGf (tab c) 0 2 [8] K ↔ K (.ref 20) := gf_o (ci := 8) h (by decide) rfl rfl
theorem gl3 (h : c 0 = lobj signs) : rGf (tab c) 0 3 [8] K ↔ K (.ref 21) := gf_o (ci := 8) h (by decide) rfl rfl
theorem gl4 (h : c 0 = lobj signs) : rGf (tab c) 0 4 [8] K ↔ K (.int signs) := gf_o (ci := 8) h (by decide) rfl rfl
theorem gl5 (h : c 0 = lobj signs) : rGf (tab c) 0 5 [8] K ↔ K (.ref 22) := gf_o (ci := 8) h (by decide) rfl rfl
theorem gl6 (h : c 0 = lobj signs) : rGf (tab c) 0 6 [8] K ↔ K (.ref 25) := gf_o (ci := 8) h (by decide) rfl rfl
theorem gl7 (h : c 0 = lobj signs) : rGf (tab c) 0 7 [8] K ↔ K (.ref 28) := gf_o (ci := 8) h (by decide) rfl rfl
theorem gl8 (h : c 0 = lobj signs) : rGf (tab c) 0 8 [8] K ↔ K (.ref 31) := gf_o (ci := 8) h (by decide) rfl rfl
theorem gl9 (h : c 0 = lobj signs) : rGf (tab c) 0 9 [8] K ↔ K (.ref 39) := gf_o (ci := 8) h (by decide) rfl rfl
theorem gl10 (h : c 0 = lobj signs) : rGf (tab c) 0 10 [8] K ↔ K (.ref 45) := gf_o (ci := 8) h (by decide) rfl rfl
theorem gl11 (h : c 0 = lobj signs) : rGf (tab c) 0 11 [8] K ↔ K (.ref 48) := gf_o (ci := 8) h (by decide) rfl rfl
theorem pl4 (h : c 0 = lobj signs) : rPf (tab c) 0 [4, 0, 0, 8] (.int x) KH ↔ KH (tab (fup c 0 (lobj x))) := pf_o (ci := 8) h (by decide) rfl rfl
theorem gt0 (h : c t = tobj t men numbers law sights) (ht : t < 70) : rGf (tab c) t 0 [6] K ↔ K (.int men) := gf_o (ci := 6) h ht rfl rfl
theorem gt1 (h : c t = tobj t men numbers law sights) (ht : t < 70) : rGf (tab c) t 1 [6] K ↔ K (.int numbers) := gf_o (ci := 6) h ht rfl rfl
theorem gt2 (h : c t = tobj t men numbers law sights) (ht : t < 70) : rGf (tab c) t 2 [6] K ↔ K (.int law) := gf_o (ci := 6) h ht rfl rfl
theorem gt3 (h : c t = tobj t men numbers law sights) (ht : t < 70) : rGf (tab c) t 3 [6] K ↔ K (.ref (t + 1)) := gf_o (ci := 6) h ht rfl rfl
theorem gt4 (h : c t = tobj t men numbers law sights) (ht : t < 70) : rGf (tab c) t 4 [6] K ↔ K (.ref (t + 2)) := gf_o (ci := 6) h ht rfl rfl
theorem gt5 (h : c t = tobj t men numbers law sights) (ht : t < 70) : rGf (tab c) t 5 [6] K ↔ K (.ref (t + 3)) := gf_o (ci := 6) h ht rfl rfl
theorem gt6 (h : c t = tobj t men numbers law sights) (ht : t < 70) : rGf (tab c) t 6 [6] K ↔ K (.ref (t + 4)) := gf_o (ci := 6) h ht rfl rfl
theorem gt7 (h : c t = tobj t men numbers law sights) (ht : t < 70) : rGf (tab c) t 7 [6] K ↔ K (.ref (t + 5)) := gf_o (ci := 6) h ht rfl rfl
theorem gt8 (h : c t = tobj t men numbers law sights) (ht : t < 70) : rGf (tab c) t 8 [6] K ↔ K (.int sights) := gf_o (ci := 6) h ht rfl rfl
theorem pt0 (h : c t = tobj t men numbers law sights) (ht : t < 70) : rPf (tab c) t [0, 0, 0, 6] (.int x) KH ↔ KH (tab (fup c t (tobj t x numbers law sights))) := pf_o (ci := 6) h ht rfl rfl
theorem pt1 (h : c t = tobj t men numbers law sights) (ht : t < 70) : rPf (tab c) t [1, 0, 0, 6] (.int x) KH ↔ KH (tab (fup c t (tobj t men x law sights))) := pf_o (ci := 6) h ht rfl rfl
theorem pt2 (h : c t = tobj t men numbers law sights) (ht : t < 70) : rPf (tab c) t [2, 0, 0, 6] (.int x) KH ↔ KH (tab (fup c t (tobj t men numbers x sights))) := pf_o (ci := 6) h ht rfl rfl
theorem pt8 (h : c t = tobj t men numbers law sights) (ht : t < 70) : rPf (tab c) t [8, 0, 0, 6] (.int x) KH ↔ KH (tab (fup c t (tobj t men numbers law x))) := pf_o (ci := 6) h ht rfl rfl
theorem gg0 {cs : List Nat} (h : c g = gobj ci g law numbers free) (hg : g < 70) (hc : cs.contains ci = true) : rGf (tab c) g 0 cs K ↔ K (.ref (g + 1)) := gf_o (ci := ci) h hg hc rfl
theorem gg1 {cs : List Nat} (h : c g = gobj ci g law numbers free) (hg : g < 70) (hc : cs.contains ci = true) : rGf (tab c) g 1 cs K ↔ K (.ref (g + 2)) := gf_o (ci := ci) h hg hc rfl
theorem gg2 {cs : List Nat} (h : c g = gobj ci g law numbers free) (hg : g < 70) (hc : cs.contains ci = true) : rGf (tab c) g 2 cs K ↔ K (.int law) := gf_o (ci := ci) h hg hc rfl
theorem gg3 {cs : List Nat} (h : c g = gobj ci g law numbers free) (hg : g < 70) (hc : cs.contains ci = true) : rGf (tab c) g 3 cs K ↔ K (.int numbers) := gf_o (ci := ci) h hg hc rfl
theorem gg4 {cs : List Nat} (h : c g = gobj ci g law numbers free) (hg : g < 70) (hc : cs.contains ci = true) : rGf (tab c) g 4 cs K ↔ K (.int free) := gf_o (ci := ci) h hg hc rfl
theorem pg2 {cs : List Nat} (h : c g = gobj ci g law numbers free) (hg : g < 70) (hc : cs.contains ci = true) : rPf (tab c) g (2 :: 0 :: 0 :: cs) (.int x) KH ↔ KH (tab (fup c g (gobj ci g x numbers free))) := pf_o (ci := ci) h hg (by rw [hc]; rfl) rfl
theorem pg3 {cs : List Nat} (h : c g = gobj ci g law numbers free) (hg : g < 70) (hc : cs.contains ci = true) : rPf (tab c) g (3 :: 0 :: 0 :: cs) (.int x) KH ↔ KH (tab (fup c g (gobj ci g law x free))) := pf_o (ci := ci) h hg (by rw [hc]; rfl) rfl
theorem pg4 {cs : List Nat} (h : c g = gobj ci g law numbers free) (hg : g < 70) (hc : cs.contains ci = true) : rPf (tab c) g (4 :: 0 :: 0 :: cs) (.int x) KH ↔ KH (tab (fup c g (gobj ci g law numbers x))) := pf_o (ci := ci) h hg (by rw [hc]; rfl) rfl
variable {ro : rQ} {d f f2 : Nat} {As : List Value} {R : rR}
theorem vm_o (h : c 53 = mobj men numbers law sights signs free ru lu) : rVc ro d [9, f] 53 As (tab c) R ↔ rM ro d f 0 0 (.ref 53 :: As) (tab c) R := vc_o (ci := 9) h (by decide) rfl
theorem vl_o (h : c 0 = lobj signs) : rVc ro d [8, f] 0 As (tab c) R ↔ rM ro d f 0 0 (.ref 0 :: As) (tab c) R := vc_o (ci := 8) h (by decide) rfl
theorem vt_o (h : c t = tobj t men numbers law sights) (ht : t < 70) : rVc ro d [6, f] t As (tab c) R ↔ rM ro d f 0 0 (.ref t :: As) (tab c) R := vc_o (ci := 6) h ht rfl
theorem vg4 (h : c g = gobj 4 g law numbers free) (hg : g < 70) : rVc ro d [4, f] g As (tab c) R ↔ rM ro d f 0 0 (.ref g :: As) (tab c) R := vc_o (ci := 4) h hg rfl
theorem vg7 (h : c g = gobj 7 g law numbers free) (hg : g < 70) : rVc ro d [7, f] g As (tab c) R ↔ rM ro d f 0 0 (.ref g :: As) (tab c) R := vc_o (ci := 7) h hg rfl
theorem vgT4 (h : c g = gobj 4 g law numbers free) (hg : g < 70) : rVc ro d [4, f, 7, f2] g As (tab c) R ↔ rM ro d f 0 0 (.ref g :: As) (tab c) R := vc_o (ci := 4) h hg rfl
theorem vgT7 (h : c g = gobj 7 g law numbers free) (hg : g < 70) : rVc ro d [4, f, 7, f2] g As (tab c) R ↔ rM ro d f2 0 0 (.ref g :: As) (tab c) R := vc_o (ci := 7) h hg rfl
end FL
