/-! ===== the law's body as rewrite rules, behind what it makes ===== -/
def rV (ro : rQ) (R : rR) (pc : Nat) (L st : List Value) (h : rH) : Prop := rT ro (rM ro 1000) tb_L_law 70 94894 R (pc, L, st, h, 70, 94894)
theorem rV_iff {ro : rQ} {R : rR} {pc : Nat} {L st : List Value} {h : rH} : rV ro R pc L st h ↔ rstp (rM ro 1000) R (rnext ro tb_L_law 70 94894 (pc, L, st, h, 70, 94894)) (fun c => rT ro (rM ro 1000) tb_L_law 70 94894 R c) := rT_iff (rM_mono ro 1000)
section VR
variable {ro : rQ} {R : rR} {pc pc' : Nat} {L st : List Value} {h : rH} {r : Nat} {i x : Int32}
theorem v_ai (hn : rnext ro tb_L_law 70 94894 (pc, L, .int i :: .ref r :: st, h, 70, 94894) = raldI ro L (.int i :: .ref r :: st) h 70 94894 pc') : rV ro R pc L (.int i :: .ref r :: st) h ↔ rAi ro h r i (fun v => rV ro R pc' L (.int v :: st) h) := by
  rw [rV_iff, hn]
  unfold raldI rAi
  simp only
  generalize rgetI ro h r = o
  rcases o with _ | ⟨n, f⟩ <;> exact Iff.rfl
theorem v_ln (hn : rnext ro tb_L_law 70 94894 (pc, L, .ref r :: st, h, 70, 94894) = ralen ro L (.ref r :: st) h 70 94894 pc') : rV ro R pc L (.ref r :: st) h ↔ rLn ro h r (fun v => rV ro R pc' L (.int v :: st) h) := by
  rw [rV_iff, hn]
  unfold ralen rLn
  simp only
  generalize rgetI ro h r = o
  rcases o with _ | ⟨n, f⟩ <;> exact Iff.rfl
theorem v_vc {As rest : List Value} {kd n : Nat} {ps : List Nat} {st0 : List Value} (hn : (rnext ro tb_L_law 70 94894 (pc, L, st0, h, 70, 94894), rpop n st0 []) = (rvirt 70 94894 (kd :: n :: ps) L st0 h 70 94894 pc', some (As, .ref r :: rest))) (hw : rwd rest = true := by rfl) : rV ro R pc L st0 h ↔ rVc ro 1000 ps r As h (fun v h => rV ro R pc' L (v.toList ++ rest) h) := by
  obtain ⟨h1, h2⟩ := Prod.mk.inj hn
  rw [rV_iff, h1]
  unfold rvirt rVc
  simp only [h2]
  generalize ho : h[r]? = o
  rcases o with _ | (a | ⟨ci, fs⟩)
  · exact Iff.rfl
  · exact Iff.rfl
  · simp only
    generalize rlook ps ci = w
    rcases w with _ | f
    · exact Iff.rfl
    · simp only
      unfold rinv
      rw [hw]
      exact Iff.rfl
theorem v_st {i : Nat} (hn : rnext ro tb_L_law 70 94894 (pc, L, .int x :: st, h, 70, 94894) = rstore L (.int x :: st) h 70 94894 pc' i) : rV ro R pc L (.int x :: st) h ↔ rcl L i = true ∧ rV ro R pc' (L.set i (.int x)) st h := by
  rw [rV_iff, hn]
  unfold rstore
  simp only
  cases rcl L i
  · exact ⟨fun h => False.elim h, fun h => by cases h.1⟩
  · exact ⟨fun h => ⟨rfl, h⟩, fun h => h.2⟩
theorem v_inc {i : Nat} {n : Int32} (hn : (rnext ro tb_L_law 70 94894 (pc, L, st, h, 70, 94894), L[i]?) = (rinc L st h 70 94894 pc' i n, some (.int x))) : rV ro R pc L st h ↔ rcl L i = true ∧ rV ro R pc' (L.set i (.int (x + n))) st h := by
  obtain ⟨h1, h2⟩ := Prod.mk.inj hn
  rw [rV_iff, h1]
  unfold rinc
  rw [h2]
  simp only
  cases rcl L i
  · exact ⟨fun h => False.elim h, fun h => by cases h.1⟩
  · exact ⟨fun h => ⟨rfl, h⟩, fun h => h.2⟩
theorem v_retz {x : Int32} (hn : rnext ro tb_L_law 70 94894 (pc, L, st, h, 70, 94894) = some (.inr (.inr (.inr (.inr (x = 0 ∨ x = 1, some (.int x), h)))))) : rV ro R pc L st h ↔ (x = 0 ∨ x = 1) ∧ R (some (.int x)) h := by
  rw [rV_iff, hn]
  exact Iff.rfl
end VR
theorem s_L_law_16 {ro : rQ} {R : rR} {h : rH}  {L : List Value} : rV ro R 16 L [] h ↔ rV ro R 17 L [.int (nI 0)] h := (rV_iff)
theorem s_L_law_17 {ro : rQ} {R : rR} {h : rH} {s0 : Int32} {l0 l1 l2 l3 : Value} : rV ro R 17 [l0, l1, l2, l3] [.int s0] h ↔ rcl [l0, l1, l2, l3] 3 = true ∧ rV ro R 18 [l0, l1, l2, .int s0] [] h := (v_st rfl)
theorem s_L_law_18 {ro : rQ} {R : rR} {h : rH}  {x : Int32} {l0 l1 l2 : Value} : rV ro R 18 [l0, l1, l2, .int x] [] h ↔ rV ro R 19 [l0, l1, l2, .int x] [.int x] h := (rV_iff)
theorem s_L_law_19 {ro : rQ} {R : rR} {h : rH} {s0 : Int32} {x : Nat} {l1 l2 l3 : Value} : rV ro R 19 [.ref x, l1, l2, l3] [.int s0] h ↔ rV ro R 20 [.ref x, l1, l2, l3] [.ref x, .int s0] h := (rV_iff)
theorem s_L_law_20 {ro : rQ} {R : rR} {h : rH} {s0 : Nat} {s1 : Int32} {L : List Value} : rV ro R 20 L [.ref s0, .int s1] h ↔ rLn ro h s0 (fun v => rV ro R 21 L [.int v, .int s1] h) := (v_ln rfl)
theorem s_L_law_21 {ro : rQ} {R : rR} {h : rH} {s0 : Int32} {s1 : Int32} {L : List Value} : rV ro R 21 L [.int s0, .int s1] h ↔ rV ro R 22 L [.int (nI 4), .int s0, .int s1] h := (rV_iff)
theorem s_L_law_22 {ro : rQ} {R : rR} {h : rH} {s0 : Int32} {s1 : Int32} {s2 : Int32} {L : List Value} : rV ro R 22 L [.int s0, .int s1, .int s2] h ↔ rV ro R 23 L [.int (s1 - s0), .int s2] h := (rV_iff)
theorem s_L_law_23 {ro : rQ} {R : rR} {h : rH} {s0 : Int32} {s1 : Int32} {L : List Value} : rV ro R 23 L [.int s0, .int s1] h ↔ (s0 < s1 → rV ro R 1004 L [] h) ∧ (¬ s0 < s1 → rV ro R 26 L [] h) := (rV_iff)
theorem s_L_law_26 {ro : rQ} {R : rR} {h : rH}  {x : Nat} {l1 l2 l3 : Value} : rV ro R 26 [.ref x, l1, l2, l3] [] h ↔ rV ro R 27 [.ref x, l1, l2, l3] [.ref x] h := (rV_iff)
theorem s_L_law_27 {ro : rQ} {R : rR} {h : rH} {s0 : Nat} {x : Int32} {l0 l1 l2 : Value} : rV ro R 27 [l0, l1, l2, .int x] [.ref s0] h ↔ rV ro R 28 [l0, l1, l2, .int x] [.int x, .ref s0] h := (rV_iff)
theorem s_L_law_28 {ro : rQ} {R : rR} {h : rH} {s0 : Int32} {s1 : Nat} {L : List Value} : rV ro R 28 L [.int s0, .ref s1] h ↔ rAi ro h s1 s0 (fun v => rV ro R 29 L [.int v] h) := (v_ai rfl)
theorem s_L_law_29 {ro : rQ} {R : rR} {h : rH} {s0 : Int32} {L : List Value} : rV ro R 29 L [.int s0] h ↔ rV ro R 31 L [.int (nI 31), .int s0] h := (rV_iff)
theorem s_L_law_31 {ro : rQ} {R : rR} {h : rH} {s0 : Int32} {s1 : Int32} {L : List Value} : rV ro R 31 L [.int s0, .int s1] h ↔ rV ro R 32 L [.int (s1 &&& s0)] h := (rV_iff)
theorem s_L_law_32 {ro : rQ} {R : rR} {h : rH} {s0 : Int32} {L : List Value} : rV ro R 32 L [.int s0] h ↔ rV ro R (rsw 998 0 28 [164, 197, 220, 243, 256, 269, 292, 325, 358, 402, 425, 469, 493, 526, 560, 593, 627, 650, 684, 707, 740, 784, 827, 840, 863, 886, 929, 952, 975] s0) L [] h := (rV_iff)
theorem s_L_law_164 {ro : rQ} {R : rR} {h : rH}  {x : Nat} {l0 l2 l3 : Value} : rV ro R 164 [l0, .ref x, l2, l3] [] h ↔ rV ro R 165 [l0, .ref x, l2, l3] [.ref x] h := (rV_iff)
theorem s_L_law_165 {ro : rQ} {R : rR} {h : rH} {s0 : Nat} {x : Nat} {l1 l2 l3 : Value} : rV ro R 165 [.ref x, l1, l2, l3] [.ref s0] h ↔ rV ro R 166 [.ref x, l1, l2, l3] [.ref x, .ref s0] h := (rV_iff)
theorem s_L_law_166 {ro : rQ} {R : rR} {h : rH} {s0 : Nat} {s1 : Nat} {x : Int32} {l0 l1 l2 : Value} : rV ro R 166 [l0, l1, l2, .int x] [.ref s0, .ref s1] h ↔ rV ro R 167 [l0, l1, l2, .int x] [.int x, .ref s0, .ref s1] h := (rV_iff)
theorem s_L_law_167 {ro : rQ} {R : rR} {h : rH} {s0 : Int32} {s1 : Nat} {s2 : Nat} {L : List Value} : rV ro R 167 L [.int s0, .ref s1, .ref s2] h ↔ rV ro R 168 L [.int (nI 1), .int s0, .ref s1, .ref s2] h := (rV_iff)
theorem s_L_law_168 {ro : rQ} {R : rR} {h : rH} {s0 : Int32} {s1 : Int32} {s2 : Nat} {s3 : Nat} {L : List Value} : rV ro R 168 L [.int s0, .int s1, .ref s2, .ref s3] h ↔ rV ro R 169 L [.int (s1 + s0), .ref s2, .ref s3] h := (rV_iff)
theorem s_L_law_169 {ro : rQ} {R : rR} {h : rH} {s0 : Int32} {s1 : Nat} {s2 : Nat} {L : List Value} : rV ro R 169 L [.int s0, .ref s1, .ref s2] h ↔ rAi ro h s1 s0 (fun v => rV ro R 170 L [.int v, .ref s2] h) := (v_ai rfl)
theorem s_L_law_170 {ro : rQ} {R : rR} {h : rH} {s0 : Int32} {s1 : Nat} {x : Nat} {l1 l2 l3 : Value} : rV ro R 170 [.ref x, l1, l2, l3] [.int s0, .ref s1] h ↔ rV ro R 171 [.ref x, l1, l2, l3] [.ref x, .int s0, .ref s1] h := (rV_iff)
theorem s_L_law_171 {ro : rQ} {R : rR} {h : rH} {s0 : Nat} {s1 : Int32} {s2 : Nat} {x : Int32} {l0 l1 l2 : Value} : rV ro R 171 [l0, l1, l2, .int x] [.ref s0, .int s1, .ref s2] h ↔ rV ro R 172 [l0, l1, l2, .int x] [.int x, .ref s0, .int s1, .ref s2] h := (rV_iff)
theorem s_L_law_172 {ro : rQ} {R : rR} {h : rH} {s0 : Int32} {s1 : Nat} {s2 : Int32} {s3 : Nat} {L : List Value} : rV ro R 172 L [.int s0, .ref s1, .int s2, .ref s3] h ↔ rV ro R 173 L [.int (nI 2), .int s0, .ref s1, .int s2, .ref s3] h := (rV_iff)
theorem s_L_law_173 {ro : rQ} {R : rR} {h : rH} {s0 : Int32} {s1 : Int32} {s2 : Nat} {s3 : Int32} {s4 : Nat} {L : List Value} : rV ro R 173 L [.int s0, .int s1, .ref s2, .int s3, .ref s4] h ↔ rV ro R 174 L [.int (s1 + s0), .ref s2, .int s3, .ref s4] h := (rV_iff)
theorem s_L_law_174 {ro : rQ} {R : rR} {h : rH} {s0 : Int32} {s1 : Nat} {s2 : Int32} {s3 : Nat} {L : List Value} : rV ro R 174 L [.int s0, .ref s1, .int s2, .ref s3] h ↔ rAi ro h s1 s0 (fun v => rV ro R 175 L [.int v, .int s2, .ref s3] h) := (v_ai rfl)
theorem s_L_law_175 {ro : rQ} {R : rR} {h : rH} {s0 : Int32} {s1 : Int32} {s2 : Nat} {L : List Value} : rV ro R 175 L [.int s0, .int s1, .ref s2] h ↔ rVc ro 1000 [8, 45] s2 [.int s1, .int s0] h (fun r h => rV ro R 178 L (r.toList ++ []) h) := (v_vc (kd := 0) (n := 2) rfl)
theorem s_L_law_178 {ro : rQ} {R : rR} {h : rH} {s0 : Int32} {x : Nat} {l0 l1 l3 : Value} : rV ro R 178 [l0, l1, .ref x, l3] [.int s0] h ↔ rV ro R 179 [l0, l1, .ref x, l3] [.ref x, .int s0] h := (rV_iff)
theorem s_L_law_179 {ro : rQ} {R : rR} {h : rH} {s0 : Nat} {s1 : Int32} {x : Nat} {l1 l2 l3 : Value} : rV ro R 179 [.ref x, l1, l2, l3] [.ref s0, .int s1] h ↔ rV ro R 180 [.ref x, l1, l2, l3] [.ref x, .ref s0, .int s1] h := (rV_iff)
theorem s_L_law_180 {ro : rQ} {R : rR} {h : rH} {s0 : Nat} {s1 : Nat} {s2 : Int32} {x : Int32} {l0 l1 l2 : Value} : rV ro R 180 [l0, l1, l2, .int x] [.ref s0, .ref s1, .int s2] h ↔ rV ro R 181 [l0, l1, l2, .int x] [.int x, .ref s0, .ref s1, .int s2] h := (rV_iff)
theorem s_L_law_181 {ro : rQ} {R : rR} {h : rH} {s0 : Int32} {s1 : Nat} {s2 : Nat} {s3 : Int32} {L : List Value} : rV ro R 181 L [.int s0, .ref s1, .ref s2, .int s3] h ↔ rV ro R 182 L [.int (nI 1), .int s0, .ref s1, .ref s2, .int s3] h := (rV_iff)
theorem s_L_law_182 {ro : rQ} {R : rR} {h : rH} {s0 : Int32} {s1 : Int32} {s2 : Nat} {s3 : Nat} {s4 : Int32} {L : List Value} : rV ro R 182 L [.int s0, .int s1, .ref s2, .ref s3, .int s4] h ↔ rV ro R 183 L [.int (s1 + s0), .ref s2, .ref s3, .int s4] h := (rV_iff)
theorem s_L_law_183 {ro : rQ} {R : rR} {h : rH} {s0 : Int32} {s1 : Nat} {s2 : Nat} {s3 : Int32} {L : List Value} : rV ro R 183 L [.int s0, .ref s1, .ref s2, .int s3] h ↔ rAi ro h s1 s0 (fun v => rV ro R 184 L [.int v, .ref s2, .int s3] h) := (v_ai rfl)
theorem s_L_law_184 {ro : rQ} {R : rR} {h : rH} {s0 : Int32} {s1 : Nat} {s2 : Int32} {x : Nat} {l1 l2 l3 : Value} : rV ro R 184 [.ref x, l1, l2, l3] [.int s0, .ref s1, .int s2] h ↔ rV ro R 185 [.ref x, l1, l2, l3] [.ref x, .int s0, .ref s1, .int s2] h := (rV_iff)
theorem s_L_law_185 {ro : rQ} {R : rR} {h : rH} {s0 : Nat} {s1 : Int32} {s2 : Nat} {s3 : Int32} {x : Int32} {l0 l1 l2 : Value} : rV ro R 185 [l0, l1, l2, .int x] [.ref s0, .int s1, .ref s2, .int s3] h ↔ rV ro R 186 [l0, l1, l2, .int x] [.int x, .ref s0, .int s1, .ref s2, .int s3] h := (rV_iff)
theorem s_L_law_186 {ro : rQ} {R : rR} {h : rH} {s0 : Int32} {s1 : Nat} {s2 : Int32} {s3 : Nat} {s4 : Int32} {L : List Value} : rV ro R 186 L [.int s0, .ref s1, .int s2, .ref s3, .int s4] h ↔ rV ro R 187 L [.int (nI 2), .int s0, .ref s1, .int s2, .ref s3, .int s4] h := (rV_iff)
theorem s_L_law_187 {ro : rQ} {R : rR} {h : rH} {s0 : Int32} {s1 : Int32} {s2 : Nat} {s3 : Int32} {s4 : Nat} {s5 : Int32} {L : List Value} : rV ro R 187 L [.int s0, .int s1, .ref s2, .int s3, .ref s4, .int s5] h ↔ rV ro R 188 L [.int (s1 + s0), .ref s2, .int s3, .ref s4, .int s5] h := (rV_iff)
theorem s_L_law_188 {ro : rQ} {R : rR} {h : rH} {s0 : Int32} {s1 : Nat} {s2 : Int32} {s3 : Nat} {s4 : Int32} {L : List Value} : rV ro R 188 L [.int s0, .ref s1, .int s2, .ref s3, .int s4] h ↔ rAi ro h s1 s0 (fun v => rV ro R 189 L [.int v, .int s2, .ref s3, .int s4] h) := (v_ai rfl)
theorem s_L_law_189 {ro : rQ} {R : rR} {h : rH} {s0 : Int32} {s1 : Int32} {s2 : Nat} {s3 : Int32} {L : List Value} : rV ro R 189 L [.int s0, .int s1, .ref s2, .int s3] h ↔ rVc ro 1000 [9, 104] s2 [.int s1, .int s0] h (fun r h => rV ro R 192 L (r.toList ++ [.int s3]) h) := (v_vc (kd := 0) (n := 2) rfl)
theorem s_L_law_192 {ro : rQ} {R : rR} {h : rH} {s0 : Int32} {s1 : Int32} {L : List Value} : rV ro R 192 L [.int s0, .int s1] h ↔ (s1 = s0 → rV ro R 998 L [] h) ∧ (¬ s1 = s0 → rV ro R 195 L [] h) := (rV_iff)
theorem s_L_law_195 {ro : rQ} {R : rR} {h : rH}  {L : List Value} : rV ro R 195 L [] h ↔ rV ro R 196 L [.int (nI 0)] h := (rV_iff)
theorem s_L_law_196 {ro : rQ} {R : rR} {h : rH} {s0 : Int32} {L : List Value} : rV ro R 196 L [.int s0] h ↔ (s0 = 0 ∨ s0 = 1) ∧ R (some (.int s0)) h := (v_retz rfl)
theorem s_L_law_197 {ro : rQ} {R : rR} {h : rH}  {x : Nat} {l0 l2 l3 : Value} : rV ro R 197 [l0, .ref x, l2, l3] [] h ↔ rV ro R 198 [l0, .ref x, l2, l3] [.ref x] h := (rV_iff)
theorem s_L_law_198 {ro : rQ} {R : rR} {h : rH} {s0 : Nat} {x : Nat} {l1 l2 l3 : Value} : rV ro R 198 [.ref x, l1, l2, l3] [.ref s0] h ↔ rV ro R 199 [.ref x, l1, l2, l3] [.ref x, .ref s0] h := (rV_iff)
theorem s_L_law_199 {ro : rQ} {R : rR} {h : rH} {s0 : Nat} {s1 : Nat} {x : Int32} {l0 l1 l2 : Value} : rV ro R 199 [l0, l1, l2, .int x] [.ref s0, .ref s1] h ↔ rV ro R 200 [l0, l1, l2, .int x] [.int x, .ref s0, .ref s1] h := (rV_iff)
theorem s_L_law_200 {ro : rQ} {R : rR} {h : rH} {s0 : Int32} {s1 : Nat} {s2 : Nat} {L : List Value} : rV ro R 200 L [.int s0, .ref s1, .ref s2] h ↔ rV ro R 201 L [.int (nI 1), .int s0, .ref s1, .ref s2] h := (rV_iff)
theorem s_L_law_201 {ro : rQ} {R : rR} {h : rH} {s0 : Int32} {s1 : Int32} {s2 : Nat} {s3 : Nat} {L : List Value} : rV ro R 201 L [.int s0, .int s1, .ref s2, .ref s3] h ↔ rV ro R 202 L [.int (s1 + s0), .ref s2, .ref s3] h := (rV_iff)
theorem s_L_law_202 {ro : rQ} {R : rR} {h : rH} {s0 : Int32} {s1 : Nat} {s2 : Nat} {L : List Value} : rV ro R 202 L [.int s0, .ref s1, .ref s2] h ↔ rAi ro h s1 s0 (fun v => rV ro R 203 L [.int v, .ref s2] h) := (v_ai rfl)
theorem s_L_law_203 {ro : rQ} {R : rR} {h : rH} {s0 : Int32} {s1 : Nat} {L : List Value} : rV ro R 203 L [.int s0, .ref s1] h ↔ rVc ro 1000 [8, 46] s1 [.int s0] h (fun r h => rV ro R 206 L (r.toList ++ []) h) := (v_vc (kd := 0) (n := 1) rfl)
theorem s_L_law_206 {ro : rQ} {R : rR} {h : rH} {s0 : Int32} {x : Nat} {l0 l1 l3 : Value} : rV ro R 206 [l0, l1, .ref x, l3] [.int s0] h ↔ rV ro R 207 [l0, l1, .ref x, l3] [.ref x, .int s0] h := (rV_iff)
theorem s_L_law_207 {ro : rQ} {R : rR} {h : rH} {s0 : Nat} {s1 : Int32} {x : Nat} {l1 l2 l3 : Value} : rV ro R 207 [.ref x, l1, l2, l3] [.ref s0, .int s1] h ↔ rV ro R 208 [.ref x, l1, l2, l3] [.ref x, .ref s0, .int s1] h := (rV_iff)
theorem s_L_law_208 {ro : rQ} {R : rR} {h : rH} {s0 : Nat} {s1 : Nat} {s2 : Int32} {x : Int32} {l0 l1 l2 : Value} : rV ro R 208 [l0, l1, l2, .int x] [.ref s0, .ref s1, .int s2] h ↔ rV ro R 209 [l0, l1, l2, .int x] [.int x, .ref s0, .ref s1, .int s2] h := (rV_iff)
theorem s_L_law_209 {ro : rQ} {R : rR} {h : rH} {s0 : Int32} {s1 : Nat} {s2 : Nat} {s3 : Int32} {L : List Value} : rV ro R 209 L [.int s0, .ref s1, .ref s2, .int s3] h ↔ rV ro R 210 L [.int (nI 1), .int s0, .ref s1, .ref s2, .int s3] h := (rV_iff)
theorem s_L_law_210 {ro : rQ} {R : rR} {h : rH} {s0 : Int32} {s1 : Int32} {s2 : Nat} {s3 : Nat} {s4 : Int32} {L : List Value} : rV ro R 210 L [.int s0, .int s1, .ref s2, .ref s3, .int s4] h ↔ rV ro R 211 L [.int (s1 + s0), .ref s2, .ref s3, .int s4] h := (rV_iff)
theorem s_L_law_211 {ro : rQ} {R : rR} {h : rH} {s0 : Int32} {s1 : Nat} {s2 : Nat} {s3 : Int32} {L : List Value} : rV ro R 211 L [.int s0, .ref s1, .ref s2, .int s3] h ↔ rAi ro h s1 s0 (fun v => rV ro R 212 L [.int v, .ref s2, .int s3] h) := (v_ai rfl)
theorem s_L_law_212 {ro : rQ} {R : rR} {h : rH} {s0 : Int32} {s1 : Nat} {s2 : Int32} {L : List Value} : rV ro R 212 L [.int s0, .ref s1, .int s2] h ↔ rVc ro 1000 [9, 105] s1 [.int s0] h (fun r h => rV ro R 215 L (r.toList ++ [.int s2]) h) := (v_vc (kd := 0) (n := 1) rfl)
theorem s_L_law_215 {ro : rQ} {R : rR} {h : rH} {s0 : Int32} {s1 : Int32} {L : List Value} : rV ro R 215 L [.int s0, .int s1] h ↔ (s1 = s0 → rV ro R 998 L [] h) ∧ (¬ s1 = s0 → rV ro R 218 L [] h) := (rV_iff)
theorem s_L_law_218 {ro : rQ} {R : rR} {h : rH}  {L : List Value} : rV ro R 218 L [] h ↔ rV ro R 219 L [.int (nI 0)] h := (rV_iff)
theorem s_L_law_219 {ro : rQ} {R : rR} {h : rH} {s0 : Int32} {L : List Value} : rV ro R 219 L [.int s0] h ↔ (s0 = 0 ∨ s0 = 1) ∧ R (some (.int s0)) h := (v_retz rfl)
theorem s_L_law_220 {ro : rQ} {R : rR} {h : rH}  {x : Nat} {l0 l2 l3 : Value} : rV ro R 220 [l0, .ref x, l2, l3] [] h ↔ rV ro R 221 [l0, .ref x, l2, l3] [.ref x] h := (rV_iff)
theorem s_L_law_221 {ro : rQ} {R : rR} {h : rH} {s0 : Nat} {x : Nat} {l1 l2 l3 : Value} : rV ro R 221 [.ref x, l1, l2, l3] [.ref s0] h ↔ rV ro R 222 [.ref x, l1, l2, l3] [.ref x, .ref s0] h := (rV_iff)
theorem s_L_law_222 {ro : rQ} {R : rR} {h : rH} {s0 : Nat} {s1 : Nat} {x : Int32} {l0 l1 l2 : Value} : rV ro R 222 [l0, l1, l2, .int x] [.ref s0, .ref s1] h ↔ rV ro R 223 [l0, l1, l2, .int x] [.int x, .ref s0, .ref s1] h := (rV_iff)
theorem s_L_law_223 {ro : rQ} {R : rR} {h : rH} {s0 : Int32} {s1 : Nat} {s2 : Nat} {L : List Value} : rV ro R 223 L [.int s0, .ref s1, .ref s2] h ↔ rV ro R 224 L [.int (nI 1), .int s0, .ref s1, .ref s2] h := (rV_iff)
theorem s_L_law_224 {ro : rQ} {R : rR} {h : rH} {s0 : Int32} {s1 : Int32} {s2 : Nat} {s3 : Nat} {L : List Value} : rV ro R 224 L [.int s0, .int s1, .ref s2, .ref s3] h ↔ rV ro R 225 L [.int (s1 + s0), .ref s2, .ref s3] h := (rV_iff)
theorem s_L_law_225 {ro : rQ} {R : rR} {h : rH} {s0 : Int32} {s1 : Nat} {s2 : Nat} {L : List Value} : rV ro R 225 L [.int s0, .ref s1, .ref s2] h ↔ rAi ro h s1 s0 (fun v => rV ro R 226 L [.int v, .ref s2] h) := (v_ai rfl)
theorem s_L_law_226 {ro : rQ} {R : rR} {h : rH} {s0 : Int32} {s1 : Nat} {L : List Value} : rV ro R 226 L [.int s0, .ref s1] h ↔ rVc ro 1000 [8, 47] s1 [.int s0] h (fun r h => rV ro R 229 L (r.toList ++ []) h) := (v_vc (kd := 0) (n := 1) rfl)
theorem s_L_law_229 {ro : rQ} {R : rR} {h : rH} {s0 : Int32} {x : Nat} {l0 l1 l3 : Value} : rV ro R 229 [l0, l1, .ref x, l3] [.int s0] h ↔ rV ro R 230 [l0, l1, .ref x, l3] [.ref x, .int s0] h := (rV_iff)
theorem s_L_law_230 {ro : rQ} {R : rR} {h : rH} {s0 : Nat} {s1 : Int32} {x : Nat} {l1 l2 l3 : Value} : rV ro R 230 [.ref x, l1, l2, l3] [.ref s0, .int s1] h ↔ rV ro R 231 [.ref x, l1, l2, l3] [.ref x, .ref s0, .int s1] h := (rV_iff)
theorem s_L_law_231 {ro : rQ} {R : rR} {h : rH} {s0 : Nat} {s1 : Nat} {s2 : Int32} {x : Int32} {l0 l1 l2 : Value} : rV ro R 231 [l0, l1, l2, .int x] [.ref s0, .ref s1, .int s2] h ↔ rV ro R 232 [l0, l1, l2, .int x] [.int x, .ref s0, .ref s1, .int s2] h := (rV_iff)
theorem s_L_law_232 {ro : rQ} {R : rR} {h : rH} {s0 : Int32} {s1 : Nat} {s2 : Nat} {s3 : Int32} {L : List Value} : rV ro R 232 L [.int s0, .ref s1, .ref s2, .int s3] h ↔ rV ro R 233 L [.int (nI 1), .int s0, .ref s1, .ref s2, .int s3] h := (rV_iff)
theorem s_L_law_233 {ro : rQ} {R : rR} {h : rH} {s0 : Int32} {s1 : Int32} {s2 : Nat} {s3 : Nat} {s4 : Int32} {L : List Value} : rV ro R 233 L [.int s0, .int s1, .ref s2, .ref s3, .int s4] h ↔ rV ro R 234 L [.int (s1 + s0), .ref s2, .ref s3, .int s4] h := (rV_iff)
theorem s_L_law_234 {ro : rQ} {R : rR} {h : rH} {s0 : Int32} {s1 : Nat} {s2 : Nat} {s3 : Int32} {L : List Value} : rV ro R 234 L [.int s0, .ref s1, .ref s2, .int s3] h ↔ rAi ro h s1 s0 (fun v => rV ro R 235 L [.int v, .ref s2, .int s3] h) := (v_ai rfl)
theorem s_L_law_235 {ro : rQ} {R : rR} {h : rH} {s0 : Int32} {s1 : Nat} {s2 : Int32} {L : List Value} : rV ro R 235 L [.int s0, .ref s1, .int s2] h ↔ rVc ro 1000 [9, 106] s1 [.int s0] h (fun r h => rV ro R 238 L (r.toList ++ [.int s2]) h) := (v_vc (kd := 0) (n := 1) rfl)
theorem s_L_law_238 {ro : rQ} {R : rR} {h : rH} {s0 : Int32} {s1 : Int32} {L : List Value} : rV ro R 238 L [.int s0, .int s1] h ↔ (s1 = s0 → rV ro R 998 L [] h) ∧ (¬ s1 = s0 → rV ro R 241 L [] h) := (rV_iff)
theorem s_L_law_241 {ro : rQ} {R : rR} {h : rH}  {L : List Value} : rV ro R 241 L [] h ↔ rV ro R 242 L [.int (nI 0)] h := (rV_iff)
theorem s_L_law_242 {ro : rQ} {R : rR} {h : rH} {s0 : Int32} {L : List Value} : rV ro R 242 L [.int s0] h ↔ (s0 = 0 ∨ s0 = 1) ∧ R (some (.int s0)) h := (v_retz rfl)
theorem s_L_law_243 {ro : rQ} {R : rR} {h : rH}  {x : Nat} {l0 l2 l3 : Value} : rV ro R 243 [l0, .ref x, l2, l3] [] h ↔ rV ro R 244 [l0, .ref x, l2, l3] [.ref x] h := (rV_iff)
theorem s_L_law_244 {ro : rQ} {R : rR} {h : rH} {s0 : Nat} {L : List Value} : rV ro R 244 L [.ref s0] h ↔ rVc ro 1000 [8, 48] s0 [] h (fun r h => rV ro R 247 L (r.toList ++ []) h) := (v_vc (kd := 0) (n := 0) rfl)
theorem s_L_law_247 {ro : rQ} {R : rR} {h : rH} {s0 : Int32} {x : Nat} {l0 l1 l3 : Value} : rV ro R 247 [l0, l1, .ref x, l3] [.int s0] h ↔ rV ro R 248 [l0, l1, .ref x, l3] [.ref x, .int s0] h := (rV_iff)
theorem s_L_law_248 {ro : rQ} {R : rR} {h : rH} {s0 : Nat} {s1 : Int32} {L : List Value} : rV ro R 248 L [.ref s0, .int s1] h ↔ rVc ro 1000 [9, 107] s0 [] h (fun r h => rV ro R 251 L (r.toList ++ [.int s1]) h) := (v_vc (kd := 0) (n := 0) rfl)
theorem s_L_law_251 {ro : rQ} {R : rR} {h : rH} {s0 : Int32} {s1 : Int32} {L : List Value} : rV ro R 251 L [.int s0, .int s1] h ↔ (s1 = s0 → rV ro R 998 L [] h) ∧ (¬ s1 = s0 → rV ro R 254 L [] h) := (rV_iff)
theorem s_L_law_254 {ro : rQ} {R : rR} {h : rH}  {L : List Value} : rV ro R 254 L [] h ↔ rV ro R 255 L [.int (nI 0)] h := (rV_iff)
theorem s_L_law_255 {ro : rQ} {R : rR} {h : rH} {s0 : Int32} {L : List Value} : rV ro R 255 L [.int s0] h ↔ (s0 = 0 ∨ s0 = 1) ∧ R (some (.int s0)) h := (v_retz rfl)
theorem s_L_law_256 {ro : rQ} {R : rR} {h : rH}  {x : Nat} {l0 l2 l3 : Value} : rV ro R 256 [l0, .ref x, l2, l3] [] h ↔ rV ro R 257 [l0, .ref x, l2, l3] [.ref x] h := (rV_iff)
theorem s_L_law_257 {ro : rQ} {R : rR} {h : rH} {s0 : Nat} {L : List Value} : rV ro R 257 L [.ref s0] h ↔ rVc ro 1000 [8, 49] s0 [] h (fun r h => rV ro R 260 L (r.toList ++ []) h) := (v_vc (kd := 0) (n := 0) rfl)
theorem s_L_law_260 {ro : rQ} {R : rR} {h : rH} {s0 : Int32} {x : Nat} {l0 l1 l3 : Value} : rV ro R 260 [l0, l1, .ref x, l3] [.int s0] h ↔ rV ro R 261 [l0, l1, .ref x, l3] [.ref x, .int s0] h := (rV_iff)
theorem s_L_law_261 {ro : rQ} {R : rR} {h : rH} {s0 : Nat} {s1 : Int32} {L : List Value} : rV ro R 261 L [.ref s0, .int s1] h ↔ rVc ro 1000 [9, 109] s0 [] h (fun r h => rV ro R 264 L (r.toList ++ [.int s1]) h) := (v_vc (kd := 0) (n := 0) rfl)
theorem s_L_law_264 {ro : rQ} {R : rR} {h : rH} {s0 : Int32} {s1 : Int32} {L : List Value} : rV ro R 264 L [.int s0, .int s1] h ↔ (s1 = s0 → rV ro R 998 L [] h) ∧ (¬ s1 = s0 → rV ro R 267 L [] h) := (rV_iff)
theorem s_L_law_267 {ro : rQ} {R : rR} {h : rH}  {L : List Value} : rV ro R 267 L [] h ↔ rV ro R 268 L [.int (nI 0)] h := (rV_iff)
theorem s_L_law_268 {ro : rQ} {R : rR} {h : rH} {s0 : Int32} {L : List Value} : rV ro R 268 L [.int s0] h ↔ (s0 = 0 ∨ s0 = 1) ∧ R (some (.int s0)) h := (v_retz rfl)
theorem s_L_law_269 {ro : rQ} {R : rR} {h : rH}  {x : Nat} {l0 l2 l3 : Value} : rV ro R 269 [l0, .ref x, l2, l3] [] h ↔ rV ro R 270 [l0, .ref x, l2, l3] [.ref x] h := (rV_iff)
theorem s_L_law_270 {ro : rQ} {R : rR} {h : rH} {s0 : Nat} {x : Nat} {l1 l2 l3 : Value} : rV ro R 270 [.ref x, l1, l2, l3] [.ref s0] h ↔ rV ro R 271 [.ref x, l1, l2, l3] [.ref x, .ref s0] h := (rV_iff)
theorem s_L_law_271 {ro : rQ} {R : rR} {h : rH} {s0 : Nat} {s1 : Nat} {x : Int32} {l0 l1 l2 : Value} : rV ro R 271 [l0, l1, l2, .int x] [.ref s0, .ref s1] h ↔ rV ro R 272 [l0, l1, l2, .int x] [.int x, .ref s0, .ref s1] h := (rV_iff)
theorem s_L_law_272 {ro : rQ} {R : rR} {h : rH} {s0 : Int32} {s1 : Nat} {s2 : Nat} {L : List Value} : rV ro R 272 L [.int s0, .ref s1, .ref s2] h ↔ rV ro R 273 L [.int (nI 1), .int s0, .ref s1, .ref s2] h := (rV_iff)
theorem s_L_law_273 {ro : rQ} {R : rR} {h : rH} {s0 : Int32} {s1 : Int32} {s2 : Nat} {s3 : Nat} {L : List Value} : rV ro R 273 L [.int s0, .int s1, .ref s2, .ref s3] h ↔ rV ro R 274 L [.int (s1 + s0), .ref s2, .ref s3] h := (rV_iff)
theorem s_L_law_274 {ro : rQ} {R : rR} {h : rH} {s0 : Int32} {s1 : Nat} {s2 : Nat} {L : List Value} : rV ro R 274 L [.int s0, .ref s1, .ref s2] h ↔ rAi ro h s1 s0 (fun v => rV ro R 275 L [.int v, .ref s2] h) := (v_ai rfl)
theorem s_L_law_275 {ro : rQ} {R : rR} {h : rH} {s0 : Int32} {s1 : Nat} {L : List Value} : rV ro R 275 L [.int s0, .ref s1] h ↔ rVc ro 1000 [8, 50] s1 [.int s0] h (fun r h => rV ro R 278 L (r.toList ++ []) h) := (v_vc (kd := 0) (n := 1) rfl)
theorem s_L_law_278 {ro : rQ} {R : rR} {h : rH} {s0 : Int32} {x : Nat} {l0 l1 l3 : Value} : rV ro R 278 [l0, l1, .ref x, l3] [.int s0] h ↔ rV ro R 279 [l0, l1, .ref x, l3] [.ref x, .int s0] h := (rV_iff)
theorem s_L_law_279 {ro : rQ} {R : rR} {h : rH} {s0 : Nat} {s1 : Int32} {x : Nat} {l1 l2 l3 : Value} : rV ro R 279 [.ref x, l1, l2, l3] [.ref s0, .int s1] h ↔ rV ro R 280 [.ref x, l1, l2, l3] [.ref x, .ref s0, .int s1] h := (rV_iff)
theorem s_L_law_280 {ro : rQ} {R : rR} {h : rH} {s0 : Nat} {s1 : Nat} {s2 : Int32} {x : Int32} {l0 l1 l2 : Value} : rV ro R 280 [l0, l1, l2, .int x] [.ref s0, .ref s1, .int s2] h ↔ rV ro R 281 [l0, l1, l2, .int x] [.int x, .ref s0, .ref s1, .int s2] h := (rV_iff)
theorem s_L_law_281 {ro : rQ} {R : rR} {h : rH} {s0 : Int32} {s1 : Nat} {s2 : Nat} {s3 : Int32} {L : List Value} : rV ro R 281 L [.int s0, .ref s1, .ref s2, .int s3] h ↔ rV ro R 282 L [.int (nI 1), .int s0, .ref s1, .ref s2, .int s3] h := (rV_iff)
theorem s_L_law_282 {ro : rQ} {R : rR} {h : rH} {s0 : Int32} {s1 : Int32} {s2 : Nat} {s3 : Nat} {s4 : Int32} {L : List Value} : rV ro R 282 L [.int s0, .int s1, .ref s2, .ref s3, .int s4] h ↔ rV ro R 283 L [.int (s1 + s0), .ref s2, .ref s3, .int s4] h := (rV_iff)
theorem s_L_law_283 {ro : rQ} {R : rR} {h : rH} {s0 : Int32} {s1 : Nat} {s2 : Nat} {s3 : Int32} {L : List Value} : rV ro R 283 L [.int s0, .ref s1, .ref s2, .int s3] h ↔ rAi ro h s1 s0 (fun v => rV ro R 284 L [.int v, .ref s2, .int s3] h) := (v_ai rfl)
theorem s_L_law_284 {ro : rQ} {R : rR} {h : rH} {s0 : Int32} {s1 : Nat} {s2 : Int32} {L : List Value} : rV ro R 284 L [.int s0, .ref s1, .int s2] h ↔ rVc ro 1000 [9, 112] s1 [.int s0] h (fun r h => rV ro R 287 L (r.toList ++ [.int s2]) h) := (v_vc (kd := 0) (n := 1) rfl)
theorem s_L_law_287 {ro : rQ} {R : rR} {h : rH} {s0 : Int32} {s1 : Int32} {L : List Value} : rV ro R 287 L [.int s0, .int s1] h ↔ (s1 = s0 → rV ro R 998 L [] h) ∧ (¬ s1 = s0 → rV ro R 290 L [] h) := (rV_iff)
theorem s_L_law_290 {ro : rQ} {R : rR} {h : rH}  {L : List Value} : rV ro R 290 L [] h ↔ rV ro R 291 L [.int (nI 0)] h := (rV_iff)
theorem s_L_law_291 {ro : rQ} {R : rR} {h : rH} {s0 : Int32} {L : List Value} : rV ro R 291 L [.int s0] h ↔ (s0 = 0 ∨ s0 = 1) ∧ R (some (.int s0)) h := (v_retz rfl)
theorem s_L_law_292 {ro : rQ} {R : rR} {h : rH}  {x : Nat} {l0 l2 l3 : Value} : rV ro R 292 [l0, .ref x, l2, l3] [] h ↔ rV ro R 293 [l0, .ref x, l2, l3] [.ref x] h := (rV_iff)
theorem s_L_law_293 {ro : rQ} {R : rR} {h : rH} {s0 : Nat} {x : Nat} {l1 l2 l3 : Value} : rV ro R 293 [.ref x, l1, l2, l3] [.ref s0] h ↔ rV ro R 294 [.ref x, l1, l2, l3] [.ref x, .ref s0] h := (rV_iff)
theorem s_L_law_294 {ro : rQ} {R : rR} {h : rH} {s0 : Nat} {s1 : Nat} {x : Int32} {l0 l1 l2 : Value} : rV ro R 294 [l0, l1, l2, .int x] [.ref s0, .ref s1] h ↔ rV ro R 295 [l0, l1, l2, .int x] [.int x, .ref s0, .ref s1] h := (rV_iff)
theorem s_L_law_295 {ro : rQ} {R : rR} {h : rH} {s0 : Int32} {s1 : Nat} {s2 : Nat} {L : List Value} : rV ro R 295 L [.int s0, .ref s1, .ref s2] h ↔ rV ro R 296 L [.int (nI 1), .int s0, .ref s1, .ref s2] h := (rV_iff)
theorem s_L_law_296 {ro : rQ} {R : rR} {h : rH} {s0 : Int32} {s1 : Int32} {s2 : Nat} {s3 : Nat} {L : List Value} : rV ro R 296 L [.int s0, .int s1, .ref s2, .ref s3] h ↔ rV ro R 297 L [.int (s1 + s0), .ref s2, .ref s3] h := (rV_iff)
theorem s_L_law_297 {ro : rQ} {R : rR} {h : rH} {s0 : Int32} {s1 : Nat} {s2 : Nat} {L : List Value} : rV ro R 297 L [.int s0, .ref s1, .ref s2] h ↔ rAi ro h s1 s0 (fun v => rV ro R 298 L [.int v, .ref s2] h) := (v_ai rfl)
theorem s_L_law_298 {ro : rQ} {R : rR} {h : rH} {s0 : Int32} {s1 : Nat} {x : Nat} {l1 l2 l3 : Value} : rV ro R 298 [.ref x, l1, l2, l3] [.int s0, .ref s1] h ↔ rV ro R 299 [.ref x, l1, l2, l3] [.ref x, .int s0, .ref s1] h := (rV_iff)
theorem s_L_law_299 {ro : rQ} {R : rR} {h : rH} {s0 : Nat} {s1 : Int32} {s2 : Nat} {x : Int32} {l0 l1 l2 : Value} : rV ro R 299 [l0, l1, l2, .int x] [.ref s0, .int s1, .ref s2] h ↔ rV ro R 300 [l0, l1, l2, .int x] [.int x, .ref s0, .int s1, .ref s2] h := (rV_iff)
theorem s_L_law_300 {ro : rQ} {R : rR} {h : rH} {s0 : Int32} {s1 : Nat} {s2 : Int32} {s3 : Nat} {L : List Value} : rV ro R 300 L [.int s0, .ref s1, .int s2, .ref s3] h ↔ rV ro R 301 L [.int (nI 2), .int s0, .ref s1, .int s2, .ref s3] h := (rV_iff)
theorem s_L_law_301 {ro : rQ} {R : rR} {h : rH} {s0 : Int32} {s1 : Int32} {s2 : Nat} {s3 : Int32} {s4 : Nat} {L : List Value} : rV ro R 301 L [.int s0, .int s1, .ref s2, .int s3, .ref s4] h ↔ rV ro R 302 L [.int (s1 + s0), .ref s2, .int s3, .ref s4] h := (rV_iff)
theorem s_L_law_302 {ro : rQ} {R : rR} {h : rH} {s0 : Int32} {s1 : Nat} {s2 : Int32} {s3 : Nat} {L : List Value} : rV ro R 302 L [.int s0, .ref s1, .int s2, .ref s3] h ↔ rAi ro h s1 s0 (fun v => rV ro R 303 L [.int v, .int s2, .ref s3] h) := (v_ai rfl)
theorem s_L_law_303 {ro : rQ} {R : rR} {h : rH} {s0 : Int32} {s1 : Int32} {s2 : Nat} {L : List Value} : rV ro R 303 L [.int s0, .int s1, .ref s2] h ↔ rVc ro 1000 [8, 51] s2 [.int s1, .int s0] h (fun r h => rV ro R 306 L (r.toList ++ []) h) := (v_vc (kd := 0) (n := 2) rfl)
theorem s_L_law_306 {ro : rQ} {R : rR} {h : rH} {s0 : Int32} {x : Nat} {l0 l1 l3 : Value} : rV ro R 306 [l0, l1, .ref x, l3] [.int s0] h ↔ rV ro R 307 [l0, l1, .ref x, l3] [.ref x, .int s0] h := (rV_iff)
theorem s_L_law_307 {ro : rQ} {R : rR} {h : rH} {s0 : Nat} {s1 : Int32} {x : Nat} {l1 l2 l3 : Value} : rV ro R 307 [.ref x, l1, l2, l3] [.ref s0, .int s1] h ↔ rV ro R 308 [.ref x, l1, l2, l3] [.ref x, .ref s0, .int s1] h := (rV_iff)
theorem s_L_law_308 {ro : rQ} {R : rR} {h : rH} {s0 : Nat} {s1 : Nat} {s2 : Int32} {x : Int32} {l0 l1 l2 : Value} : rV ro R 308 [l0, l1, l2, .int x] [.ref s0, .ref s1, .int s2] h ↔ rV ro R 309 [l0, l1, l2, .int x] [.int x, .ref s0, .ref s1, .int s2] h := (rV_iff)
theorem s_L_law_309 {ro : rQ} {R : rR} {h : rH} {s0 : Int32} {s1 : Nat} {s2 : Nat} {s3 : Int32} {L : List Value} : rV ro R 309 L [.int s0, .ref s1, .ref s2, .int s3] h ↔ rV ro R 310 L [.int (nI 1), .int s0, .ref s1, .ref s2, .int s3] h := (rV_iff)
theorem s_L_law_310 {ro : rQ} {R : rR} {h : rH} {s0 : Int32} {s1 : Int32} {s2 : Nat} {s3 : Nat} {s4 : Int32} {L : List Value} : rV ro R 310 L [.int s0, .int s1, .ref s2, .ref s3, .int s4] h ↔ rV ro R 311 L [.int (s1 + s0), .ref s2, .ref s3, .int s4] h := (rV_iff)
theorem s_L_law_311 {ro : rQ} {R : rR} {h : rH} {s0 : Int32} {s1 : Nat} {s2 : Nat} {s3 : Int32} {L : List Value} : rV ro R 311 L [.int s0, .ref s1, .ref s2, .int s3] h ↔ rAi ro h s1 s0 (fun v => rV ro R 312 L [.int v, .ref s2, .int s3] h) := (v_ai rfl)
theorem s_L_law_312 {ro : rQ} {R : rR} {h : rH} {s0 : Int32} {s1 : Nat} {s2 : Int32} {x : Nat} {l1 l2 l3 : Value} : rV ro R 312 [.ref x, l1, l2, l3] [.int s0, .ref s1, .int s2] h ↔ rV ro R 313 [.ref x, l1, l2, l3] [.ref x, .int s0, .ref s1, .int s2] h := (rV_iff)
theorem s_L_law_313 {ro : rQ} {R : rR} {h : rH} {s0 : Nat} {s1 : Int32} {s2 : Nat} {s3 : Int32} {x : Int32} {l0 l1 l2 : Value} : rV ro R 313 [l0, l1, l2, .int x] [.ref s0, .int s1, .ref s2, .int s3] h ↔ rV ro R 314 [l0, l1, l2, .int x] [.int x, .ref s0, .int s1, .ref s2, .int s3] h := (rV_iff)
theorem s_L_law_314 {ro : rQ} {R : rR} {h : rH} {s0 : Int32} {s1 : Nat} {s2 : Int32} {s3 : Nat} {s4 : Int32} {L : List Value} : rV ro R 314 L [.int s0, .ref s1, .int s2, .ref s3, .int s4] h ↔ rV ro R 315 L [.int (nI 2), .int s0, .ref s1, .int s2, .ref s3, .int s4] h := (rV_iff)
theorem s_L_law_315 {ro : rQ} {R : rR} {h : rH} {s0 : Int32} {s1 : Int32} {s2 : Nat} {s3 : Int32} {s4 : Nat} {s5 : Int32} {L : List Value} : rV ro R 315 L [.int s0, .int s1, .ref s2, .int s3, .ref s4, .int s5] h ↔ rV ro R 316 L [.int (s1 + s0), .ref s2, .int s3, .ref s4, .int s5] h := (rV_iff)
theorem s_L_law_316 {ro : rQ} {R : rR} {h : rH} {s0 : Int32} {s1 : Nat} {s2 : Int32} {s3 : Nat} {s4 : Int32} {L : List Value} : rV ro R 316 L [.int s0, .ref s1, .int s2, .ref s3, .int s4] h ↔ rAi ro h s1 s0 (fun v => rV ro R 317 L [.int v, .int s2, .ref s3, .int s4] h) := (v_ai rfl)
theorem s_L_law_317 {ro : rQ} {R : rR} {h : rH} {s0 : Int32} {s1 : Int32} {s2 : Nat} {s3 : Int32} {L : List Value} : rV ro R 317 L [.int s0, .int s1, .ref s2, .int s3] h ↔ rVc ro 1000 [9, 113] s2 [.int s1, .int s0] h (fun r h => rV ro R 320 L (r.toList ++ [.int s3]) h) := (v_vc (kd := 0) (n := 2) rfl)
theorem s_L_law_320 {ro : rQ} {R : rR} {h : rH} {s0 : Int32} {s1 : Int32} {L : List Value} : rV ro R 320 L [.int s0, .int s1] h ↔ (s1 = s0 → rV ro R 998 L [] h) ∧ (¬ s1 = s0 → rV ro R 323 L [] h) := (rV_iff)
theorem s_L_law_323 {ro : rQ} {R : rR} {h : rH}  {L : List Value} : rV ro R 323 L [] h ↔ rV ro R 324 L [.int (nI 0)] h := (rV_iff)
theorem s_L_law_324 {ro : rQ} {R : rR} {h : rH} {s0 : Int32} {L : List Value} : rV ro R 324 L [.int s0] h ↔ (s0 = 0 ∨ s0 = 1) ∧ R (some (.int s0)) h := (v_retz rfl)
theorem s_L_law_325 {ro : rQ} {R : rR} {h : rH}  {x : Nat} {l0 l2 l3 : Value} : rV ro R 325 [l0, .ref x, l2, l3] [] h ↔ rV ro R 326 [l0, .ref x, l2, l3] [.ref x] h := (rV_iff)
theorem s_L_law_326 {ro : rQ} {R : rR} {h : rH} {s0 : Nat} {x : Nat} {l1 l2 l3 : Value} : rV ro R 326 [.ref x, l1, l2, l3] [.ref s0] h ↔ rV ro R 327 [.ref x, l1, l2, l3] [.ref x, .ref s0] h := (rV_iff)
theorem s_L_law_327 {ro : rQ} {R : rR} {h : rH} {s0 : Nat} {s1 : Nat} {x : Int32} {l0 l1 l2 : Value} : rV ro R 327 [l0, l1, l2, .int x] [.ref s0, .ref s1] h ↔ rV ro R 328 [l0, l1, l2, .int x] [.int x, .ref s0, .ref s1] h := (rV_iff)
theorem s_L_law_328 {ro : rQ} {R : rR} {h : rH} {s0 : Int32} {s1 : Nat} {s2 : Nat} {L : List Value} : rV ro R 328 L [.int s0, .ref s1, .ref s2] h ↔ rV ro R 329 L [.int (nI 1), .int s0, .ref s1, .ref s2] h := (rV_iff)
theorem s_L_law_329 {ro : rQ} {R : rR} {h : rH} {s0 : Int32} {s1 : Int32} {s2 : Nat} {s3 : Nat} {L : List Value} : rV ro R 329 L [.int s0, .int s1, .ref s2, .ref s3] h ↔ rV ro R 330 L [.int (s1 + s0), .ref s2, .ref s3] h := (rV_iff)
theorem s_L_law_330 {ro : rQ} {R : rR} {h : rH} {s0 : Int32} {s1 : Nat} {s2 : Nat} {L : List Value} : rV ro R 330 L [.int s0, .ref s1, .ref s2] h ↔ rAi ro h s1 s0 (fun v => rV ro R 331 L [.int v, .ref s2] h) := (v_ai rfl)
theorem s_L_law_331 {ro : rQ} {R : rR} {h : rH} {s0 : Int32} {s1 : Nat} {x : Nat} {l1 l2 l3 : Value} : rV ro R 331 [.ref x, l1, l2, l3] [.int s0, .ref s1] h ↔ rV ro R 332 [.ref x, l1, l2, l3] [.ref x, .int s0, .ref s1] h := (rV_iff)
theorem s_L_law_332 {ro : rQ} {R : rR} {h : rH} {s0 : Nat} {s1 : Int32} {s2 : Nat} {x : Int32} {l0 l1 l2 : Value} : rV ro R 332 [l0, l1, l2, .int x] [.ref s0, .int s1, .ref s2] h ↔ rV ro R 333 [l0, l1, l2, .int x] [.int x, .ref s0, .int s1, .ref s2] h := (rV_iff)
theorem s_L_law_333 {ro : rQ} {R : rR} {h : rH} {s0 : Int32} {s1 : Nat} {s2 : Int32} {s3 : Nat} {L : List Value} : rV ro R 333 L [.int s0, .ref s1, .int s2, .ref s3] h ↔ rV ro R 334 L [.int (nI 2), .int s0, .ref s1, .int s2, .ref s3] h := (rV_iff)
theorem s_L_law_334 {ro : rQ} {R : rR} {h : rH} {s0 : Int32} {s1 : Int32} {s2 : Nat} {s3 : Int32} {s4 : Nat} {L : List Value} : rV ro R 334 L [.int s0, .int s1, .ref s2, .int s3, .ref s4] h ↔ rV ro R 335 L [.int (s1 + s0), .ref s2, .int s3, .ref s4] h := (rV_iff)
theorem s_L_law_335 {ro : rQ} {R : rR} {h : rH} {s0 : Int32} {s1 : Nat} {s2 : Int32} {s3 : Nat} {L : List Value} : rV ro R 335 L [.int s0, .ref s1, .int s2, .ref s3] h ↔ rAi ro h s1 s0 (fun v => rV ro R 336 L [.int v, .int s2, .ref s3] h) := (v_ai rfl)
theorem s_L_law_336 {ro : rQ} {R : rR} {h : rH} {s0 : Int32} {s1 : Int32} {s2 : Nat} {L : List Value} : rV ro R 336 L [.int s0, .int s1, .ref s2] h ↔ rVc ro 1000 [8, 52] s2 [.int s1, .int s0] h (fun r h => rV ro R 339 L (r.toList ++ []) h) := (v_vc (kd := 0) (n := 2) rfl)
theorem s_L_law_339 {ro : rQ} {R : rR} {h : rH} {s0 : Int32} {x : Nat} {l0 l1 l3 : Value} : rV ro R 339 [l0, l1, .ref x, l3] [.int s0] h ↔ rV ro R 340 [l0, l1, .ref x, l3] [.ref x, .int s0] h := (rV_iff)
theorem s_L_law_340 {ro : rQ} {R : rR} {h : rH} {s0 : Nat} {s1 : Int32} {x : Nat} {l1 l2 l3 : Value} : rV ro R 340 [.ref x, l1, l2, l3] [.ref s0, .int s1] h ↔ rV ro R 341 [.ref x, l1, l2, l3] [.ref x, .ref s0, .int s1] h := (rV_iff)
theorem s_L_law_341 {ro : rQ} {R : rR} {h : rH} {s0 : Nat} {s1 : Nat} {s2 : Int32} {x : Int32} {l0 l1 l2 : Value} : rV ro R 341 [l0, l1, l2, .int x] [.ref s0, .ref s1, .int s2] h ↔ rV ro R 342 [l0, l1, l2, .int x] [.int x, .ref s0, .ref s1, .int s2] h := (rV_iff)
theorem s_L_law_342 {ro : rQ} {R : rR} {h : rH} {s0 : Int32} {s1 : Nat} {s2 : Nat} {s3 : Int32} {L : List Value} : rV ro R 342 L [.int s0, .ref s1, .ref s2, .int s3] h ↔ rV ro R 343 L [.int (nI 1), .int s0, .ref s1, .ref s2, .int s3] h := (rV_iff)
theorem s_L_law_343 {ro : rQ} {R : rR} {h : rH} {s0 : Int32} {s1 : Int32} {s2 : Nat} {s3 : Nat} {s4 : Int32} {L : List Value} : rV ro R 343 L [.int s0, .int s1, .ref s2, .ref s3, .int s4] h ↔ rV ro R 344 L [.int (s1 + s0), .ref s2, .ref s3, .int s4] h := (rV_iff)
theorem s_L_law_344 {ro : rQ} {R : rR} {h : rH} {s0 : Int32} {s1 : Nat} {s2 : Nat} {s3 : Int32} {L : List Value} : rV ro R 344 L [.int s0, .ref s1, .ref s2, .int s3] h ↔ rAi ro h s1 s0 (fun v => rV ro R 345 L [.int v, .ref s2, .int s3] h) := (v_ai rfl)
theorem s_L_law_345 {ro : rQ} {R : rR} {h : rH} {s0 : Int32} {s1 : Nat} {s2 : Int32} {x : Nat} {l1 l2 l3 : Value} : rV ro R 345 [.ref x, l1, l2, l3] [.int s0, .ref s1, .int s2] h ↔ rV ro R 346 [.ref x, l1, l2, l3] [.ref x, .int s0, .ref s1, .int s2] h := (rV_iff)
theorem s_L_law_346 {ro : rQ} {R : rR} {h : rH} {s0 : Nat} {s1 : Int32} {s2 : Nat} {s3 : Int32} {x : Int32} {l0 l1 l2 : Value} : rV ro R 346 [l0, l1, l2, .int x] [.ref s0, .int s1, .ref s2, .int s3] h ↔ rV ro R 347 [l0, l1, l2, .int x] [.int x, .ref s0, .int s1, .ref s2, .int s3] h := (rV_iff)
theorem s_L_law_347 {ro : rQ} {R : rR} {h : rH} {s0 : Int32} {s1 : Nat} {s2 : Int32} {s3 : Nat} {s4 : Int32} {L : List Value} : rV ro R 347 L [.int s0, .ref s1, .int s2, .ref s3, .int s4] h ↔ rV ro R 348 L [.int (nI 2), .int s0, .ref s1, .int s2, .ref s3, .int s4] h := (rV_iff)
theorem s_L_law_348 {ro : rQ} {R : rR} {h : rH} {s0 : Int32} {s1 : Int32} {s2 : Nat} {s3 : Int32} {s4 : Nat} {s5 : Int32} {L : List Value} : rV ro R 348 L [.int s0, .int s1, .ref s2, .int s3, .ref s4, .int s5] h ↔ rV ro R 349 L [.int (s1 + s0), .ref s2, .int s3, .ref s4, .int s5] h := (rV_iff)
theorem s_L_law_349 {ro : rQ} {R : rR} {h : rH} {s0 : Int32} {s1 : Nat} {s2 : Int32} {s3 : Nat} {s4 : Int32} {L : List Value} : rV ro R 349 L [.int s0, .ref s1, .int s2, .ref s3, .int s4] h ↔ rAi ro h s1 s0 (fun v => rV ro R 350 L [.int v, .int s2, .ref s3, .int s4] h) := (v_ai rfl)
theorem s_L_law_350 {ro : rQ} {R : rR} {h : rH} {s0 : Int32} {s1 : Int32} {s2 : Nat} {s3 : Int32} {L : List Value} : rV ro R 350 L [.int s0, .int s1, .ref s2, .int s3] h ↔ rVc ro 1000 [9, 115] s2 [.int s1, .int s0] h (fun r h => rV ro R 353 L (r.toList ++ [.int s3]) h) := (v_vc (kd := 0) (n := 2) rfl)
theorem s_L_law_353 {ro : rQ} {R : rR} {h : rH} {s0 : Int32} {s1 : Int32} {L : List Value} : rV ro R 353 L [.int s0, .int s1] h ↔ (s1 = s0 → rV ro R 998 L [] h) ∧ (¬ s1 = s0 → rV ro R 356 L [] h) := (rV_iff)
theorem s_L_law_356 {ro : rQ} {R : rR} {h : rH}  {L : List Value} : rV ro R 356 L [] h ↔ rV ro R 357 L [.int (nI 0)] h := (rV_iff)
theorem s_L_law_357 {ro : rQ} {R : rR} {h : rH} {s0 : Int32} {L : List Value} : rV ro R 357 L [.int s0] h ↔ (s0 = 0 ∨ s0 = 1) ∧ R (some (.int s0)) h := (v_retz rfl)
theorem s_L_law_358 {ro : rQ} {R : rR} {h : rH}  {x : Nat} {l0 l2 l3 : Value} : rV ro R 358 [l0, .ref x, l2, l3] [] h ↔ rV ro R 359 [l0, .ref x, l2, l3] [.ref x] h := (rV_iff)
theorem s_L_law_359 {ro : rQ} {R : rR} {h : rH} {s0 : Nat} {x : Nat} {l1 l2 l3 : Value} : rV ro R 359 [.ref x, l1, l2, l3] [.ref s0] h ↔ rV ro R 360 [.ref x, l1, l2, l3] [.ref x, .ref s0] h := (rV_iff)
theorem s_L_law_360 {ro : rQ} {R : rR} {h : rH} {s0 : Nat} {s1 : Nat} {x : Int32} {l0 l1 l2 : Value} : rV ro R 360 [l0, l1, l2, .int x] [.ref s0, .ref s1] h ↔ rV ro R 361 [l0, l1, l2, .int x] [.int x, .ref s0, .ref s1] h := (rV_iff)
theorem s_L_law_361 {ro : rQ} {R : rR} {h : rH} {s0 : Int32} {s1 : Nat} {s2 : Nat} {L : List Value} : rV ro R 361 L [.int s0, .ref s1, .ref s2] h ↔ rV ro R 362 L [.int (nI 1), .int s0, .ref s1, .ref s2] h := (rV_iff)
theorem s_L_law_362 {ro : rQ} {R : rR} {h : rH} {s0 : Int32} {s1 : Int32} {s2 : Nat} {s3 : Nat} {L : List Value} : rV ro R 362 L [.int s0, .int s1, .ref s2, .ref s3] h ↔ rV ro R 363 L [.int (s1 + s0), .ref s2, .ref s3] h := (rV_iff)
theorem s_L_law_363 {ro : rQ} {R : rR} {h : rH} {s0 : Int32} {s1 : Nat} {s2 : Nat} {L : List Value} : rV ro R 363 L [.int s0, .ref s1, .ref s2] h ↔ rAi ro h s1 s0 (fun v => rV ro R 364 L [.int v, .ref s2] h) := (v_ai rfl)
theorem s_L_law_364 {ro : rQ} {R : rR} {h : rH} {s0 : Int32} {s1 : Nat} {x : Nat} {l1 l2 l3 : Value} : rV ro R 364 [.ref x, l1, l2, l3] [.int s0, .ref s1] h ↔ rV ro R 365 [.ref x, l1, l2, l3] [.ref x, .int s0, .ref s1] h := (rV_iff)
theorem s_L_law_365 {ro : rQ} {R : rR} {h : rH} {s0 : Nat} {s1 : Int32} {s2 : Nat} {x : Int32} {l0 l1 l2 : Value} : rV ro R 365 [l0, l1, l2, .int x] [.ref s0, .int s1, .ref s2] h ↔ rV ro R 366 [l0, l1, l2, .int x] [.int x, .ref s0, .int s1, .ref s2] h := (rV_iff)
theorem s_L_law_366 {ro : rQ} {R : rR} {h : rH} {s0 : Int32} {s1 : Nat} {s2 : Int32} {s3 : Nat} {L : List Value} : rV ro R 366 L [.int s0, .ref s1, .int s2, .ref s3] h ↔ rV ro R 367 L [.int (nI 2), .int s0, .ref s1, .int s2, .ref s3] h := (rV_iff)
theorem s_L_law_367 {ro : rQ} {R : rR} {h : rH} {s0 : Int32} {s1 : Int32} {s2 : Nat} {s3 : Int32} {s4 : Nat} {L : List Value} : rV ro R 367 L [.int s0, .int s1, .ref s2, .int s3, .ref s4] h ↔ rV ro R 368 L [.int (s1 + s0), .ref s2, .int s3, .ref s4] h := (rV_iff)
theorem s_L_law_368 {ro : rQ} {R : rR} {h : rH} {s0 : Int32} {s1 : Nat} {s2 : Int32} {s3 : Nat} {L : List Value} : rV ro R 368 L [.int s0, .ref s1, .int s2, .ref s3] h ↔ rAi ro h s1 s0 (fun v => rV ro R 369 L [.int v, .int s2, .ref s3] h) := (v_ai rfl)
theorem s_L_law_369 {ro : rQ} {R : rR} {h : rH} {s0 : Int32} {s1 : Int32} {s2 : Nat} {x : Nat} {l1 l2 l3 : Value} : rV ro R 369 [.ref x, l1, l2, l3] [.int s0, .int s1, .ref s2] h ↔ rV ro R 370 [.ref x, l1, l2, l3] [.ref x, .int s0, .int s1, .ref s2] h := (rV_iff)
theorem s_L_law_370 {ro : rQ} {R : rR} {h : rH} {s0 : Nat} {s1 : Int32} {s2 : Int32} {s3 : Nat} {x : Int32} {l0 l1 l2 : Value} : rV ro R 370 [l0, l1, l2, .int x] [.ref s0, .int s1, .int s2, .ref s3] h ↔ rV ro R 371 [l0, l1, l2, .int x] [.int x, .ref s0, .int s1, .int s2, .ref s3] h := (rV_iff)
theorem s_L_law_371 {ro : rQ} {R : rR} {h : rH} {s0 : Int32} {s1 : Nat} {s2 : Int32} {s3 : Int32} {s4 : Nat} {L : List Value} : rV ro R 371 L [.int s0, .ref s1, .int s2, .int s3, .ref s4] h ↔ rV ro R 372 L [.int (nI 3), .int s0, .ref s1, .int s2, .int s3, .ref s4] h := (rV_iff)
theorem s_L_law_372 {ro : rQ} {R : rR} {h : rH} {s0 : Int32} {s1 : Int32} {s2 : Nat} {s3 : Int32} {s4 : Int32} {s5 : Nat} {L : List Value} : rV ro R 372 L [.int s0, .int s1, .ref s2, .int s3, .int s4, .ref s5] h ↔ rV ro R 373 L [.int (s1 + s0), .ref s2, .int s3, .int s4, .ref s5] h := (rV_iff)
theorem s_L_law_373 {ro : rQ} {R : rR} {h : rH} {s0 : Int32} {s1 : Nat} {s2 : Int32} {s3 : Int32} {s4 : Nat} {L : List Value} : rV ro R 373 L [.int s0, .ref s1, .int s2, .int s3, .ref s4] h ↔ rAi ro h s1 s0 (fun v => rV ro R 374 L [.int v, .int s2, .int s3, .ref s4] h) := (v_ai rfl)
theorem s_L_law_374 {ro : rQ} {R : rR} {h : rH} {s0 : Int32} {s1 : Int32} {s2 : Int32} {s3 : Nat} {L : List Value} : rV ro R 374 L [.int s0, .int s1, .int s2, .ref s3] h ↔ rVc ro 1000 [8, 53] s3 [.int s2, .int s1, .int s0] h (fun r h => rV ro R 377 L (r.toList ++ []) h) := (v_vc (kd := 0) (n := 3) rfl)
theorem s_L_law_377 {ro : rQ} {R : rR} {h : rH} {s0 : Int64} {x : Nat} {l0 l1 l3 : Value} : rV ro R 377 [l0, l1, .ref x, l3] [.long s0] h ↔ rV ro R 378 [l0, l1, .ref x, l3] [.ref x, .long s0] h := (rV_iff)
theorem s_L_law_378 {ro : rQ} {R : rR} {h : rH} {s0 : Nat} {s1 : Int64} {x : Nat} {l1 l2 l3 : Value} : rV ro R 378 [.ref x, l1, l2, l3] [.ref s0, .long s1] h ↔ rV ro R 379 [.ref x, l1, l2, l3] [.ref x, .ref s0, .long s1] h := (rV_iff)
theorem s_L_law_379 {ro : rQ} {R : rR} {h : rH} {s0 : Nat} {s1 : Nat} {s2 : Int64} {x : Int32} {l0 l1 l2 : Value} : rV ro R 379 [l0, l1, l2, .int x] [.ref s0, .ref s1, .long s2] h ↔ rV ro R 380 [l0, l1, l2, .int x] [.int x, .ref s0, .ref s1, .long s2] h := (rV_iff)
theorem s_L_law_380 {ro : rQ} {R : rR} {h : rH} {s0 : Int32} {s1 : Nat} {s2 : Nat} {s3 : Int64} {L : List Value} : rV ro R 380 L [.int s0, .ref s1, .ref s2, .long s3] h ↔ rV ro R 381 L [.int (nI 1), .int s0, .ref s1, .ref s2, .long s3] h := (rV_iff)
theorem s_L_law_381 {ro : rQ} {R : rR} {h : rH} {s0 : Int32} {s1 : Int32} {s2 : Nat} {s3 : Nat} {s4 : Int64} {L : List Value} : rV ro R 381 L [.int s0, .int s1, .ref s2, .ref s3, .long s4] h ↔ rV ro R 382 L [.int (s1 + s0), .ref s2, .ref s3, .long s4] h := (rV_iff)
theorem s_L_law_382 {ro : rQ} {R : rR} {h : rH} {s0 : Int32} {s1 : Nat} {s2 : Nat} {s3 : Int64} {L : List Value} : rV ro R 382 L [.int s0, .ref s1, .ref s2, .long s3] h ↔ rAi ro h s1 s0 (fun v => rV ro R 383 L [.int v, .ref s2, .long s3] h) := (v_ai rfl)
theorem s_L_law_383 {ro : rQ} {R : rR} {h : rH} {s0 : Int32} {s1 : Nat} {s2 : Int64} {x : Nat} {l1 l2 l3 : Value} : rV ro R 383 [.ref x, l1, l2, l3] [.int s0, .ref s1, .long s2] h ↔ rV ro R 384 [.ref x, l1, l2, l3] [.ref x, .int s0, .ref s1, .long s2] h := (rV_iff)
theorem s_L_law_384 {ro : rQ} {R : rR} {h : rH} {s0 : Nat} {s1 : Int32} {s2 : Nat} {s3 : Int64} {x : Int32} {l0 l1 l2 : Value} : rV ro R 384 [l0, l1, l2, .int x] [.ref s0, .int s1, .ref s2, .long s3] h ↔ rV ro R 385 [l0, l1, l2, .int x] [.int x, .ref s0, .int s1, .ref s2, .long s3] h := (rV_iff)
theorem s_L_law_385 {ro : rQ} {R : rR} {h : rH} {s0 : Int32} {s1 : Nat} {s2 : Int32} {s3 : Nat} {s4 : Int64} {L : List Value} : rV ro R 385 L [.int s0, .ref s1, .int s2, .ref s3, .long s4] h ↔ rV ro R 386 L [.int (nI 2), .int s0, .ref s1, .int s2, .ref s3, .long s4] h := (rV_iff)
theorem s_L_law_386 {ro : rQ} {R : rR} {h : rH} {s0 : Int32} {s1 : Int32} {s2 : Nat} {s3 : Int32} {s4 : Nat} {s5 : Int64} {L : List Value} : rV ro R 386 L [.int s0, .int s1, .ref s2, .int s3, .ref s4, .long s5] h ↔ rV ro R 387 L [.int (s1 + s0), .ref s2, .int s3, .ref s4, .long s5] h := (rV_iff)
theorem s_L_law_387 {ro : rQ} {R : rR} {h : rH} {s0 : Int32} {s1 : Nat} {s2 : Int32} {s3 : Nat} {s4 : Int64} {L : List Value} : rV ro R 387 L [.int s0, .ref s1, .int s2, .ref s3, .long s4] h ↔ rAi ro h s1 s0 (fun v => rV ro R 388 L [.int v, .int s2, .ref s3, .long s4] h) := (v_ai rfl)
theorem s_L_law_388 {ro : rQ} {R : rR} {h : rH} {s0 : Int32} {s1 : Int32} {s2 : Nat} {s3 : Int64} {x : Nat} {l1 l2 l3 : Value} : rV ro R 388 [.ref x, l1, l2, l3] [.int s0, .int s1, .ref s2, .long s3] h ↔ rV ro R 389 [.ref x, l1, l2, l3] [.ref x, .int s0, .int s1, .ref s2, .long s3] h := (rV_iff)
theorem s_L_law_389 {ro : rQ} {R : rR} {h : rH} {s0 : Nat} {s1 : Int32} {s2 : Int32} {s3 : Nat} {s4 : Int64} {x : Int32} {l0 l1 l2 : Value} : rV ro R 389 [l0, l1, l2, .int x] [.ref s0, .int s1, .int s2, .ref s3, .long s4] h ↔ rV ro R 390 [l0, l1, l2, .int x] [.int x, .ref s0, .int s1, .int s2, .ref s3, .long s4] h := (rV_iff)
theorem s_L_law_390 {ro : rQ} {R : rR} {h : rH} {s0 : Int32} {s1 : Nat} {s2 : Int32} {s3 : Int32} {s4 : Nat} {s5 : Int64} {L : List Value} : rV ro R 390 L [.int s0, .ref s1, .int s2, .int s3, .ref s4, .long s5] h ↔ rV ro R 391 L [.int (nI 3), .int s0, .ref s1, .int s2, .int s3, .ref s4, .long s5] h := (rV_iff)
theorem s_L_law_391 {ro : rQ} {R : rR} {h : rH} {s0 : Int32} {s1 : Int32} {s2 : Nat} {s3 : Int32} {s4 : Int32} {s5 : Nat} {s6 : Int64} {L : List Value} : rV ro R 391 L [.int s0, .int s1, .ref s2, .int s3, .int s4, .ref s5, .long s6] h ↔ rV ro R 392 L [.int (s1 + s0), .ref s2, .int s3, .int s4, .ref s5, .long s6] h := (rV_iff)
theorem s_L_law_392 {ro : rQ} {R : rR} {h : rH} {s0 : Int32} {s1 : Nat} {s2 : Int32} {s3 : Int32} {s4 : Nat} {s5 : Int64} {L : List Value} : rV ro R 392 L [.int s0, .ref s1, .int s2, .int s3, .ref s4, .long s5] h ↔ rAi ro h s1 s0 (fun v => rV ro R 393 L [.int v, .int s2, .int s3, .ref s4, .long s5] h) := (v_ai rfl)
theorem s_L_law_393 {ro : rQ} {R : rR} {h : rH} {s0 : Int32} {s1 : Int32} {s2 : Int32} {s3 : Nat} {s4 : Int64} {L : List Value} : rV ro R 393 L [.int s0, .int s1, .int s2, .ref s3, .long s4] h ↔ rVc ro 1000 [9, 129] s3 [.int s2, .int s1, .int s0] h (fun r h => rV ro R 396 L (r.toList ++ [.long s4]) h) := (v_vc (kd := 0) (n := 3) rfl)
theorem s_L_law_396 {ro : rQ} {R : rR} {h : rH} {s0 : Int64} {s1 : Int64} {L : List Value} : rV ro R 396 L [.long s0, .long s1] h ↔ rV ro R 397 L [.int (lg_cmp s1 s0)] h := (rV_iff)
theorem s_L_law_397 {ro : rQ} {R : rR} {h : rH} {s0 : Int32} {L : List Value} : rV ro R 397 L [.int s0] h ↔ (s0 = 0 → rV ro R 998 L [] h) ∧ (¬ s0 = 0 → rV ro R 400 L [] h) := (rV_iff)
set_option maxRecDepth 100000 in
theorem s_L_law_400 {ro : rQ} {R : rR} {h : rH}  {L : List Value} : rV ro R 400 L [] h ↔ rV ro R 401 L [.int (nI 0)] h := (rV_iff)
set_option maxRecDepth 100000 in
theorem s_L_law_401 {ro : rQ} {R : rR} {h : rH} {s0 : Int32} {L : List Value} : rV ro R 401 L [.int s0] h ↔ (s0 = 0 ∨ s0 = 1) ∧ R (some (.int s0)) h := (v_retz rfl)
set_option maxRecDepth 100000 in
theorem s_L_law_402 {ro : rQ} {R : rR} {h : rH}  {x : Nat} {l0 l2 l3 : Value} : rV ro R 402 [l0, .ref x, l2, l3] [] h ↔ rV ro R 403 [l0, .ref x, l2, l3] [.ref x] h := (rV_iff)
set_option maxRecDepth 100000 in
theorem s_L_law_403 {ro : rQ} {R : rR} {h : rH} {s0 : Nat} {x : Nat} {l1 l2 l3 : Value} : rV ro R 403 [.ref x, l1, l2, l3] [.ref s0] h ↔ rV ro R 404 [.ref x, l1, l2, l3] [.ref x, .ref s0] h := (rV_iff)
set_option maxRecDepth 100000 in
theorem s_L_law_404 {ro : rQ} {R : rR} {h : rH} {s0 : Nat} {s1 : Nat} {x : Int32} {l0 l1 l2 : Value} : rV ro R 404 [l0, l1, l2, .int x] [.ref s0, .ref s1] h ↔ rV ro R 405 [l0, l1, l2, .int x] [.int x, .ref s0, .ref s1] h := (rV_iff)
set_option maxRecDepth 100000 in
theorem s_L_law_405 {ro : rQ} {R : rR} {h : rH} {s0 : Int32} {s1 : Nat} {s2 : Nat} {L : List Value} : rV ro R 405 L [.int s0, .ref s1, .ref s2] h ↔ rV ro R 406 L [.int (nI 1), .int s0, .ref s1, .ref s2] h := (rV_iff)
set_option maxRecDepth 100000 in
theorem s_L_law_406 {ro : rQ} {R : rR} {h : rH} {s0 : Int32} {s1 : Int32} {s2 : Nat} {s3 : Nat} {L : List Value} : rV ro R 406 L [.int s0, .int s1, .ref s2, .ref s3] h ↔ rV ro R 407 L [.int (s1 + s0), .ref s2, .ref s3] h := (rV_iff)
set_option maxRecDepth 100000 in
theorem s_L_law_407 {ro : rQ} {R : rR} {h : rH} {s0 : Int32} {s1 : Nat} {s2 : Nat} {L : List Value} : rV ro R 407 L [.int s0, .ref s1, .ref s2] h ↔ rAi ro h s1 s0 (fun v => rV ro R 408 L [.int v, .ref s2] h) := (v_ai rfl)
set_option maxRecDepth 100000 in
theorem s_L_law_408 {ro : rQ} {R : rR} {h : rH} {s0 : Int32} {s1 : Nat} {L : List Value} : rV ro R 408 L [.int s0, .ref s1] h ↔ rVc ro 1000 [8, 54] s1 [.int s0] h (fun r h => rV ro R 411 L (r.toList ++ []) h) := (v_vc (kd := 0) (n := 1) rfl)
set_option maxRecDepth 100000 in
theorem s_L_law_411 {ro : rQ} {R : rR} {h : rH} {s0 : Int32} {x : Nat} {l0 l1 l3 : Value} : rV ro R 411 [l0, l1, .ref x, l3] [.int s0] h ↔ rV ro R 412 [l0, l1, .ref x, l3] [.ref x, .int s0] h := (rV_iff)
set_option maxRecDepth 100000 in
theorem s_L_law_412 {ro : rQ} {R : rR} {h : rH} {s0 : Nat} {s1 : Int32} {x : Nat} {l1 l2 l3 : Value} : rV ro R 412 [.ref x, l1, l2, l3] [.ref s0, .int s1] h ↔ rV ro R 413 [.ref x, l1, l2, l3] [.ref x, .ref s0, .int s1] h := (rV_iff)
set_option maxRecDepth 100000 in
theorem s_L_law_413 {ro : rQ} {R : rR} {h : rH} {s0 : Nat} {s1 : Nat} {s2 : Int32} {x : Int32} {l0 l1 l2 : Value} : rV ro R 413 [l0, l1, l2, .int x] [.ref s0, .ref s1, .int s2] h ↔ rV ro R 414 [l0, l1, l2, .int x] [.int x, .ref s0, .ref s1, .int s2] h := (rV_iff)
set_option maxRecDepth 100000 in
theorem s_L_law_414 {ro : rQ} {R : rR} {h : rH} {s0 : Int32} {s1 : Nat} {s2 : Nat} {s3 : Int32} {L : List Value} : rV ro R 414 L [.int s0, .ref s1, .ref s2, .int s3] h ↔ rV ro R 415 L [.int (nI 1), .int s0, .ref s1, .ref s2, .int s3] h := (rV_iff)
set_option maxRecDepth 100000 in
theorem s_L_law_415 {ro : rQ} {R : rR} {h : rH} {s0 : Int32} {s1 : Int32} {s2 : Nat} {s3 : Nat} {s4 : Int32} {L : List Value} : rV ro R 415 L [.int s0, .int s1, .ref s2, .ref s3, .int s4] h ↔ rV ro R 416 L [.int (s1 + s0), .ref s2, .ref s3, .int s4] h := (rV_iff)
set_option maxRecDepth 100000 in
theorem s_L_law_416 {ro : rQ} {R : rR} {h : rH} {s0 : Int32} {s1 : Nat} {s2 : Nat} {s3 : Int32} {L : List Value} : rV ro R 416 L [.int s0, .ref s1, .ref s2, .int s3] h ↔ rAi ro h s1 s0 (fun v => rV ro R 417 L [.int v, .ref s2, .int s3] h) := (v_ai rfl)
set_option maxRecDepth 100000 in
theorem s_L_law_417 {ro : rQ} {R : rR} {h : rH} {s0 : Int32} {s1 : Nat} {s2 : Int32} {L : List Value} : rV ro R 417 L [.int s0, .ref s1, .int s2] h ↔ rVc ro 1000 [9, 131] s1 [.int s0] h (fun r h => rV ro R 420 L (r.toList ++ [.int s2]) h) := (v_vc (kd := 0) (n := 1) rfl)
set_option maxRecDepth 100000 in
theorem s_L_law_420 {ro : rQ} {R : rR} {h : rH} {s0 : Int32} {s1 : Int32} {L : List Value} : rV ro R 420 L [.int s0, .int s1] h ↔ (s1 = s0 → rV ro R 998 L [] h) ∧ (¬ s1 = s0 → rV ro R 423 L [] h) := (rV_iff)
set_option maxRecDepth 100000 in
theorem s_L_law_423 {ro : rQ} {R : rR} {h : rH}  {L : List Value} : rV ro R 423 L [] h ↔ rV ro R 424 L [.int (nI 0)] h := (rV_iff)
set_option maxRecDepth 100000 in
theorem s_L_law_424 {ro : rQ} {R : rR} {h : rH} {s0 : Int32} {L : List Value} : rV ro R 424 L [.int s0] h ↔ (s0 = 0 ∨ s0 = 1) ∧ R (some (.int s0)) h := (v_retz rfl)
set_option maxRecDepth 100000 in
theorem s_L_law_425 {ro : rQ} {R : rR} {h : rH}  {x : Nat} {l0 l2 l3 : Value} : rV ro R 425 [l0, .ref x, l2, l3] [] h ↔ rV ro R 426 [l0, .ref x, l2, l3] [.ref x] h := (rV_iff)
set_option maxRecDepth 100000 in
theorem s_L_law_426 {ro : rQ} {R : rR} {h : rH} {s0 : Nat} {x : Nat} {l1 l2 l3 : Value} : rV ro R 426 [.ref x, l1, l2, l3] [.ref s0] h ↔ rV ro R 427 [.ref x, l1, l2, l3] [.ref x, .ref s0] h := (rV_iff)
set_option maxRecDepth 100000 in
theorem s_L_law_427 {ro : rQ} {R : rR} {h : rH} {s0 : Nat} {s1 : Nat} {x : Int32} {l0 l1 l2 : Value} : rV ro R 427 [l0, l1, l2, .int x] [.ref s0, .ref s1] h ↔ rV ro R 428 [l0, l1, l2, .int x] [.int x, .ref s0, .ref s1] h := (rV_iff)
set_option maxRecDepth 100000 in
theorem s_L_law_428 {ro : rQ} {R : rR} {h : rH} {s0 : Int32} {s1 : Nat} {s2 : Nat} {L : List Value} : rV ro R 428 L [.int s0, .ref s1, .ref s2] h ↔ rV ro R 429 L [.int (nI 1), .int s0, .ref s1, .ref s2] h := (rV_iff)
set_option maxRecDepth 100000 in
theorem s_L_law_429 {ro : rQ} {R : rR} {h : rH} {s0 : Int32} {s1 : Int32} {s2 : Nat} {s3 : Nat} {L : List Value} : rV ro R 429 L [.int s0, .int s1, .ref s2, .ref s3] h ↔ rV ro R 430 L [.int (s1 + s0), .ref s2, .ref s3] h := (rV_iff)
set_option maxRecDepth 100000 in
theorem s_L_law_430 {ro : rQ} {R : rR} {h : rH} {s0 : Int32} {s1 : Nat} {s2 : Nat} {L : List Value} : rV ro R 430 L [.int s0, .ref s1, .ref s2] h ↔ rAi ro h s1 s0 (fun v => rV ro R 431 L [.int v, .ref s2] h) := (v_ai rfl)
set_option maxRecDepth 100000 in
theorem s_L_law_431 {ro : rQ} {R : rR} {h : rH} {s0 : Int32} {s1 : Nat} {x : Nat} {l1 l2 l3 : Value} : rV ro R 431 [.ref x, l1, l2, l3] [.int s0, .ref s1] h ↔ rV ro R 432 [.ref x, l1, l2, l3] [.ref x, .int s0, .ref s1] h := (rV_iff)
set_option maxRecDepth 100000 in
theorem s_L_law_432 {ro : rQ} {R : rR} {h : rH} {s0 : Nat} {s1 : Int32} {s2 : Nat} {x : Int32} {l0 l1 l2 : Value} : rV ro R 432 [l0, l1, l2, .int x] [.ref s0, .int s1, .ref s2] h ↔ rV ro R 433 [l0, l1, l2, .int x] [.int x, .ref s0, .int s1, .ref s2] h := (rV_iff)
set_option maxRecDepth 100000 in
theorem s_L_law_433 {ro : rQ} {R : rR} {h : rH} {s0 : Int32} {s1 : Nat} {s2 : Int32} {s3 : Nat} {L : List Value} : rV ro R 433 L [.int s0, .ref s1, .int s2, .ref s3] h ↔ rV ro R 434 L [.int (nI 2), .int s0, .ref s1, .int s2, .ref s3] h := (rV_iff)
set_option maxRecDepth 100000 in
theorem s_L_law_434 {ro : rQ} {R : rR} {h : rH} {s0 : Int32} {s1 : Int32} {s2 : Nat} {s3 : Int32} {s4 : Nat} {L : List Value} : rV ro R 434 L [.int s0, .int s1, .ref s2, .int s3, .ref s4] h ↔ rV ro R 435 L [.int (s1 + s0), .ref s2, .int s3, .ref s4] h := (rV_iff)
set_option maxRecDepth 100000 in
theorem s_L_law_435 {ro : rQ} {R : rR} {h : rH} {s0 : Int32} {s1 : Nat} {s2 : Int32} {s3 : Nat} {L : List Value} : rV ro R 435 L [.int s0, .ref s1, .int s2, .ref s3] h ↔ rAi ro h s1 s0 (fun v => rV ro R 436 L [.int v, .int s2, .ref s3] h) := (v_ai rfl)
set_option maxRecDepth 100000 in
theorem s_L_law_436 {ro : rQ} {R : rR} {h : rH} {s0 : Int32} {s1 : Int32} {s2 : Nat} {x : Nat} {l1 l2 l3 : Value} : rV ro R 436 [.ref x, l1, l2, l3] [.int s0, .int s1, .ref s2] h ↔ rV ro R 437 [.ref x, l1, l2, l3] [.ref x, .int s0, .int s1, .ref s2] h := (rV_iff)
set_option maxRecDepth 100000 in
theorem s_L_law_437 {ro : rQ} {R : rR} {h : rH} {s0 : Nat} {s1 : Int32} {s2 : Int32} {s3 : Nat} {x : Int32} {l0 l1 l2 : Value} : rV ro R 437 [l0, l1, l2, .int x] [.ref s0, .int s1, .int s2, .ref s3] h ↔ rV ro R 438 [l0, l1, l2, .int x] [.int x, .ref s0, .int s1, .int s2, .ref s3] h := (rV_iff)
set_option maxRecDepth 100000 in
theorem s_L_law_438 {ro : rQ} {R : rR} {h : rH} {s0 : Int32} {s1 : Nat} {s2 : Int32} {s3 : Int32} {s4 : Nat} {L : List Value} : rV ro R 438 L [.int s0, .ref s1, .int s2, .int s3, .ref s4] h ↔ rV ro R 439 L [.int (nI 3), .int s0, .ref s1, .int s2, .int s3, .ref s4] h := (rV_iff)
set_option maxRecDepth 100000 in
theorem s_L_law_439 {ro : rQ} {R : rR} {h : rH} {s0 : Int32} {s1 : Int32} {s2 : Nat} {s3 : Int32} {s4 : Int32} {s5 : Nat} {L : List Value} : rV ro R 439 L [.int s0, .int s1, .ref s2, .int s3, .int s4, .ref s5] h ↔ rV ro R 440 L [.int (s1 + s0), .ref s2, .int s3, .int s4, .ref s5] h := (rV_iff)
set_option maxRecDepth 100000 in
theorem s_L_law_440 {ro : rQ} {R : rR} {h : rH} {s0 : Int32} {s1 : Nat} {s2 : Int32} {s3 : Int32} {s4 : Nat} {L : List Value} : rV ro R 440 L [.int s0, .ref s1, .int s2, .int s3, .ref s4] h ↔ rAi ro h s1 s0 (fun v => rV ro R 441 L [.int v, .int s2, .int s3, .ref s4] h) := (v_ai rfl)
set_option maxRecDepth 100000 in
theorem s_L_law_441 {ro : rQ} {R : rR} {h : rH} {s0 : Int32} {s1 : Int32} {s2 : Int32} {s3 : Nat} {L : List Value} : rV ro R 441 L [.int s0, .int s1, .int s2, .ref s3] h ↔ rVc ro 1000 [8, 55] s3 [.int s2, .int s1, .int s0] h (fun r h => rV ro R 444 L (r.toList ++ []) h) := (v_vc (kd := 0) (n := 3) rfl)
set_option maxRecDepth 100000 in
theorem s_L_law_444 {ro : rQ} {R : rR} {h : rH} {s0 : Int64} {x : Nat} {l0 l1 l3 : Value} : rV ro R 444 [l0, l1, .ref x, l3] [.long s0] h ↔ rV ro R 445 [l0, l1, .ref x, l3] [.ref x, .long s0] h := (rV_iff)
set_option maxRecDepth 100000 in
theorem s_L_law_445 {ro : rQ} {R : rR} {h : rH} {s0 : Nat} {s1 : Int64} {x : Nat} {l1 l2 l3 : Value} : rV ro R 445 [.ref x, l1, l2, l3] [.ref s0, .long s1] h ↔ rV ro R 446 [.ref x, l1, l2, l3] [.ref x, .ref s0, .long s1] h := (rV_iff)
set_option maxRecDepth 100000 in
theorem s_L_law_446 {ro : rQ} {R : rR} {h : rH} {s0 : Nat} {s1 : Nat} {s2 : Int64} {x : Int32} {l0 l1 l2 : Value} : rV ro R 446 [l0, l1, l2, .int x] [.ref s0, .ref s1, .long s2] h ↔ rV ro R 447 [l0, l1, l2, .int x] [.int x, .ref s0, .ref s1, .long s2] h := (rV_iff)
set_option maxRecDepth 100000 in
theorem s_L_law_447 {ro : rQ} {R : rR} {h : rH} {s0 : Int32} {s1 : Nat} {s2 : Nat} {s3 : Int64} {L : List Value} : rV ro R 447 L [.int s0, .ref s1, .ref s2, .long s3] h ↔ rV ro R 448 L [.int (nI 1), .int s0, .ref s1, .ref s2, .long s3] h := (rV_iff)
set_option maxRecDepth 100000 in
theorem s_L_law_448 {ro : rQ} {R : rR} {h : rH} {s0 : Int32} {s1 : Int32} {s2 : Nat} {s3 : Nat} {s4 : Int64} {L : List Value} : rV ro R 448 L [.int s0, .int s1, .ref s2, .ref s3, .long s4] h ↔ rV ro R 449 L [.int (s1 + s0), .ref s2, .ref s3, .long s4] h := (rV_iff)
set_option maxRecDepth 100000 in
theorem s_L_law_449 {ro : rQ} {R : rR} {h : rH} {s0 : Int32} {s1 : Nat} {s2 : Nat} {s3 : Int64} {L : List Value} : rV ro R 449 L [.int s0, .ref s1, .ref s2, .long s3] h ↔ rAi ro h s1 s0 (fun v => rV ro R 450 L [.int v, .ref s2, .long s3] h) := (v_ai rfl)
set_option maxRecDepth 100000 in
theorem s_L_law_450 {ro : rQ} {R : rR} {h : rH} {s0 : Int32} {s1 : Nat} {s2 : Int64} {x : Nat} {l1 l2 l3 : Value} : rV ro R 450 [.ref x, l1, l2, l3] [.int s0, .ref s1, .long s2] h ↔ rV ro R 451 [.ref x, l1, l2, l3] [.ref x, .int s0, .ref s1, .long s2] h := (rV_iff)
set_option maxRecDepth 100000 in
theorem s_L_law_451 {ro : rQ} {R : rR} {h : rH} {s0 : Nat} {s1 : Int32} {s2 : Nat} {s3 : Int64} {x : Int32} {l0 l1 l2 : Value} : rV ro R 451 [l0, l1, l2, .int x] [.ref s0, .int s1, .ref s2, .long s3] h ↔ rV ro R 452 [l0, l1, l2, .int x] [.int x, .ref s0, .int s1, .ref s2, .long s3] h := (rV_iff)
set_option maxRecDepth 100000 in
theorem s_L_law_452 {ro : rQ} {R : rR} {h : rH} {s0 : Int32} {s1 : Nat} {s2 : Int32} {s3 : Nat} {s4 : Int64} {L : List Value} : rV ro R 452 L [.int s0, .ref s1, .int s2, .ref s3, .long s4] h ↔ rV ro R 453 L [.int (nI 2), .int s0, .ref s1, .int s2, .ref s3, .long s4] h := (rV_iff)
set_option maxRecDepth 100000 in
theorem s_L_law_453 {ro : rQ} {R : rR} {h : rH} {s0 : Int32} {s1 : Int32} {s2 : Nat} {s3 : Int32} {s4 : Nat} {s5 : Int64} {L : List Value} : rV ro R 453 L [.int s0, .int s1, .ref s2, .int s3, .ref s4, .long s5] h ↔ rV ro R 454 L [.int (s1 + s0), .ref s2, .int s3, .ref s4, .long s5] h := (rV_iff)
set_option maxRecDepth 100000 in
theorem s_L_law_454 {ro : rQ} {R : rR} {h : rH} {s0 : Int32} {s1 : Nat} {s2 : Int32} {s3 : Nat} {s4 : Int64} {L : List Value} : rV ro R 454 L [.int s0, .ref s1, .int s2, .ref s3, .long s4] h ↔ rAi ro h s1 s0 (fun v => rV ro R 455 L [.int v, .int s2, .ref s3, .long s4] h) := (v_ai rfl)
set_option maxRecDepth 100000 in
theorem s_L_law_455 {ro : rQ} {R : rR} {h : rH} {s0 : Int32} {s1 : Int32} {s2 : Nat} {s3 : Int64} {x : Nat} {l1 l2 l3 : Value} : rV ro R 455 [.ref x, l1, l2, l3] [.int s0, .int s1, .ref s2, .long s3] h ↔ rV ro R 456 [.ref x, l1, l2, l3] [.ref x, .int s0, .int s1, .ref s2, .long s3] h := (rV_iff)
set_option maxRecDepth 100000 in
theorem s_L_law_456 {ro : rQ} {R : rR} {h : rH} {s0 : Nat} {s1 : Int32} {s2 : Int32} {s3 : Nat} {s4 : Int64} {x : Int32} {l0 l1 l2 : Value} : rV ro R 456 [l0, l1, l2, .int x] [.ref s0, .int s1, .int s2, .ref s3, .long s4] h ↔ rV ro R 457 [l0, l1, l2, .int x] [.int x, .ref s0, .int s1, .int s2, .ref s3, .long s4] h := (rV_iff)
set_option maxRecDepth 100000 in
theorem s_L_law_457 {ro : rQ} {R : rR} {h : rH} {s0 : Int32} {s1 : Nat} {s2 : Int32} {s3 : Int32} {s4 : Nat} {s5 : Int64} {L : List Value} : rV ro R 457 L [.int s0, .ref s1, .int s2, .int s3, .ref s4, .long s5] h ↔ rV ro R 458 L [.int (nI 3), .int s0, .ref s1, .int s2, .int s3, .ref s4, .long s5] h := (rV_iff)
set_option maxRecDepth 100000 in
theorem s_L_law_458 {ro : rQ} {R : rR} {h : rH} {s0 : Int32} {s1 : Int32} {s2 : Nat} {s3 : Int32} {s4 : Int32} {s5 : Nat} {s6 : Int64} {L : List Value} : rV ro R 458 L [.int s0, .int s1, .ref s2, .int s3, .int s4, .ref s5, .long s6] h ↔ rV ro R 459 L [.int (s1 + s0), .ref s2, .int s3, .int s4, .ref s5, .long s6] h := (rV_iff)
set_option maxRecDepth 100000 in
theorem s_L_law_459 {ro : rQ} {R : rR} {h : rH} {s0 : Int32} {s1 : Nat} {s2 : Int32} {s3 : Int32} {s4 : Nat} {s5 : Int64} {L : List Value} : rV ro R 459 L [.int s0, .ref s1, .int s2, .int s3, .ref s4, .long s5] h ↔ rAi ro h s1 s0 (fun v => rV ro R 460 L [.int v, .int s2, .int s3, .ref s4, .long s5] h) := (v_ai rfl)
set_option maxRecDepth 100000 in
theorem s_L_law_460 {ro : rQ} {R : rR} {h : rH} {s0 : Int32} {s1 : Int32} {s2 : Int32} {s3 : Nat} {s4 : Int64} {L : List Value} : rV ro R 460 L [.int s0, .int s1, .int s2, .ref s3, .long s4] h ↔ rVc ro 1000 [9, 134] s3 [.int s2, .int s1, .int s0] h (fun r h => rV ro R 463 L (r.toList ++ [.long s4]) h) := (v_vc (kd := 0) (n := 3) rfl)
set_option maxRecDepth 100000 in
theorem s_L_law_463 {ro : rQ} {R : rR} {h : rH} {s0 : Int64} {s1 : Int64} {L : List Value} : rV ro R 463 L [.long s0, .long s1] h ↔ rV ro R 464 L [.int (lg_cmp s1 s0)] h := (rV_iff)
set_option maxRecDepth 100000 in
theorem s_L_law_464 {ro : rQ} {R : rR} {h : rH} {s0 : Int32} {L : List Value} : rV ro R 464 L [.int s0] h ↔ (s0 = 0 → rV ro R 998 L [] h) ∧ (¬ s0 = 0 → rV ro R 467 L [] h) := (rV_iff)
set_option maxRecDepth 100000 in
theorem s_L_law_467 {ro : rQ} {R : rR} {h : rH}  {L : List Value} : rV ro R 467 L [] h ↔ rV ro R 468 L [.int (nI 0)] h := (rV_iff)
set_option maxRecDepth 100000 in
theorem s_L_law_468 {ro : rQ} {R : rR} {h : rH} {s0 : Int32} {L : List Value} : rV ro R 468 L [.int s0] h ↔ (s0 = 0 ∨ s0 = 1) ∧ R (some (.int s0)) h := (v_retz rfl)
set_option maxRecDepth 100000 in
theorem s_L_law_469 {ro : rQ} {R : rR} {h : rH}  {x : Nat} {l0 l2 l3 : Value} : rV ro R 469 [l0, .ref x, l2, l3] [] h ↔ rV ro R 470 [l0, .ref x, l2, l3] [.ref x] h := (rV_iff)
set_option maxRecDepth 100000 in
theorem s_L_law_470 {ro : rQ} {R : rR} {h : rH} {s0 : Nat} {x : Nat} {l1 l2 l3 : Value} : rV ro R 470 [.ref x, l1, l2, l3] [.ref s0] h ↔ rV ro R 471 [.ref x, l1, l2, l3] [.ref x, .ref s0] h := (rV_iff)
set_option maxRecDepth 100000 in
theorem s_L_law_471 {ro : rQ} {R : rR} {h : rH} {s0 : Nat} {s1 : Nat} {x : Int32} {l0 l1 l2 : Value} : rV ro R 471 [l0, l1, l2, .int x] [.ref s0, .ref s1] h ↔ rV ro R 472 [l0, l1, l2, .int x] [.int x, .ref s0, .ref s1] h := (rV_iff)
set_option maxRecDepth 100000 in
theorem s_L_law_472 {ro : rQ} {R : rR} {h : rH} {s0 : Int32} {s1 : Nat} {s2 : Nat} {L : List Value} : rV ro R 472 L [.int s0, .ref s1, .ref s2] h ↔ rV ro R 473 L [.int (nI 1), .int s0, .ref s1, .ref s2] h := (rV_iff)
set_option maxRecDepth 100000 in
theorem s_L_law_473 {ro : rQ} {R : rR} {h : rH} {s0 : Int32} {s1 : Int32} {s2 : Nat} {s3 : Nat} {L : List Value} : rV ro R 473 L [.int s0, .int s1, .ref s2, .ref s3] h ↔ rV ro R 474 L [.int (s1 + s0), .ref s2, .ref s3] h := (rV_iff)
set_option maxRecDepth 100000 in
theorem s_L_law_474 {ro : rQ} {R : rR} {h : rH} {s0 : Int32} {s1 : Nat} {s2 : Nat} {L : List Value} : rV ro R 474 L [.int s0, .ref s1, .ref s2] h ↔ rAi ro h s1 s0 (fun v => rV ro R 475 L [.int v, .ref s2] h) := (v_ai rfl)
set_option maxRecDepth 100000 in
theorem s_L_law_475 {ro : rQ} {R : rR} {h : rH} {s0 : Int32} {s1 : Nat} {L : List Value} : rV ro R 475 L [.int s0, .ref s1] h ↔ rVc ro 1000 [8, 56] s1 [.int s0] h (fun r h => rV ro R 478 L (r.toList ++ []) h) := (v_vc (kd := 0) (n := 1) rfl)
set_option maxRecDepth 100000 in
theorem s_L_law_478 {ro : rQ} {R : rR} {h : rH} {s0 : Int64} {x : Nat} {l0 l1 l3 : Value} : rV ro R 478 [l0, l1, .ref x, l3] [.long s0] h ↔ rV ro R 479 [l0, l1, .ref x, l3] [.ref x, .long s0] h := (rV_iff)
set_option maxRecDepth 100000 in
theorem s_L_law_479 {ro : rQ} {R : rR} {h : rH} {s0 : Nat} {s1 : Int64} {x : Nat} {l1 l2 l3 : Value} : rV ro R 479 [.ref x, l1, l2, l3] [.ref s0, .long s1] h ↔ rV ro R 480 [.ref x, l1, l2, l3] [.ref x, .ref s0, .long s1] h := (rV_iff)
set_option maxRecDepth 100000 in
theorem s_L_law_480 {ro : rQ} {R : rR} {h : rH} {s0 : Nat} {s1 : Nat} {s2 : Int64} {x : Int32} {l0 l1 l2 : Value} : rV ro R 480 [l0, l1, l2, .int x] [.ref s0, .ref s1, .long s2] h ↔ rV ro R 481 [l0, l1, l2, .int x] [.int x, .ref s0, .ref s1, .long s2] h := (rV_iff)
set_option maxRecDepth 100000 in
theorem s_L_law_481 {ro : rQ} {R : rR} {h : rH} {s0 : Int32} {s1 : Nat} {s2 : Nat} {s3 : Int64} {L : List Value} : rV ro R 481 L [.int s0, .ref s1, .ref s2, .long s3] h ↔ rV ro R 482 L [.int (nI 1), .int s0, .ref s1, .ref s2, .long s3] h := (rV_iff)
set_option maxRecDepth 100000 in
theorem s_L_law_482 {ro : rQ} {R : rR} {h : rH} {s0 : Int32} {s1 : Int32} {s2 : Nat} {s3 : Nat} {s4 : Int64} {L : List Value} : rV ro R 482 L [.int s0, .int s1, .ref s2, .ref s3, .long s4] h ↔ rV ro R 483 L [.int (s1 + s0), .ref s2, .ref s3, .long s4] h := (rV_iff)
set_option maxRecDepth 100000 in
theorem s_L_law_483 {ro : rQ} {R : rR} {h : rH} {s0 : Int32} {s1 : Nat} {s2 : Nat} {s3 : Int64} {L : List Value} : rV ro R 483 L [.int s0, .ref s1, .ref s2, .long s3] h ↔ rAi ro h s1 s0 (fun v => rV ro R 484 L [.int v, .ref s2, .long s3] h) := (v_ai rfl)
set_option maxRecDepth 100000 in
theorem s_L_law_484 {ro : rQ} {R : rR} {h : rH} {s0 : Int32} {s1 : Nat} {s2 : Int64} {L : List Value} : rV ro R 484 L [.int s0, .ref s1, .long s2] h ↔ rVc ro 1000 [9, 136] s1 [.int s0] h (fun r h => rV ro R 487 L (r.toList ++ [.long s2]) h) := (v_vc (kd := 0) (n := 1) rfl)
set_option maxRecDepth 100000 in
theorem s_L_law_487 {ro : rQ} {R : rR} {h : rH} {s0 : Int64} {s1 : Int64} {L : List Value} : rV ro R 487 L [.long s0, .long s1] h ↔ rV ro R 488 L [.int (lg_cmp s1 s0)] h := (rV_iff)
set_option maxRecDepth 100000 in
theorem s_L_law_488 {ro : rQ} {R : rR} {h : rH} {s0 : Int32} {L : List Value} : rV ro R 488 L [.int s0] h ↔ (s0 = 0 → rV ro R 998 L [] h) ∧ (¬ s0 = 0 → rV ro R 491 L [] h) := (rV_iff)
set_option maxRecDepth 100000 in
theorem s_L_law_491 {ro : rQ} {R : rR} {h : rH}  {L : List Value} : rV ro R 491 L [] h ↔ rV ro R 492 L [.int (nI 0)] h := (rV_iff)
set_option maxRecDepth 100000 in
theorem s_L_law_492 {ro : rQ} {R : rR} {h : rH} {s0 : Int32} {L : List Value} : rV ro R 492 L [.int s0] h ↔ (s0 = 0 ∨ s0 = 1) ∧ R (some (.int s0)) h := (v_retz rfl)
set_option maxRecDepth 100000 in
theorem s_L_law_493 {ro : rQ} {R : rR} {h : rH}  {x : Nat} {l0 l2 l3 : Value} : rV ro R 493 [l0, .ref x, l2, l3] [] h ↔ rV ro R 494 [l0, .ref x, l2, l3] [.ref x] h := (rV_iff)
set_option maxRecDepth 100000 in
theorem s_L_law_494 {ro : rQ} {R : rR} {h : rH} {s0 : Nat} {x : Nat} {l1 l2 l3 : Value} : rV ro R 494 [.ref x, l1, l2, l3] [.ref s0] h ↔ rV ro R 495 [.ref x, l1, l2, l3] [.ref x, .ref s0] h := (rV_iff)
set_option maxRecDepth 100000 in
theorem s_L_law_495 {ro : rQ} {R : rR} {h : rH} {s0 : Nat} {s1 : Nat} {x : Int32} {l0 l1 l2 : Value} : rV ro R 495 [l0, l1, l2, .int x] [.ref s0, .ref s1] h ↔ rV ro R 496 [l0, l1, l2, .int x] [.int x, .ref s0, .ref s1] h := (rV_iff)
set_option maxRecDepth 100000 in
theorem s_L_law_496 {ro : rQ} {R : rR} {h : rH} {s0 : Int32} {s1 : Nat} {s2 : Nat} {L : List Value} : rV ro R 496 L [.int s0, .ref s1, .ref s2] h ↔ rV ro R 497 L [.int (nI 1), .int s0, .ref s1, .ref s2] h := (rV_iff)
set_option maxRecDepth 100000 in
theorem s_L_law_497 {ro : rQ} {R : rR} {h : rH} {s0 : Int32} {s1 : Int32} {s2 : Nat} {s3 : Nat} {L : List Value} : rV ro R 497 L [.int s0, .int s1, .ref s2, .ref s3] h ↔ rV ro R 498 L [.int (s1 + s0), .ref s2, .ref s3] h := (rV_iff)
set_option maxRecDepth 100000 in
theorem s_L_law_498 {ro : rQ} {R : rR} {h : rH} {s0 : Int32} {s1 : Nat} {s2 : Nat} {L : List Value} : rV ro R 498 L [.int s0, .ref s1, .ref s2] h ↔ rAi ro h s1 s0 (fun v => rV ro R 499 L [.int v, .ref s2] h) := (v_ai rfl)
set_option maxRecDepth 100000 in
theorem s_L_law_499 {ro : rQ} {R : rR} {h : rH} {s0 : Int32} {s1 : Nat} {x : Nat} {l1 l2 l3 : Value} : rV ro R 499 [.ref x, l1, l2, l3] [.int s0, .ref s1] h ↔ rV ro R 500 [.ref x, l1, l2, l3] [.ref x, .int s0, .ref s1] h := (rV_iff)
set_option maxRecDepth 100000 in
theorem s_L_law_500 {ro : rQ} {R : rR} {h : rH} {s0 : Nat} {s1 : Int32} {s2 : Nat} {x : Int32} {l0 l1 l2 : Value} : rV ro R 500 [l0, l1, l2, .int x] [.ref s0, .int s1, .ref s2] h ↔ rV ro R 501 [l0, l1, l2, .int x] [.int x, .ref s0, .int s1, .ref s2] h := (rV_iff)
set_option maxRecDepth 100000 in
theorem s_L_law_501 {ro : rQ} {R : rR} {h : rH} {s0 : Int32} {s1 : Nat} {s2 : Int32} {s3 : Nat} {L : List Value} : rV ro R 501 L [.int s0, .ref s1, .int s2, .ref s3] h ↔ rV ro R 502 L [.int (nI 2), .int s0, .ref s1, .int s2, .ref s3] h := (rV_iff)
set_option maxRecDepth 100000 in
theorem s_L_law_502 {ro : rQ} {R : rR} {h : rH} {s0 : Int32} {s1 : Int32} {s2 : Nat} {s3 : Int32} {s4 : Nat} {L : List Value} : rV ro R 502 L [.int s0, .int s1, .ref s2, .int s3, .ref s4] h ↔ rV ro R 503 L [.int (s1 + s0), .ref s2, .int s3, .ref s4] h := (rV_iff)
set_option maxRecDepth 100000 in
theorem s_L_law_503 {ro : rQ} {R : rR} {h : rH} {s0 : Int32} {s1 : Nat} {s2 : Int32} {s3 : Nat} {L : List Value} : rV ro R 503 L [.int s0, .ref s1, .int s2, .ref s3] h ↔ rAi ro h s1 s0 (fun v => rV ro R 504 L [.int v, .int s2, .ref s3] h) := (v_ai rfl)
set_option maxRecDepth 100000 in
theorem s_L_law_504 {ro : rQ} {R : rR} {h : rH} {s0 : Int32} {s1 : Int32} {s2 : Nat} {L : List Value} : rV ro R 504 L [.int s0, .int s1, .ref s2] h ↔ rVc ro 1000 [8, 57] s2 [.int s1, .int s0] h (fun r h => rV ro R 507 L (r.toList ++ []) h) := (v_vc (kd := 0) (n := 2) rfl)
set_option maxRecDepth 100000 in
theorem s_L_law_507 {ro : rQ} {R : rR} {h : rH} {s0 : Int32} {x : Nat} {l0 l1 l3 : Value} : rV ro R 507 [l0, l1, .ref x, l3] [.int s0] h ↔ rV ro R 508 [l0, l1, .ref x, l3] [.ref x, .int s0] h := (rV_iff)
set_option maxRecDepth 100000 in
theorem s_L_law_508 {ro : rQ} {R : rR} {h : rH} {s0 : Nat} {s1 : Int32} {x : Nat} {l1 l2 l3 : Value} : rV ro R 508 [.ref x, l1, l2, l3] [.ref s0, .int s1] h ↔ rV ro R 509 [.ref x, l1, l2, l3] [.ref x, .ref s0, .int s1] h := (rV_iff)
set_option maxRecDepth 100000 in
theorem s_L_law_509 {ro : rQ} {R : rR} {h : rH} {s0 : Nat} {s1 : Nat} {s2 : Int32} {x : Int32} {l0 l1 l2 : Value} : rV ro R 509 [l0, l1, l2, .int x] [.ref s0, .ref s1, .int s2] h ↔ rV ro R 510 [l0, l1, l2, .int x] [.int x, .ref s0, .ref s1, .int s2] h := (rV_iff)
set_option maxRecDepth 100000 in
theorem s_L_law_510 {ro : rQ} {R : rR} {h : rH} {s0 : Int32} {s1 : Nat} {s2 : Nat} {s3 : Int32} {L : List Value} : rV ro R 510 L [.int s0, .ref s1, .ref s2, .int s3] h ↔ rV ro R 511 L [.int (nI 1), .int s0, .ref s1, .ref s2, .int s3] h := (rV_iff)
set_option maxRecDepth 100000 in
theorem s_L_law_511 {ro : rQ} {R : rR} {h : rH} {s0 : Int32} {s1 : Int32} {s2 : Nat} {s3 : Nat} {s4 : Int32} {L : List Value} : rV ro R 511 L [.int s0, .int s1, .ref s2, .ref s3, .int s4] h ↔ rV ro R 512 L [.int (s1 + s0), .ref s2, .ref s3, .int s4] h := (rV_iff)
set_option maxRecDepth 100000 in
theorem s_L_law_512 {ro : rQ} {R : rR} {h : rH} {s0 : Int32} {s1 : Nat} {s2 : Nat} {s3 : Int32} {L : List Value} : rV ro R 512 L [.int s0, .ref s1, .ref s2, .int s3] h ↔ rAi ro h s1 s0 (fun v => rV ro R 513 L [.int v, .ref s2, .int s3] h) := (v_ai rfl)
set_option maxRecDepth 100000 in
theorem s_L_law_513 {ro : rQ} {R : rR} {h : rH} {s0 : Int32} {s1 : Nat} {s2 : Int32} {x : Nat} {l1 l2 l3 : Value} : rV ro R 513 [.ref x, l1, l2, l3] [.int s0, .ref s1, .int s2] h ↔ rV ro R 514 [.ref x, l1, l2, l3] [.ref x, .int s0, .ref s1, .int s2] h := (rV_iff)
set_option maxRecDepth 100000 in
theorem s_L_law_514 {ro : rQ} {R : rR} {h : rH} {s0 : Nat} {s1 : Int32} {s2 : Nat} {s3 : Int32} {x : Int32} {l0 l1 l2 : Value} : rV ro R 514 [l0, l1, l2, .int x] [.ref s0, .int s1, .ref s2, .int s3] h ↔ rV ro R 515 [l0, l1, l2, .int x] [.int x, .ref s0, .int s1, .ref s2, .int s3] h := (rV_iff)
set_option maxRecDepth 100000 in
theorem s_L_law_515 {ro : rQ} {R : rR} {h : rH} {s0 : Int32} {s1 : Nat} {s2 : Int32} {s3 : Nat} {s4 : Int32} {L : List Value} : rV ro R 515 L [.int s0, .ref s1, .int s2, .ref s3, .int s4] h ↔ rV ro R 516 L [.int (nI 2), .int s0, .ref s1, .int s2, .ref s3, .int s4] h := (rV_iff)
set_option maxRecDepth 100000 in
theorem s_L_law_516 {ro : rQ} {R : rR} {h : rH} {s0 : Int32} {s1 : Int32} {s2 : Nat} {s3 : Int32} {s4 : Nat} {s5 : Int32} {L : List Value} : rV ro R 516 L [.int s0, .int s1, .ref s2, .int s3, .ref s4, .int s5] h ↔ rV ro R 517 L [.int (s1 + s0), .ref s2, .int s3, .ref s4, .int s5] h := (rV_iff)
set_option maxRecDepth 100000 in
theorem s_L_law_517 {ro : rQ} {R : rR} {h : rH} {s0 : Int32} {s1 : Nat} {s2 : Int32} {s3 : Nat} {s4 : Int32} {L : List Value} : rV ro R 517 L [.int s0, .ref s1, .int s2, .ref s3, .int s4] h ↔ rAi ro h s1 s0 (fun v => rV ro R 518 L [.int v, .int s2, .ref s3, .int s4] h) := (v_ai rfl)
set_option maxRecDepth 100000 in
theorem s_L_law_518 {ro : rQ} {R : rR} {h : rH} {s0 : Int32} {s1 : Int32} {s2 : Nat} {s3 : Int32} {L : List Value} : rV ro R 518 L [.int s0, .int s1, .ref s2, .int s3] h ↔ rVc ro 1000 [9, 139] s2 [.int s1, .int s0] h (fun r h => rV ro R 521 L (r.toList ++ [.int s3]) h) := (v_vc (kd := 0) (n := 2) rfl)
set_option maxRecDepth 100000 in
theorem s_L_law_521 {ro : rQ} {R : rR} {h : rH} {s0 : Int32} {s1 : Int32} {L : List Value} : rV ro R 521 L [.int s0, .int s1] h ↔ (s1 = s0 → rV ro R 998 L [] h) ∧ (¬ s1 = s0 → rV ro R 524 L [] h) := (rV_iff)
set_option maxRecDepth 100000 in
theorem s_L_law_524 {ro : rQ} {R : rR} {h : rH}  {L : List Value} : rV ro R 524 L [] h ↔ rV ro R 525 L [.int (nI 0)] h := (rV_iff)
set_option maxRecDepth 100000 in
theorem s_L_law_525 {ro : rQ} {R : rR} {h : rH} {s0 : Int32} {L : List Value} : rV ro R 525 L [.int s0] h ↔ (s0 = 0 ∨ s0 = 1) ∧ R (some (.int s0)) h := (v_retz rfl)
set_option maxRecDepth 100000 in
theorem s_L_law_526 {ro : rQ} {R : rR} {h : rH}  {x : Nat} {l0 l2 l3 : Value} : rV ro R 526 [l0, .ref x, l2, l3] [] h ↔ rV ro R 527 [l0, .ref x, l2, l3] [.ref x] h := (rV_iff)
set_option maxRecDepth 100000 in
theorem s_L_law_527 {ro : rQ} {R : rR} {h : rH} {s0 : Nat} {x : Nat} {l1 l2 l3 : Value} : rV ro R 527 [.ref x, l1, l2, l3] [.ref s0] h ↔ rV ro R 528 [.ref x, l1, l2, l3] [.ref x, .ref s0] h := (rV_iff)
set_option maxRecDepth 100000 in
theorem s_L_law_528 {ro : rQ} {R : rR} {h : rH} {s0 : Nat} {s1 : Nat} {x : Int32} {l0 l1 l2 : Value} : rV ro R 528 [l0, l1, l2, .int x] [.ref s0, .ref s1] h ↔ rV ro R 529 [l0, l1, l2, .int x] [.int x, .ref s0, .ref s1] h := (rV_iff)
set_option maxRecDepth 100000 in
theorem s_L_law_529 {ro : rQ} {R : rR} {h : rH} {s0 : Int32} {s1 : Nat} {s2 : Nat} {L : List Value} : rV ro R 529 L [.int s0, .ref s1, .ref s2] h ↔ rV ro R 530 L [.int (nI 1), .int s0, .ref s1, .ref s2] h := (rV_iff)
set_option maxRecDepth 100000 in
theorem s_L_law_530 {ro : rQ} {R : rR} {h : rH} {s0 : Int32} {s1 : Int32} {s2 : Nat} {s3 : Nat} {L : List Value} : rV ro R 530 L [.int s0, .int s1, .ref s2, .ref s3] h ↔ rV ro R 531 L [.int (s1 + s0), .ref s2, .ref s3] h := (rV_iff)
set_option maxRecDepth 100000 in
theorem s_L_law_531 {ro : rQ} {R : rR} {h : rH} {s0 : Int32} {s1 : Nat} {s2 : Nat} {L : List Value} : rV ro R 531 L [.int s0, .ref s1, .ref s2] h ↔ rAi ro h s1 s0 (fun v => rV ro R 532 L [.int v, .ref s2] h) := (v_ai rfl)
set_option maxRecDepth 100000 in
theorem s_L_law_532 {ro : rQ} {R : rR} {h : rH} {s0 : Int32} {s1 : Nat} {x : Nat} {l1 l2 l3 : Value} : rV ro R 532 [.ref x, l1, l2, l3] [.int s0, .ref s1] h ↔ rV ro R 533 [.ref x, l1, l2, l3] [.ref x, .int s0, .ref s1] h := (rV_iff)
set_option maxRecDepth 100000 in
theorem s_L_law_533 {ro : rQ} {R : rR} {h : rH} {s0 : Nat} {s1 : Int32} {s2 : Nat} {x : Int32} {l0 l1 l2 : Value} : rV ro R 533 [l0, l1, l2, .int x] [.ref s0, .int s1, .ref s2] h ↔ rV ro R 534 [l0, l1, l2, .int x] [.int x, .ref s0, .int s1, .ref s2] h := (rV_iff)
set_option maxRecDepth 100000 in
theorem s_L_law_534 {ro : rQ} {R : rR} {h : rH} {s0 : Int32} {s1 : Nat} {s2 : Int32} {s3 : Nat} {L : List Value} : rV ro R 534 L [.int s0, .ref s1, .int s2, .ref s3] h ↔ rV ro R 535 L [.int (nI 2), .int s0, .ref s1, .int s2, .ref s3] h := (rV_iff)
set_option maxRecDepth 100000 in
theorem s_L_law_535 {ro : rQ} {R : rR} {h : rH} {s0 : Int32} {s1 : Int32} {s2 : Nat} {s3 : Int32} {s4 : Nat} {L : List Value} : rV ro R 535 L [.int s0, .int s1, .ref s2, .int s3, .ref s4] h ↔ rV ro R 536 L [.int (s1 + s0), .ref s2, .int s3, .ref s4] h := (rV_iff)
set_option maxRecDepth 100000 in
theorem s_L_law_536 {ro : rQ} {R : rR} {h : rH} {s0 : Int32} {s1 : Nat} {s2 : Int32} {s3 : Nat} {L : List Value} : rV ro R 536 L [.int s0, .ref s1, .int s2, .ref s3] h ↔ rAi ro h s1 s0 (fun v => rV ro R 537 L [.int v, .int s2, .ref s3] h) := (v_ai rfl)
set_option maxRecDepth 100000 in
theorem s_L_law_537 {ro : rQ} {R : rR} {h : rH} {s0 : Int32} {s1 : Int32} {s2 : Nat} {L : List Value} : rV ro R 537 L [.int s0, .int s1, .ref s2] h ↔ rVc ro 1000 [8, 58] s2 [.int s1, .int s0] h (fun r h => rV ro R 540 L (r.toList ++ []) h) := (v_vc (kd := 0) (n := 2) rfl)
set_option maxRecDepth 100000 in
theorem s_L_law_540 {ro : rQ} {R : rR} {h : rH} {s0 : Int64} {x : Nat} {l0 l1 l3 : Value} : rV ro R 540 [l0, l1, .ref x, l3] [.long s0] h ↔ rV ro R 541 [l0, l1, .ref x, l3] [.ref x, .long s0] h := (rV_iff)
set_option maxRecDepth 100000 in
theorem s_L_law_541 {ro : rQ} {R : rR} {h : rH} {s0 : Nat} {s1 : Int64} {x : Nat} {l1 l2 l3 : Value} : rV ro R 541 [.ref x, l1, l2, l3] [.ref s0, .long s1] h ↔ rV ro R 542 [.ref x, l1, l2, l3] [.ref x, .ref s0, .long s1] h := (rV_iff)
set_option maxRecDepth 100000 in
theorem s_L_law_542 {ro : rQ} {R : rR} {h : rH} {s0 : Nat} {s1 : Nat} {s2 : Int64} {x : Int32} {l0 l1 l2 : Value} : rV ro R 542 [l0, l1, l2, .int x] [.ref s0, .ref s1, .long s2] h ↔ rV ro R 543 [l0, l1, l2, .int x] [.int x, .ref s0, .ref s1, .long s2] h := (rV_iff)
set_option maxRecDepth 100000 in
theorem s_L_law_543 {ro : rQ} {R : rR} {h : rH} {s0 : Int32} {s1 : Nat} {s2 : Nat} {s3 : Int64} {L : List Value} : rV ro R 543 L [.int s0, .ref s1, .ref s2, .long s3] h ↔ rV ro R 544 L [.int (nI 1), .int s0, .ref s1, .ref s2, .long s3] h := (rV_iff)
set_option maxRecDepth 100000 in
theorem s_L_law_544 {ro : rQ} {R : rR} {h : rH} {s0 : Int32} {s1 : Int32} {s2 : Nat} {s3 : Nat} {s4 : Int64} {L : List Value} : rV ro R 544 L [.int s0, .int s1, .ref s2, .ref s3, .long s4] h ↔ rV ro R 545 L [.int (s1 + s0), .ref s2, .ref s3, .long s4] h := (rV_iff)
set_option maxRecDepth 100000 in
theorem s_L_law_545 {ro : rQ} {R : rR} {h : rH} {s0 : Int32} {s1 : Nat} {s2 : Nat} {s3 : Int64} {L : List Value} : rV ro R 545 L [.int s0, .ref s1, .ref s2, .long s3] h ↔ rAi ro h s1 s0 (fun v => rV ro R 546 L [.int v, .ref s2, .long s3] h) := (v_ai rfl)
set_option maxRecDepth 100000 in
theorem s_L_law_546 {ro : rQ} {R : rR} {h : rH} {s0 : Int32} {s1 : Nat} {s2 : Int64} {x : Nat} {l1 l2 l3 : Value} : rV ro R 546 [.ref x, l1, l2, l3] [.int s0, .ref s1, .long s2] h ↔ rV ro R 547 [.ref x, l1, l2, l3] [.ref x, .int s0, .ref s1, .long s2] h := (rV_iff)
set_option maxRecDepth 100000 in
theorem s_L_law_547 {ro : rQ} {R : rR} {h : rH} {s0 : Nat} {s1 : Int32} {s2 : Nat} {s3 : Int64} {x : Int32} {l0 l1 l2 : Value} : rV ro R 547 [l0, l1, l2, .int x] [.ref s0, .int s1, .ref s2, .long s3] h ↔ rV ro R 548 [l0, l1, l2, .int x] [.int x, .ref s0, .int s1, .ref s2, .long s3] h := (rV_iff)
set_option maxRecDepth 100000 in
theorem s_L_law_548 {ro : rQ} {R : rR} {h : rH} {s0 : Int32} {s1 : Nat} {s2 : Int32} {s3 : Nat} {s4 : Int64} {L : List Value} : rV ro R 548 L [.int s0, .ref s1, .int s2, .ref s3, .long s4] h ↔ rV ro R 549 L [.int (nI 2), .int s0, .ref s1, .int s2, .ref s3, .long s4] h := (rV_iff)
set_option maxRecDepth 100000 in
theorem s_L_law_549 {ro : rQ} {R : rR} {h : rH} {s0 : Int32} {s1 : Int32} {s2 : Nat} {s3 : Int32} {s4 : Nat} {s5 : Int64} {L : List Value} : rV ro R 549 L [.int s0, .int s1, .ref s2, .int s3, .ref s4, .long s5] h ↔ rV ro R 550 L [.int (s1 + s0), .ref s2, .int s3, .ref s4, .long s5] h := (rV_iff)
set_option maxRecDepth 100000 in
theorem s_L_law_550 {ro : rQ} {R : rR} {h : rH} {s0 : Int32} {s1 : Nat} {s2 : Int32} {s3 : Nat} {s4 : Int64} {L : List Value} : rV ro R 550 L [.int s0, .ref s1, .int s2, .ref s3, .long s4] h ↔ rAi ro h s1 s0 (fun v => rV ro R 551 L [.int v, .int s2, .ref s3, .long s4] h) := (v_ai rfl)
set_option maxRecDepth 100000 in
theorem s_L_law_551 {ro : rQ} {R : rR} {h : rH} {s0 : Int32} {s1 : Int32} {s2 : Nat} {s3 : Int64} {L : List Value} : rV ro R 551 L [.int s0, .int s1, .ref s2, .long s3] h ↔ rVc ro 1000 [9, 140] s2 [.int s1, .int s0] h (fun r h => rV ro R 554 L (r.toList ++ [.long s3]) h) := (v_vc (kd := 0) (n := 2) rfl)
set_option maxRecDepth 100000 in
theorem s_L_law_554 {ro : rQ} {R : rR} {h : rH} {s0 : Int64} {s1 : Int64} {L : List Value} : rV ro R 554 L [.long s0, .long s1] h ↔ rV ro R 555 L [.int (lg_cmp s1 s0)] h := (rV_iff)
set_option maxRecDepth 100000 in
theorem s_L_law_555 {ro : rQ} {R : rR} {h : rH} {s0 : Int32} {L : List Value} : rV ro R 555 L [.int s0] h ↔ (s0 = 0 → rV ro R 998 L [] h) ∧ (¬ s0 = 0 → rV ro R 558 L [] h) := (rV_iff)
set_option maxRecDepth 100000 in
theorem s_L_law_558 {ro : rQ} {R : rR} {h : rH}  {L : List Value} : rV ro R 558 L [] h ↔ rV ro R 559 L [.int (nI 0)] h := (rV_iff)
set_option maxRecDepth 100000 in
theorem s_L_law_559 {ro : rQ} {R : rR} {h : rH} {s0 : Int32} {L : List Value} : rV ro R 559 L [.int s0] h ↔ (s0 = 0 ∨ s0 = 1) ∧ R (some (.int s0)) h := (v_retz rfl)
set_option maxRecDepth 100000 in
theorem s_L_law_560 {ro : rQ} {R : rR} {h : rH}  {x : Nat} {l0 l2 l3 : Value} : rV ro R 560 [l0, .ref x, l2, l3] [] h ↔ rV ro R 561 [l0, .ref x, l2, l3] [.ref x] h := (rV_iff)
set_option maxRecDepth 100000 in
theorem s_L_law_561 {ro : rQ} {R : rR} {h : rH} {s0 : Nat} {x : Nat} {l1 l2 l3 : Value} : rV ro R 561 [.ref x, l1, l2, l3] [.ref s0] h ↔ rV ro R 562 [.ref x, l1, l2, l3] [.ref x, .ref s0] h := (rV_iff)
set_option maxRecDepth 100000 in
theorem s_L_law_562 {ro : rQ} {R : rR} {h : rH} {s0 : Nat} {s1 : Nat} {x : Int32} {l0 l1 l2 : Value} : rV ro R 562 [l0, l1, l2, .int x] [.ref s0, .ref s1] h ↔ rV ro R 563 [l0, l1, l2, .int x] [.int x, .ref s0, .ref s1] h := (rV_iff)
set_option maxRecDepth 100000 in
theorem s_L_law_563 {ro : rQ} {R : rR} {h : rH} {s0 : Int32} {s1 : Nat} {s2 : Nat} {L : List Value} : rV ro R 563 L [.int s0, .ref s1, .ref s2] h ↔ rV ro R 564 L [.int (nI 1), .int s0, .ref s1, .ref s2] h := (rV_iff)
set_option maxRecDepth 100000 in
theorem s_L_law_564 {ro : rQ} {R : rR} {h : rH} {s0 : Int32} {s1 : Int32} {s2 : Nat} {s3 : Nat} {L : List Value} : rV ro R 564 L [.int s0, .int s1, .ref s2, .ref s3] h ↔ rV ro R 565 L [.int (s1 + s0), .ref s2, .ref s3] h := (rV_iff)
set_option maxRecDepth 100000 in
theorem s_L_law_565 {ro : rQ} {R : rR} {h : rH} {s0 : Int32} {s1 : Nat} {s2 : Nat} {L : List Value} : rV ro R 565 L [.int s0, .ref s1, .ref s2] h ↔ rAi ro h s1 s0 (fun v => rV ro R 566 L [.int v, .ref s2] h) := (v_ai rfl)
set_option maxRecDepth 100000 in
theorem s_L_law_566 {ro : rQ} {R : rR} {h : rH} {s0 : Int32} {s1 : Nat} {x : Nat} {l1 l2 l3 : Value} : rV ro R 566 [.ref x, l1, l2, l3] [.int s0, .ref s1] h ↔ rV ro R 567 [.ref x, l1, l2, l3] [.ref x, .int s0, .ref s1] h := (rV_iff)
set_option maxRecDepth 100000 in
theorem s_L_law_567 {ro : rQ} {R : rR} {h : rH} {s0 : Nat} {s1 : Int32} {s2 : Nat} {x : Int32} {l0 l1 l2 : Value} : rV ro R 567 [l0, l1, l2, .int x] [.ref s0, .int s1, .ref s2] h ↔ rV ro R 568 [l0, l1, l2, .int x] [.int x, .ref s0, .int s1, .ref s2] h := (rV_iff)
set_option maxRecDepth 100000 in
theorem s_L_law_568 {ro : rQ} {R : rR} {h : rH} {s0 : Int32} {s1 : Nat} {s2 : Int32} {s3 : Nat} {L : List Value} : rV ro R 568 L [.int s0, .ref s1, .int s2, .ref s3] h ↔ rV ro R 569 L [.int (nI 2), .int s0, .ref s1, .int s2, .ref s3] h := (rV_iff)
set_option maxRecDepth 100000 in
theorem s_L_law_569 {ro : rQ} {R : rR} {h : rH} {s0 : Int32} {s1 : Int32} {s2 : Nat} {s3 : Int32} {s4 : Nat} {L : List Value} : rV ro R 569 L [.int s0, .int s1, .ref s2, .int s3, .ref s4] h ↔ rV ro R 570 L [.int (s1 + s0), .ref s2, .int s3, .ref s4] h := (rV_iff)
set_option maxRecDepth 100000 in
theorem s_L_law_570 {ro : rQ} {R : rR} {h : rH} {s0 : Int32} {s1 : Nat} {s2 : Int32} {s3 : Nat} {L : List Value} : rV ro R 570 L [.int s0, .ref s1, .int s2, .ref s3] h ↔ rAi ro h s1 s0 (fun v => rV ro R 571 L [.int v, .int s2, .ref s3] h) := (v_ai rfl)
set_option maxRecDepth 100000 in
theorem s_L_law_571 {ro : rQ} {R : rR} {h : rH} {s0 : Int32} {s1 : Int32} {s2 : Nat} {L : List Value} : rV ro R 571 L [.int s0, .int s1, .ref s2] h ↔ rVc ro 1000 [8, 59] s2 [.int s1, .int s0] h (fun r h => rV ro R 574 L (r.toList ++ []) h) := (v_vc (kd := 0) (n := 2) rfl)
set_option maxRecDepth 100000 in
theorem s_L_law_574 {ro : rQ} {R : rR} {h : rH} {s0 : Int32} {x : Nat} {l0 l1 l3 : Value} : rV ro R 574 [l0, l1, .ref x, l3] [.int s0] h ↔ rV ro R 575 [l0, l1, .ref x, l3] [.ref x, .int s0] h := (rV_iff)
set_option maxRecDepth 100000 in
theorem s_L_law_575 {ro : rQ} {R : rR} {h : rH} {s0 : Nat} {s1 : Int32} {x : Nat} {l1 l2 l3 : Value} : rV ro R 575 [.ref x, l1, l2, l3] [.ref s0, .int s1] h ↔ rV ro R 576 [.ref x, l1, l2, l3] [.ref x, .ref s0, .int s1] h := (rV_iff)
set_option maxRecDepth 100000 in
theorem s_L_law_576 {ro : rQ} {R : rR} {h : rH} {s0 : Nat} {s1 : Nat} {s2 : Int32} {x : Int32} {l0 l1 l2 : Value} : rV ro R 576 [l0, l1, l2, .int x] [.ref s0, .ref s1, .int s2] h ↔ rV ro R 577 [l0, l1, l2, .int x] [.int x, .ref s0, .ref s1, .int s2] h := (rV_iff)
set_option maxRecDepth 100000 in
theorem s_L_law_577 {ro : rQ} {R : rR} {h : rH} {s0 : Int32} {s1 : Nat} {s2 : Nat} {s3 : Int32} {L : List Value} : rV ro R 577 L [.int s0, .ref s1, .ref s2, .int s3] h ↔ rV ro R 578 L [.int (nI 1), .int s0, .ref s1, .ref s2, .int s3] h := (rV_iff)
set_option maxRecDepth 100000 in
theorem s_L_law_578 {ro : rQ} {R : rR} {h : rH} {s0 : Int32} {s1 : Int32} {s2 : Nat} {s3 : Nat} {s4 : Int32} {L : List Value} : rV ro R 578 L [.int s0, .int s1, .ref s2, .ref s3, .int s4] h ↔ rV ro R 579 L [.int (s1 + s0), .ref s2, .ref s3, .int s4] h := (rV_iff)
set_option maxRecDepth 100000 in
theorem s_L_law_579 {ro : rQ} {R : rR} {h : rH} {s0 : Int32} {s1 : Nat} {s2 : Nat} {s3 : Int32} {L : List Value} : rV ro R 579 L [.int s0, .ref s1, .ref s2, .int s3] h ↔ rAi ro h s1 s0 (fun v => rV ro R 580 L [.int v, .ref s2, .int s3] h) := (v_ai rfl)
set_option maxRecDepth 100000 in
theorem s_L_law_580 {ro : rQ} {R : rR} {h : rH} {s0 : Int32} {s1 : Nat} {s2 : Int32} {x : Nat} {l1 l2 l3 : Value} : rV ro R 580 [.ref x, l1, l2, l3] [.int s0, .ref s1, .int s2] h ↔ rV ro R 581 [.ref x, l1, l2, l3] [.ref x, .int s0, .ref s1, .int s2] h := (rV_iff)
set_option maxRecDepth 100000 in
theorem s_L_law_581 {ro : rQ} {R : rR} {h : rH} {s0 : Nat} {s1 : Int32} {s2 : Nat} {s3 : Int32} {x : Int32} {l0 l1 l2 : Value} : rV ro R 581 [l0, l1, l2, .int x] [.ref s0, .int s1, .ref s2, .int s3] h ↔ rV ro R 582 [l0, l1, l2, .int x] [.int x, .ref s0, .int s1, .ref s2, .int s3] h := (rV_iff)
set_option maxRecDepth 100000 in
theorem s_L_law_582 {ro : rQ} {R : rR} {h : rH} {s0 : Int32} {s1 : Nat} {s2 : Int32} {s3 : Nat} {s4 : Int32} {L : List Value} : rV ro R 582 L [.int s0, .ref s1, .int s2, .ref s3, .int s4] h ↔ rV ro R 583 L [.int (nI 2), .int s0, .ref s1, .int s2, .ref s3, .int s4] h := (rV_iff)
set_option maxRecDepth 100000 in
theorem s_L_law_583 {ro : rQ} {R : rR} {h : rH} {s0 : Int32} {s1 : Int32} {s2 : Nat} {s3 : Int32} {s4 : Nat} {s5 : Int32} {L : List Value} : rV ro R 583 L [.int s0, .int s1, .ref s2, .int s3, .ref s4, .int s5] h ↔ rV ro R 584 L [.int (s1 + s0), .ref s2, .int s3, .ref s4, .int s5] h := (rV_iff)
set_option maxRecDepth 100000 in
theorem s_L_law_584 {ro : rQ} {R : rR} {h : rH} {s0 : Int32} {s1 : Nat} {s2 : Int32} {s3 : Nat} {s4 : Int32} {L : List Value} : rV ro R 584 L [.int s0, .ref s1, .int s2, .ref s3, .int s4] h ↔ rAi ro h s1 s0 (fun v => rV ro R 585 L [.int v, .int s2, .ref s3, .int s4] h) := (v_ai rfl)
set_option maxRecDepth 100000 in
theorem s_L_law_585 {ro : rQ} {R : rR} {h : rH} {s0 : Int32} {s1 : Int32} {s2 : Nat} {s3 : Int32} {L : List Value} : rV ro R 585 L [.int s0, .int s1, .ref s2, .int s3] h ↔ rVc ro 1000 [9, 145] s2 [.int s1, .int s0] h (fun r h => rV ro R 588 L (r.toList ++ [.int s3]) h) := (v_vc (kd := 0) (n := 2) rfl)
set_option maxRecDepth 100000 in
theorem s_L_law_588 {ro : rQ} {R : rR} {h : rH} {s0 : Int32} {s1 : Int32} {L : List Value} : rV ro R 588 L [.int s0, .int s1] h ↔ (s1 = s0 → rV ro R 998 L [] h) ∧ (¬ s1 = s0 → rV ro R 591 L [] h) := (rV_iff)
set_option maxRecDepth 100000 in
theorem s_L_law_591 {ro : rQ} {R : rR} {h : rH}  {L : List Value} : rV ro R 591 L [] h ↔ rV ro R 592 L [.int (nI 0)] h := (rV_iff)
set_option maxRecDepth 100000 in
theorem s_L_law_592 {ro : rQ} {R : rR} {h : rH} {s0 : Int32} {L : List Value} : rV ro R 592 L [.int s0] h ↔ (s0 = 0 ∨ s0 = 1) ∧ R (some (.int s0)) h := (v_retz rfl)
set_option maxRecDepth 100000 in
theorem s_L_law_593 {ro : rQ} {R : rR} {h : rH}  {x : Nat} {l0 l2 l3 : Value} : rV ro R 593 [l0, .ref x, l2, l3] [] h ↔ rV ro R 594 [l0, .ref x, l2, l3] [.ref x] h := (rV_iff)
set_option maxRecDepth 100000 in
theorem s_L_law_594 {ro : rQ} {R : rR} {h : rH} {s0 : Nat} {x : Nat} {l1 l2 l3 : Value} : rV ro R 594 [.ref x, l1, l2, l3] [.ref s0] h ↔ rV ro R 595 [.ref x, l1, l2, l3] [.ref x, .ref s0] h := (rV_iff)
set_option maxRecDepth 100000 in
theorem s_L_law_595 {ro : rQ} {R : rR} {h : rH} {s0 : Nat} {s1 : Nat} {x : Int32} {l0 l1 l2 : Value} : rV ro R 595 [l0, l1, l2, .int x] [.ref s0, .ref s1] h ↔ rV ro R 596 [l0, l1, l2, .int x] [.int x, .ref s0, .ref s1] h := (rV_iff)
set_option maxRecDepth 100000 in
theorem s_L_law_596 {ro : rQ} {R : rR} {h : rH} {s0 : Int32} {s1 : Nat} {s2 : Nat} {L : List Value} : rV ro R 596 L [.int s0, .ref s1, .ref s2] h ↔ rV ro R 597 L [.int (nI 1), .int s0, .ref s1, .ref s2] h := (rV_iff)
set_option maxRecDepth 100000 in
theorem s_L_law_597 {ro : rQ} {R : rR} {h : rH} {s0 : Int32} {s1 : Int32} {s2 : Nat} {s3 : Nat} {L : List Value} : rV ro R 597 L [.int s0, .int s1, .ref s2, .ref s3] h ↔ rV ro R 598 L [.int (s1 + s0), .ref s2, .ref s3] h := (rV_iff)
set_option maxRecDepth 100000 in
theorem s_L_law_598 {ro : rQ} {R : rR} {h : rH} {s0 : Int32} {s1 : Nat} {s2 : Nat} {L : List Value} : rV ro R 598 L [.int s0, .ref s1, .ref s2] h ↔ rAi ro h s1 s0 (fun v => rV ro R 599 L [.int v, .ref s2] h) := (v_ai rfl)
set_option maxRecDepth 100000 in
theorem s_L_law_599 {ro : rQ} {R : rR} {h : rH} {s0 : Int32} {s1 : Nat} {x : Nat} {l1 l2 l3 : Value} : rV ro R 599 [.ref x, l1, l2, l3] [.int s0, .ref s1] h ↔ rV ro R 600 [.ref x, l1, l2, l3] [.ref x, .int s0, .ref s1] h := (rV_iff)
set_option maxRecDepth 100000 in
theorem s_L_law_600 {ro : rQ} {R : rR} {h : rH} {s0 : Nat} {s1 : Int32} {s2 : Nat} {x : Int32} {l0 l1 l2 : Value} : rV ro R 600 [l0, l1, l2, .int x] [.ref s0, .int s1, .ref s2] h ↔ rV ro R 601 [l0, l1, l2, .int x] [.int x, .ref s0, .int s1, .ref s2] h := (rV_iff)
set_option maxRecDepth 100000 in
theorem s_L_law_601 {ro : rQ} {R : rR} {h : rH} {s0 : Int32} {s1 : Nat} {s2 : Int32} {s3 : Nat} {L : List Value} : rV ro R 601 L [.int s0, .ref s1, .int s2, .ref s3] h ↔ rV ro R 602 L [.int (nI 2), .int s0, .ref s1, .int s2, .ref s3] h := (rV_iff)
set_option maxRecDepth 100000 in
theorem s_L_law_602 {ro : rQ} {R : rR} {h : rH} {s0 : Int32} {s1 : Int32} {s2 : Nat} {s3 : Int32} {s4 : Nat} {L : List Value} : rV ro R 602 L [.int s0, .int s1, .ref s2, .int s3, .ref s4] h ↔ rV ro R 603 L [.int (s1 + s0), .ref s2, .int s3, .ref s4] h := (rV_iff)
set_option maxRecDepth 100000 in
theorem s_L_law_603 {ro : rQ} {R : rR} {h : rH} {s0 : Int32} {s1 : Nat} {s2 : Int32} {s3 : Nat} {L : List Value} : rV ro R 603 L [.int s0, .ref s1, .int s2, .ref s3] h ↔ rAi ro h s1 s0 (fun v => rV ro R 604 L [.int v, .int s2, .ref s3] h) := (v_ai rfl)
set_option maxRecDepth 100000 in
theorem s_L_law_604 {ro : rQ} {R : rR} {h : rH} {s0 : Int32} {s1 : Int32} {s2 : Nat} {L : List Value} : rV ro R 604 L [.int s0, .int s1, .ref s2] h ↔ rVc ro 1000 [8, 60] s2 [.int s1, .int s0] h (fun r h => rV ro R 607 L (r.toList ++ []) h) := (v_vc (kd := 0) (n := 2) rfl)
set_option maxRecDepth 100000 in
theorem s_L_law_607 {ro : rQ} {R : rR} {h : rH} {s0 : Int64} {x : Nat} {l0 l1 l3 : Value} : rV ro R 607 [l0, l1, .ref x, l3] [.long s0] h ↔ rV ro R 608 [l0, l1, .ref x, l3] [.ref x, .long s0] h := (rV_iff)
set_option maxRecDepth 100000 in
theorem s_L_law_608 {ro : rQ} {R : rR} {h : rH} {s0 : Nat} {s1 : Int64} {x : Nat} {l1 l2 l3 : Value} : rV ro R 608 [.ref x, l1, l2, l3] [.ref s0, .long s1] h ↔ rV ro R 609 [.ref x, l1, l2, l3] [.ref x, .ref s0, .long s1] h := (rV_iff)
set_option maxRecDepth 100000 in
theorem s_L_law_609 {ro : rQ} {R : rR} {h : rH} {s0 : Nat} {s1 : Nat} {s2 : Int64} {x : Int32} {l0 l1 l2 : Value} : rV ro R 609 [l0, l1, l2, .int x] [.ref s0, .ref s1, .long s2] h ↔ rV ro R 610 [l0, l1, l2, .int x] [.int x, .ref s0, .ref s1, .long s2] h := (rV_iff)
set_option maxRecDepth 100000 in
theorem s_L_law_610 {ro : rQ} {R : rR} {h : rH} {s0 : Int32} {s1 : Nat} {s2 : Nat} {s3 : Int64} {L : List Value} : rV ro R 610 L [.int s0, .ref s1, .ref s2, .long s3] h ↔ rV ro R 611 L [.int (nI 1), .int s0, .ref s1, .ref s2, .long s3] h := (rV_iff)
set_option maxRecDepth 100000 in
theorem s_L_law_611 {ro : rQ} {R : rR} {h : rH} {s0 : Int32} {s1 : Int32} {s2 : Nat} {s3 : Nat} {s4 : Int64} {L : List Value} : rV ro R 611 L [.int s0, .int s1, .ref s2, .ref s3, .long s4] h ↔ rV ro R 612 L [.int (s1 + s0), .ref s2, .ref s3, .long s4] h := (rV_iff)
set_option maxRecDepth 100000 in
theorem s_L_law_612 {ro : rQ} {R : rR} {h : rH} {s0 : Int32} {s1 : Nat} {s2 : Nat} {s3 : Int64} {L : List Value} : rV ro R 612 L [.int s0, .ref s1, .ref s2, .long s3] h ↔ rAi ro h s1 s0 (fun v => rV ro R 613 L [.int v, .ref s2, .long s3] h) := (v_ai rfl)
set_option maxRecDepth 100000 in
theorem s_L_law_613 {ro : rQ} {R : rR} {h : rH} {s0 : Int32} {s1 : Nat} {s2 : Int64} {x : Nat} {l1 l2 l3 : Value} : rV ro R 613 [.ref x, l1, l2, l3] [.int s0, .ref s1, .long s2] h ↔ rV ro R 614 [.ref x, l1, l2, l3] [.ref x, .int s0, .ref s1, .long s2] h := (rV_iff)
set_option maxRecDepth 100000 in
theorem s_L_law_614 {ro : rQ} {R : rR} {h : rH} {s0 : Nat} {s1 : Int32} {s2 : Nat} {s3 : Int64} {x : Int32} {l0 l1 l2 : Value} : rV ro R 614 [l0, l1, l2, .int x] [.ref s0, .int s1, .ref s2, .long s3] h ↔ rV ro R 615 [l0, l1, l2, .int x] [.int x, .ref s0, .int s1, .ref s2, .long s3] h := (rV_iff)
set_option maxRecDepth 100000 in
theorem s_L_law_615 {ro : rQ} {R : rR} {h : rH} {s0 : Int32} {s1 : Nat} {s2 : Int32} {s3 : Nat} {s4 : Int64} {L : List Value} : rV ro R 615 L [.int s0, .ref s1, .int s2, .ref s3, .long s4] h ↔ rV ro R 616 L [.int (nI 2), .int s0, .ref s1, .int s2, .ref s3, .long s4] h := (rV_iff)
set_option maxRecDepth 100000 in
theorem s_L_law_616 {ro : rQ} {R : rR} {h : rH} {s0 : Int32} {s1 : Int32} {s2 : Nat} {s3 : Int32} {s4 : Nat} {s5 : Int64} {L : List Value} : rV ro R 616 L [.int s0, .int s1, .ref s2, .int s3, .ref s4, .long s5] h ↔ rV ro R 617 L [.int (s1 + s0), .ref s2, .int s3, .ref s4, .long s5] h := (rV_iff)
set_option maxRecDepth 100000 in
theorem s_L_law_617 {ro : rQ} {R : rR} {h : rH} {s0 : Int32} {s1 : Nat} {s2 : Int32} {s3 : Nat} {s4 : Int64} {L : List Value} : rV ro R 617 L [.int s0, .ref s1, .int s2, .ref s3, .long s4] h ↔ rAi ro h s1 s0 (fun v => rV ro R 618 L [.int v, .int s2, .ref s3, .long s4] h) := (v_ai rfl)
set_option maxRecDepth 100000 in
theorem s_L_law_618 {ro : rQ} {R : rR} {h : rH} {s0 : Int32} {s1 : Int32} {s2 : Nat} {s3 : Int64} {L : List Value} : rV ro R 618 L [.int s0, .int s1, .ref s2, .long s3] h ↔ rVc ro 1000 [9, 146] s2 [.int s1, .int s0] h (fun r h => rV ro R 621 L (r.toList ++ [.long s3]) h) := (v_vc (kd := 0) (n := 2) rfl)
set_option maxRecDepth 100000 in
theorem s_L_law_621 {ro : rQ} {R : rR} {h : rH} {s0 : Int64} {s1 : Int64} {L : List Value} : rV ro R 621 L [.long s0, .long s1] h ↔ rV ro R 622 L [.int (lg_cmp s1 s0)] h := (rV_iff)
set_option maxRecDepth 100000 in
theorem s_L_law_622 {ro : rQ} {R : rR} {h : rH} {s0 : Int32} {L : List Value} : rV ro R 622 L [.int s0] h ↔ (s0 = 0 → rV ro R 998 L [] h) ∧ (¬ s0 = 0 → rV ro R 625 L [] h) := (rV_iff)
set_option maxRecDepth 100000 in
theorem s_L_law_625 {ro : rQ} {R : rR} {h : rH}  {L : List Value} : rV ro R 625 L [] h ↔ rV ro R 626 L [.int (nI 0)] h := (rV_iff)
set_option maxRecDepth 100000 in
theorem s_L_law_626 {ro : rQ} {R : rR} {h : rH} {s0 : Int32} {L : List Value} : rV ro R 626 L [.int s0] h ↔ (s0 = 0 ∨ s0 = 1) ∧ R (some (.int s0)) h := (v_retz rfl)
set_option maxRecDepth 100000 in
theorem s_L_law_627 {ro : rQ} {R : rR} {h : rH}  {x : Nat} {l0 l2 l3 : Value} : rV ro R 627 [l0, .ref x, l2, l3] [] h ↔ rV ro R 628 [l0, .ref x, l2, l3] [.ref x] h := (rV_iff)
set_option maxRecDepth 100000 in
theorem s_L_law_628 {ro : rQ} {R : rR} {h : rH} {s0 : Nat} {x : Nat} {l1 l2 l3 : Value} : rV ro R 628 [.ref x, l1, l2, l3] [.ref s0] h ↔ rV ro R 629 [.ref x, l1, l2, l3] [.ref x, .ref s0] h := (rV_iff)
set_option maxRecDepth 100000 in
theorem s_L_law_629 {ro : rQ} {R : rR} {h : rH} {s0 : Nat} {s1 : Nat} {x : Int32} {l0 l1 l2 : Value} : rV ro R 629 [l0, l1, l2, .int x] [.ref s0, .ref s1] h ↔ rV ro R 630 [l0, l1, l2, .int x] [.int x, .ref s0, .ref s1] h := (rV_iff)
set_option maxRecDepth 100000 in
theorem s_L_law_630 {ro : rQ} {R : rR} {h : rH} {s0 : Int32} {s1 : Nat} {s2 : Nat} {L : List Value} : rV ro R 630 L [.int s0, .ref s1, .ref s2] h ↔ rV ro R 631 L [.int (nI 1), .int s0, .ref s1, .ref s2] h := (rV_iff)
set_option maxRecDepth 100000 in
theorem s_L_law_631 {ro : rQ} {R : rR} {h : rH} {s0 : Int32} {s1 : Int32} {s2 : Nat} {s3 : Nat} {L : List Value} : rV ro R 631 L [.int s0, .int s1, .ref s2, .ref s3] h ↔ rV ro R 632 L [.int (s1 + s0), .ref s2, .ref s3] h := (rV_iff)
set_option maxRecDepth 100000 in
theorem s_L_law_632 {ro : rQ} {R : rR} {h : rH} {s0 : Int32} {s1 : Nat} {s2 : Nat} {L : List Value} : rV ro R 632 L [.int s0, .ref s1, .ref s2] h ↔ rAi ro h s1 s0 (fun v => rV ro R 633 L [.int v, .ref s2] h) := (v_ai rfl)
set_option maxRecDepth 100000 in
theorem s_L_law_633 {ro : rQ} {R : rR} {h : rH} {s0 : Int32} {s1 : Nat} {L : List Value} : rV ro R 633 L [.int s0, .ref s1] h ↔ rVc ro 1000 [8, 61] s1 [.int s0] h (fun r h => rV ro R 636 L (r.toList ++ []) h) := (v_vc (kd := 0) (n := 1) rfl)
set_option maxRecDepth 100000 in
theorem s_L_law_636 {ro : rQ} {R : rR} {h : rH} {s0 : Int32} {x : Nat} {l0 l1 l3 : Value} : rV ro R 636 [l0, l1, .ref x, l3] [.int s0] h ↔ rV ro R 637 [l0, l1, .ref x, l3] [.ref x, .int s0] h := (rV_iff)
set_option maxRecDepth 100000 in
theorem s_L_law_637 {ro : rQ} {R : rR} {h : rH} {s0 : Nat} {s1 : Int32} {x : Nat} {l1 l2 l3 : Value} : rV ro R 637 [.ref x, l1, l2, l3] [.ref s0, .int s1] h ↔ rV ro R 638 [.ref x, l1, l2, l3] [.ref x, .ref s0, .int s1] h := (rV_iff)
set_option maxRecDepth 100000 in
theorem s_L_law_638 {ro : rQ} {R : rR} {h : rH} {s0 : Nat} {s1 : Nat} {s2 : Int32} {x : Int32} {l0 l1 l2 : Value} : rV ro R 638 [l0, l1, l2, .int x] [.ref s0, .ref s1, .int s2] h ↔ rV ro R 639 [l0, l1, l2, .int x] [.int x, .ref s0, .ref s1, .int s2] h := (rV_iff)
set_option maxRecDepth 100000 in
theorem s_L_law_639 {ro : rQ} {R : rR} {h : rH} {s0 : Int32} {s1 : Nat} {s2 : Nat} {s3 : Int32} {L : List Value} : rV ro R 639 L [.int s0, .ref s1, .ref s2, .int s3] h ↔ rV ro R 640 L [.int (nI 1), .int s0, .ref s1, .ref s2, .int s3] h := (rV_iff)
set_option maxRecDepth 100000 in
theorem s_L_law_640 {ro : rQ} {R : rR} {h : rH} {s0 : Int32} {s1 : Int32} {s2 : Nat} {s3 : Nat} {s4 : Int32} {L : List Value} : rV ro R 640 L [.int s0, .int s1, .ref s2, .ref s3, .int s4] h ↔ rV ro R 641 L [.int (s1 + s0), .ref s2, .ref s3, .int s4] h := (rV_iff)
set_option maxRecDepth 100000 in
theorem s_L_law_641 {ro : rQ} {R : rR} {h : rH} {s0 : Int32} {s1 : Nat} {s2 : Nat} {s3 : Int32} {L : List Value} : rV ro R 641 L [.int s0, .ref s1, .ref s2, .int s3] h ↔ rAi ro h s1 s0 (fun v => rV ro R 642 L [.int v, .ref s2, .int s3] h) := (v_ai rfl)
set_option maxRecDepth 100000 in
theorem s_L_law_642 {ro : rQ} {R : rR} {h : rH} {s0 : Int32} {s1 : Nat} {s2 : Int32} {L : List Value} : rV ro R 642 L [.int s0, .ref s1, .int s2] h ↔ rVc ro 1000 [9, 148] s1 [.int s0] h (fun r h => rV ro R 645 L (r.toList ++ [.int s2]) h) := (v_vc (kd := 0) (n := 1) rfl)
set_option maxRecDepth 100000 in
theorem s_L_law_645 {ro : rQ} {R : rR} {h : rH} {s0 : Int32} {s1 : Int32} {L : List Value} : rV ro R 645 L [.int s0, .int s1] h ↔ (s1 = s0 → rV ro R 998 L [] h) ∧ (¬ s1 = s0 → rV ro R 648 L [] h) := (rV_iff)
set_option maxRecDepth 100000 in
theorem s_L_law_648 {ro : rQ} {R : rR} {h : rH}  {L : List Value} : rV ro R 648 L [] h ↔ rV ro R 649 L [.int (nI 0)] h := (rV_iff)
set_option maxRecDepth 100000 in
theorem s_L_law_649 {ro : rQ} {R : rR} {h : rH} {s0 : Int32} {L : List Value} : rV ro R 649 L [.int s0] h ↔ (s0 = 0 ∨ s0 = 1) ∧ R (some (.int s0)) h := (v_retz rfl)
set_option maxRecDepth 100000 in
theorem s_L_law_650 {ro : rQ} {R : rR} {h : rH}  {x : Nat} {l0 l2 l3 : Value} : rV ro R 650 [l0, .ref x, l2, l3] [] h ↔ rV ro R 651 [l0, .ref x, l2, l3] [.ref x] h := (rV_iff)
set_option maxRecDepth 100000 in
theorem s_L_law_651 {ro : rQ} {R : rR} {h : rH} {s0 : Nat} {x : Nat} {l1 l2 l3 : Value} : rV ro R 651 [.ref x, l1, l2, l3] [.ref s0] h ↔ rV ro R 652 [.ref x, l1, l2, l3] [.ref x, .ref s0] h := (rV_iff)
set_option maxRecDepth 100000 in
theorem s_L_law_652 {ro : rQ} {R : rR} {h : rH} {s0 : Nat} {s1 : Nat} {x : Int32} {l0 l1 l2 : Value} : rV ro R 652 [l0, l1, l2, .int x] [.ref s0, .ref s1] h ↔ rV ro R 653 [l0, l1, l2, .int x] [.int x, .ref s0, .ref s1] h := (rV_iff)
set_option maxRecDepth 100000 in
theorem s_L_law_653 {ro : rQ} {R : rR} {h : rH} {s0 : Int32} {s1 : Nat} {s2 : Nat} {L : List Value} : rV ro R 653 L [.int s0, .ref s1, .ref s2] h ↔ rV ro R 654 L [.int (nI 1), .int s0, .ref s1, .ref s2] h := (rV_iff)
set_option maxRecDepth 100000 in
theorem s_L_law_654 {ro : rQ} {R : rR} {h : rH} {s0 : Int32} {s1 : Int32} {s2 : Nat} {s3 : Nat} {L : List Value} : rV ro R 654 L [.int s0, .int s1, .ref s2, .ref s3] h ↔ rV ro R 655 L [.int (s1 + s0), .ref s2, .ref s3] h := (rV_iff)
set_option maxRecDepth 100000 in
theorem s_L_law_655 {ro : rQ} {R : rR} {h : rH} {s0 : Int32} {s1 : Nat} {s2 : Nat} {L : List Value} : rV ro R 655 L [.int s0, .ref s1, .ref s2] h ↔ rAi ro h s1 s0 (fun v => rV ro R 656 L [.int v, .ref s2] h) := (v_ai rfl)
set_option maxRecDepth 100000 in
theorem s_L_law_656 {ro : rQ} {R : rR} {h : rH} {s0 : Int32} {s1 : Nat} {x : Nat} {l1 l2 l3 : Value} : rV ro R 656 [.ref x, l1, l2, l3] [.int s0, .ref s1] h ↔ rV ro R 657 [.ref x, l1, l2, l3] [.ref x, .int s0, .ref s1] h := (rV_iff)
set_option maxRecDepth 100000 in
theorem s_L_law_657 {ro : rQ} {R : rR} {h : rH} {s0 : Nat} {s1 : Int32} {s2 : Nat} {x : Int32} {l0 l1 l2 : Value} : rV ro R 657 [l0, l1, l2, .int x] [.ref s0, .int s1, .ref s2] h ↔ rV ro R 658 [l0, l1, l2, .int x] [.int x, .ref s0, .int s1, .ref s2] h := (rV_iff)
set_option maxRecDepth 100000 in
theorem s_L_law_658 {ro : rQ} {R : rR} {h : rH} {s0 : Int32} {s1 : Nat} {s2 : Int32} {s3 : Nat} {L : List Value} : rV ro R 658 L [.int s0, .ref s1, .int s2, .ref s3] h ↔ rV ro R 659 L [.int (nI 2), .int s0, .ref s1, .int s2, .ref s3] h := (rV_iff)
set_option maxRecDepth 100000 in
theorem s_L_law_659 {ro : rQ} {R : rR} {h : rH} {s0 : Int32} {s1 : Int32} {s2 : Nat} {s3 : Int32} {s4 : Nat} {L : List Value} : rV ro R 659 L [.int s0, .int s1, .ref s2, .int s3, .ref s4] h ↔ rV ro R 660 L [.int (s1 + s0), .ref s2, .int s3, .ref s4] h := (rV_iff)
set_option maxRecDepth 100000 in
theorem s_L_law_660 {ro : rQ} {R : rR} {h : rH} {s0 : Int32} {s1 : Nat} {s2 : Int32} {s3 : Nat} {L : List Value} : rV ro R 660 L [.int s0, .ref s1, .int s2, .ref s3] h ↔ rAi ro h s1 s0 (fun v => rV ro R 661 L [.int v, .int s2, .ref s3] h) := (v_ai rfl)
set_option maxRecDepth 100000 in
theorem s_L_law_661 {ro : rQ} {R : rR} {h : rH} {s0 : Int32} {s1 : Int32} {s2 : Nat} {L : List Value} : rV ro R 661 L [.int s0, .int s1, .ref s2] h ↔ rVc ro 1000 [8, 62] s2 [.int s1, .int s0] h (fun r h => rV ro R 664 L (r.toList ++ []) h) := (v_vc (kd := 0) (n := 2) rfl)
set_option maxRecDepth 100000 in
theorem s_L_law_664 {ro : rQ} {R : rR} {h : rH} {s0 : Int64} {x : Nat} {l0 l1 l3 : Value} : rV ro R 664 [l0, l1, .ref x, l3] [.long s0] h ↔ rV ro R 665 [l0, l1, .ref x, l3] [.ref x, .long s0] h := (rV_iff)
set_option maxRecDepth 100000 in
theorem s_L_law_665 {ro : rQ} {R : rR} {h : rH} {s0 : Nat} {s1 : Int64} {x : Nat} {l1 l2 l3 : Value} : rV ro R 665 [.ref x, l1, l2, l3] [.ref s0, .long s1] h ↔ rV ro R 666 [.ref x, l1, l2, l3] [.ref x, .ref s0, .long s1] h := (rV_iff)
set_option maxRecDepth 100000 in
theorem s_L_law_666 {ro : rQ} {R : rR} {h : rH} {s0 : Nat} {s1 : Nat} {s2 : Int64} {x : Int32} {l0 l1 l2 : Value} : rV ro R 666 [l0, l1, l2, .int x] [.ref s0, .ref s1, .long s2] h ↔ rV ro R 667 [l0, l1, l2, .int x] [.int x, .ref s0, .ref s1, .long s2] h := (rV_iff)
set_option maxRecDepth 100000 in
theorem s_L_law_667 {ro : rQ} {R : rR} {h : rH} {s0 : Int32} {s1 : Nat} {s2 : Nat} {s3 : Int64} {L : List Value} : rV ro R 667 L [.int s0, .ref s1, .ref s2, .long s3] h ↔ rV ro R 668 L [.int (nI 1), .int s0, .ref s1, .ref s2, .long s3] h := (rV_iff)
set_option maxRecDepth 100000 in
theorem s_L_law_668 {ro : rQ} {R : rR} {h : rH} {s0 : Int32} {s1 : Int32} {s2 : Nat} {s3 : Nat} {s4 : Int64} {L : List Value} : rV ro R 668 L [.int s0, .int s1, .ref s2, .ref s3, .long s4] h ↔ rV ro R 669 L [.int (s1 + s0), .ref s2, .ref s3, .long s4] h := (rV_iff)
set_option maxRecDepth 100000 in
theorem s_L_law_669 {ro : rQ} {R : rR} {h : rH} {s0 : Int32} {s1 : Nat} {s2 : Nat} {s3 : Int64} {L : List Value} : rV ro R 669 L [.int s0, .ref s1, .ref s2, .long s3] h ↔ rAi ro h s1 s0 (fun v => rV ro R 670 L [.int v, .ref s2, .long s3] h) := (v_ai rfl)
set_option maxRecDepth 100000 in
theorem s_L_law_670 {ro : rQ} {R : rR} {h : rH} {s0 : Int32} {s1 : Nat} {s2 : Int64} {x : Nat} {l1 l2 l3 : Value} : rV ro R 670 [.ref x, l1, l2, l3] [.int s0, .ref s1, .long s2] h ↔ rV ro R 671 [.ref x, l1, l2, l3] [.ref x, .int s0, .ref s1, .long s2] h := (rV_iff)
set_option maxRecDepth 100000 in
theorem s_L_law_671 {ro : rQ} {R : rR} {h : rH} {s0 : Nat} {s1 : Int32} {s2 : Nat} {s3 : Int64} {x : Int32} {l0 l1 l2 : Value} : rV ro R 671 [l0, l1, l2, .int x] [.ref s0, .int s1, .ref s2, .long s3] h ↔ rV ro R 672 [l0, l1, l2, .int x] [.int x, .ref s0, .int s1, .ref s2, .long s3] h := (rV_iff)
set_option maxRecDepth 100000 in
theorem s_L_law_672 {ro : rQ} {R : rR} {h : rH} {s0 : Int32} {s1 : Nat} {s2 : Int32} {s3 : Nat} {s4 : Int64} {L : List Value} : rV ro R 672 L [.int s0, .ref s1, .int s2, .ref s3, .long s4] h ↔ rV ro R 673 L [.int (nI 2), .int s0, .ref s1, .int s2, .ref s3, .long s4] h := (rV_iff)
set_option maxRecDepth 100000 in
theorem s_L_law_673 {ro : rQ} {R : rR} {h : rH} {s0 : Int32} {s1 : Int32} {s2 : Nat} {s3 : Int32} {s4 : Nat} {s5 : Int64} {L : List Value} : rV ro R 673 L [.int s0, .int s1, .ref s2, .int s3, .ref s4, .long s5] h ↔ rV ro R 674 L [.int (s1 + s0), .ref s2, .int s3, .ref s4, .long s5] h := (rV_iff)
set_option maxRecDepth 100000 in
theorem s_L_law_674 {ro : rQ} {R : rR} {h : rH} {s0 : Int32} {s1 : Nat} {s2 : Int32} {s3 : Nat} {s4 : Int64} {L : List Value} : rV ro R 674 L [.int s0, .ref s1, .int s2, .ref s3, .long s4] h ↔ rAi ro h s1 s0 (fun v => rV ro R 675 L [.int v, .int s2, .ref s3, .long s4] h) := (v_ai rfl)
set_option maxRecDepth 100000 in
theorem s_L_law_675 {ro : rQ} {R : rR} {h : rH} {s0 : Int32} {s1 : Int32} {s2 : Nat} {s3 : Int64} {L : List Value} : rV ro R 675 L [.int s0, .int s1, .ref s2, .long s3] h ↔ rVc ro 1000 [9, 149] s2 [.int s1, .int s0] h (fun r h => rV ro R 678 L (r.toList ++ [.long s3]) h) := (v_vc (kd := 0) (n := 2) rfl)
set_option maxRecDepth 100000 in
theorem s_L_law_678 {ro : rQ} {R : rR} {h : rH} {s0 : Int64} {s1 : Int64} {L : List Value} : rV ro R 678 L [.long s0, .long s1] h ↔ rV ro R 679 L [.int (lg_cmp s1 s0)] h := (rV_iff)
set_option maxRecDepth 100000 in
theorem s_L_law_679 {ro : rQ} {R : rR} {h : rH} {s0 : Int32} {L : List Value} : rV ro R 679 L [.int s0] h ↔ (s0 = 0 → rV ro R 998 L [] h) ∧ (¬ s0 = 0 → rV ro R 682 L [] h) := (rV_iff)
set_option maxRecDepth 100000 in
theorem s_L_law_682 {ro : rQ} {R : rR} {h : rH}  {L : List Value} : rV ro R 682 L [] h ↔ rV ro R 683 L [.int (nI 0)] h := (rV_iff)
set_option maxRecDepth 100000 in
theorem s_L_law_683 {ro : rQ} {R : rR} {h : rH} {s0 : Int32} {L : List Value} : rV ro R 683 L [.int s0] h ↔ (s0 = 0 ∨ s0 = 1) ∧ R (some (.int s0)) h := (v_retz rfl)
set_option maxRecDepth 100000 in
theorem s_L_law_684 {ro : rQ} {R : rR} {h : rH}  {x : Nat} {l0 l2 l3 : Value} : rV ro R 684 [l0, .ref x, l2, l3] [] h ↔ rV ro R 685 [l0, .ref x, l2, l3] [.ref x] h := (rV_iff)
set_option maxRecDepth 100000 in
theorem s_L_law_685 {ro : rQ} {R : rR} {h : rH} {s0 : Nat} {x : Nat} {l1 l2 l3 : Value} : rV ro R 685 [.ref x, l1, l2, l3] [.ref s0] h ↔ rV ro R 686 [.ref x, l1, l2, l3] [.ref x, .ref s0] h := (rV_iff)
set_option maxRecDepth 100000 in
theorem s_L_law_686 {ro : rQ} {R : rR} {h : rH} {s0 : Nat} {s1 : Nat} {x : Int32} {l0 l1 l2 : Value} : rV ro R 686 [l0, l1, l2, .int x] [.ref s0, .ref s1] h ↔ rV ro R 687 [l0, l1, l2, .int x] [.int x, .ref s0, .ref s1] h := (rV_iff)
set_option maxRecDepth 100000 in
theorem s_L_law_687 {ro : rQ} {R : rR} {h : rH} {s0 : Int32} {s1 : Nat} {s2 : Nat} {L : List Value} : rV ro R 687 L [.int s0, .ref s1, .ref s2] h ↔ rV ro R 688 L [.int (nI 1), .int s0, .ref s1, .ref s2] h := (rV_iff)
set_option maxRecDepth 100000 in
theorem s_L_law_688 {ro : rQ} {R : rR} {h : rH} {s0 : Int32} {s1 : Int32} {s2 : Nat} {s3 : Nat} {L : List Value} : rV ro R 688 L [.int s0, .int s1, .ref s2, .ref s3] h ↔ rV ro R 689 L [.int (s1 + s0), .ref s2, .ref s3] h := (rV_iff)
set_option maxRecDepth 100000 in
theorem s_L_law_689 {ro : rQ} {R : rR} {h : rH} {s0 : Int32} {s1 : Nat} {s2 : Nat} {L : List Value} : rV ro R 689 L [.int s0, .ref s1, .ref s2] h ↔ rAi ro h s1 s0 (fun v => rV ro R 690 L [.int v, .ref s2] h) := (v_ai rfl)
set_option maxRecDepth 100000 in
theorem s_L_law_690 {ro : rQ} {R : rR} {h : rH} {s0 : Int32} {s1 : Nat} {L : List Value} : rV ro R 690 L [.int s0, .ref s1] h ↔ rVc ro 1000 [8, 63] s1 [.int s0] h (fun r h => rV ro R 693 L (r.toList ++ []) h) := (v_vc (kd := 0) (n := 1) rfl)
set_option maxRecDepth 100000 in
theorem s_L_law_693 {ro : rQ} {R : rR} {h : rH} {s0 : Int32} {x : Nat} {l0 l1 l3 : Value} : rV ro R 693 [l0, l1, .ref x, l3] [.int s0] h ↔ rV ro R 694 [l0, l1, .ref x, l3] [.ref x, .int s0] h := (rV_iff)
set_option maxRecDepth 100000 in
theorem s_L_law_694 {ro : rQ} {R : rR} {h : rH} {s0 : Nat} {s1 : Int32} {x : Nat} {l1 l2 l3 : Value} : rV ro R 694 [.ref x, l1, l2, l3] [.ref s0, .int s1] h ↔ rV ro R 695 [.ref x, l1, l2, l3] [.ref x, .ref s0, .int s1] h := (rV_iff)
set_option maxRecDepth 100000 in
theorem s_L_law_695 {ro : rQ} {R : rR} {h : rH} {s0 : Nat} {s1 : Nat} {s2 : Int32} {x : Int32} {l0 l1 l2 : Value} : rV ro R 695 [l0, l1, l2, .int x] [.ref s0, .ref s1, .int s2] h ↔ rV ro R 696 [l0, l1, l2, .int x] [.int x, .ref s0, .ref s1, .int s2] h := (rV_iff)
set_option maxRecDepth 100000 in
theorem s_L_law_696 {ro : rQ} {R : rR} {h : rH} {s0 : Int32} {s1 : Nat} {s2 : Nat} {s3 : Int32} {L : List Value} : rV ro R 696 L [.int s0, .ref s1, .ref s2, .int s3] h ↔ rV ro R 697 L [.int (nI 1), .int s0, .ref s1, .ref s2, .int s3] h := (rV_iff)
set_option maxRecDepth 100000 in
theorem s_L_law_697 {ro : rQ} {R : rR} {h : rH} {s0 : Int32} {s1 : Int32} {s2 : Nat} {s3 : Nat} {s4 : Int32} {L : List Value} : rV ro R 697 L [.int s0, .int s1, .ref s2, .ref s3, .int s4] h ↔ rV ro R 698 L [.int (s1 + s0), .ref s2, .ref s3, .int s4] h := (rV_iff)
set_option maxRecDepth 100000 in
theorem s_L_law_698 {ro : rQ} {R : rR} {h : rH} {s0 : Int32} {s1 : Nat} {s2 : Nat} {s3 : Int32} {L : List Value} : rV ro R 698 L [.int s0, .ref s1, .ref s2, .int s3] h ↔ rAi ro h s1 s0 (fun v => rV ro R 699 L [.int v, .ref s2, .int s3] h) := (v_ai rfl)
set_option maxRecDepth 100000 in
theorem s_L_law_699 {ro : rQ} {R : rR} {h : rH} {s0 : Int32} {s1 : Nat} {s2 : Int32} {L : List Value} : rV ro R 699 L [.int s0, .ref s1, .int s2] h ↔ rVc ro 1000 [9, 150] s1 [.int s0] h (fun r h => rV ro R 702 L (r.toList ++ [.int s2]) h) := (v_vc (kd := 0) (n := 1) rfl)
set_option maxRecDepth 100000 in
theorem s_L_law_702 {ro : rQ} {R : rR} {h : rH} {s0 : Int32} {s1 : Int32} {L : List Value} : rV ro R 702 L [.int s0, .int s1] h ↔ (s1 = s0 → rV ro R 998 L [] h) ∧ (¬ s1 = s0 → rV ro R 705 L [] h) := (rV_iff)
set_option maxRecDepth 100000 in
theorem s_L_law_705 {ro : rQ} {R : rR} {h : rH}  {L : List Value} : rV ro R 705 L [] h ↔ rV ro R 706 L [.int (nI 0)] h := (rV_iff)
set_option maxRecDepth 100000 in
theorem s_L_law_706 {ro : rQ} {R : rR} {h : rH} {s0 : Int32} {L : List Value} : rV ro R 706 L [.int s0] h ↔ (s0 = 0 ∨ s0 = 1) ∧ R (some (.int s0)) h := (v_retz rfl)
set_option maxRecDepth 100000 in
theorem s_L_law_707 {ro : rQ} {R : rR} {h : rH}  {x : Nat} {l0 l2 l3 : Value} : rV ro R 707 [l0, .ref x, l2, l3] [] h ↔ rV ro R 708 [l0, .ref x, l2, l3] [.ref x] h := (rV_iff)
set_option maxRecDepth 100000 in
theorem s_L_law_708 {ro : rQ} {R : rR} {h : rH} {s0 : Nat} {x : Nat} {l1 l2 l3 : Value} : rV ro R 708 [.ref x, l1, l2, l3] [.ref s0] h ↔ rV ro R 709 [.ref x, l1, l2, l3] [.ref x, .ref s0] h := (rV_iff)
set_option maxRecDepth 100000 in
theorem s_L_law_709 {ro : rQ} {R : rR} {h : rH} {s0 : Nat} {s1 : Nat} {x : Int32} {l0 l1 l2 : Value} : rV ro R 709 [l0, l1, l2, .int x] [.ref s0, .ref s1] h ↔ rV ro R 710 [l0, l1, l2, .int x] [.int x, .ref s0, .ref s1] h := (rV_iff)
set_option maxRecDepth 100000 in
theorem s_L_law_710 {ro : rQ} {R : rR} {h : rH} {s0 : Int32} {s1 : Nat} {s2 : Nat} {L : List Value} : rV ro R 710 L [.int s0, .ref s1, .ref s2] h ↔ rV ro R 711 L [.int (nI 1), .int s0, .ref s1, .ref s2] h := (rV_iff)
set_option maxRecDepth 100000 in
theorem s_L_law_711 {ro : rQ} {R : rR} {h : rH} {s0 : Int32} {s1 : Int32} {s2 : Nat} {s3 : Nat} {L : List Value} : rV ro R 711 L [.int s0, .int s1, .ref s2, .ref s3] h ↔ rV ro R 712 L [.int (s1 + s0), .ref s2, .ref s3] h := (rV_iff)
set_option maxRecDepth 100000 in
theorem s_L_law_712 {ro : rQ} {R : rR} {h : rH} {s0 : Int32} {s1 : Nat} {s2 : Nat} {L : List Value} : rV ro R 712 L [.int s0, .ref s1, .ref s2] h ↔ rAi ro h s1 s0 (fun v => rV ro R 713 L [.int v, .ref s2] h) := (v_ai rfl)
set_option maxRecDepth 100000 in
theorem s_L_law_713 {ro : rQ} {R : rR} {h : rH} {s0 : Int32} {s1 : Nat} {x : Nat} {l1 l2 l3 : Value} : rV ro R 713 [.ref x, l1, l2, l3] [.int s0, .ref s1] h ↔ rV ro R 714 [.ref x, l1, l2, l3] [.ref x, .int s0, .ref s1] h := (rV_iff)
set_option maxRecDepth 100000 in
theorem s_L_law_714 {ro : rQ} {R : rR} {h : rH} {s0 : Nat} {s1 : Int32} {s2 : Nat} {x : Int32} {l0 l1 l2 : Value} : rV ro R 714 [l0, l1, l2, .int x] [.ref s0, .int s1, .ref s2] h ↔ rV ro R 715 [l0, l1, l2, .int x] [.int x, .ref s0, .int s1, .ref s2] h := (rV_iff)
set_option maxRecDepth 100000 in
theorem s_L_law_715 {ro : rQ} {R : rR} {h : rH} {s0 : Int32} {s1 : Nat} {s2 : Int32} {s3 : Nat} {L : List Value} : rV ro R 715 L [.int s0, .ref s1, .int s2, .ref s3] h ↔ rV ro R 716 L [.int (nI 2), .int s0, .ref s1, .int s2, .ref s3] h := (rV_iff)
set_option maxRecDepth 100000 in
theorem s_L_law_716 {ro : rQ} {R : rR} {h : rH} {s0 : Int32} {s1 : Int32} {s2 : Nat} {s3 : Int32} {s4 : Nat} {L : List Value} : rV ro R 716 L [.int s0, .int s1, .ref s2, .int s3, .ref s4] h ↔ rV ro R 717 L [.int (s1 + s0), .ref s2, .int s3, .ref s4] h := (rV_iff)
set_option maxRecDepth 100000 in
theorem s_L_law_717 {ro : rQ} {R : rR} {h : rH} {s0 : Int32} {s1 : Nat} {s2 : Int32} {s3 : Nat} {L : List Value} : rV ro R 717 L [.int s0, .ref s1, .int s2, .ref s3] h ↔ rAi ro h s1 s0 (fun v => rV ro R 718 L [.int v, .int s2, .ref s3] h) := (v_ai rfl)
set_option maxRecDepth 100000 in
theorem s_L_law_718 {ro : rQ} {R : rR} {h : rH} {s0 : Int32} {s1 : Int32} {s2 : Nat} {L : List Value} : rV ro R 718 L [.int s0, .int s1, .ref s2] h ↔ rVc ro 1000 [8, 64] s2 [.int s1, .int s0] h (fun r h => rV ro R 721 L (r.toList ++ []) h) := (v_vc (kd := 0) (n := 2) rfl)
set_option maxRecDepth 100000 in
theorem s_L_law_721 {ro : rQ} {R : rR} {h : rH} {s0 : Int32} {x : Nat} {l0 l1 l3 : Value} : rV ro R 721 [l0, l1, .ref x, l3] [.int s0] h ↔ rV ro R 722 [l0, l1, .ref x, l3] [.ref x, .int s0] h := (rV_iff)
set_option maxRecDepth 100000 in
theorem s_L_law_722 {ro : rQ} {R : rR} {h : rH} {s0 : Nat} {s1 : Int32} {x : Nat} {l1 l2 l3 : Value} : rV ro R 722 [.ref x, l1, l2, l3] [.ref s0, .int s1] h ↔ rV ro R 723 [.ref x, l1, l2, l3] [.ref x, .ref s0, .int s1] h := (rV_iff)
set_option maxRecDepth 100000 in
theorem s_L_law_723 {ro : rQ} {R : rR} {h : rH} {s0 : Nat} {s1 : Nat} {s2 : Int32} {x : Int32} {l0 l1 l2 : Value} : rV ro R 723 [l0, l1, l2, .int x] [.ref s0, .ref s1, .int s2] h ↔ rV ro R 724 [l0, l1, l2, .int x] [.int x, .ref s0, .ref s1, .int s2] h := (rV_iff)
set_option maxRecDepth 100000 in
theorem s_L_law_724 {ro : rQ} {R : rR} {h : rH} {s0 : Int32} {s1 : Nat} {s2 : Nat} {s3 : Int32} {L : List Value} : rV ro R 724 L [.int s0, .ref s1, .ref s2, .int s3] h ↔ rV ro R 725 L [.int (nI 1), .int s0, .ref s1, .ref s2, .int s3] h := (rV_iff)
set_option maxRecDepth 100000 in
theorem s_L_law_725 {ro : rQ} {R : rR} {h : rH} {s0 : Int32} {s1 : Int32} {s2 : Nat} {s3 : Nat} {s4 : Int32} {L : List Value} : rV ro R 725 L [.int s0, .int s1, .ref s2, .ref s3, .int s4] h ↔ rV ro R 726 L [.int (s1 + s0), .ref s2, .ref s3, .int s4] h := (rV_iff)
set_option maxRecDepth 100000 in
theorem s_L_law_726 {ro : rQ} {R : rR} {h : rH} {s0 : Int32} {s1 : Nat} {s2 : Nat} {s3 : Int32} {L : List Value} : rV ro R 726 L [.int s0, .ref s1, .ref s2, .int s3] h ↔ rAi ro h s1 s0 (fun v => rV ro R 727 L [.int v, .ref s2, .int s3] h) := (v_ai rfl)
set_option maxRecDepth 100000 in
theorem s_L_law_727 {ro : rQ} {R : rR} {h : rH} {s0 : Int32} {s1 : Nat} {s2 : Int32} {x : Nat} {l1 l2 l3 : Value} : rV ro R 727 [.ref x, l1, l2, l3] [.int s0, .ref s1, .int s2] h ↔ rV ro R 728 [.ref x, l1, l2, l3] [.ref x, .int s0, .ref s1, .int s2] h := (rV_iff)
set_option maxRecDepth 100000 in
theorem s_L_law_728 {ro : rQ} {R : rR} {h : rH} {s0 : Nat} {s1 : Int32} {s2 : Nat} {s3 : Int32} {x : Int32} {l0 l1 l2 : Value} : rV ro R 728 [l0, l1, l2, .int x] [.ref s0, .int s1, .ref s2, .int s3] h ↔ rV ro R 729 [l0, l1, l2, .int x] [.int x, .ref s0, .int s1, .ref s2, .int s3] h := (rV_iff)
set_option maxRecDepth 100000 in
theorem s_L_law_729 {ro : rQ} {R : rR} {h : rH} {s0 : Int32} {s1 : Nat} {s2 : Int32} {s3 : Nat} {s4 : Int32} {L : List Value} : rV ro R 729 L [.int s0, .ref s1, .int s2, .ref s3, .int s4] h ↔ rV ro R 730 L [.int (nI 2), .int s0, .ref s1, .int s2, .ref s3, .int s4] h := (rV_iff)
set_option maxRecDepth 100000 in
theorem s_L_law_730 {ro : rQ} {R : rR} {h : rH} {s0 : Int32} {s1 : Int32} {s2 : Nat} {s3 : Int32} {s4 : Nat} {s5 : Int32} {L : List Value} : rV ro R 730 L [.int s0, .int s1, .ref s2, .int s3, .ref s4, .int s5] h ↔ rV ro R 731 L [.int (s1 + s0), .ref s2, .int s3, .ref s4, .int s5] h := (rV_iff)
set_option maxRecDepth 100000 in
theorem s_L_law_731 {ro : rQ} {R : rR} {h : rH} {s0 : Int32} {s1 : Nat} {s2 : Int32} {s3 : Nat} {s4 : Int32} {L : List Value} : rV ro R 731 L [.int s0, .ref s1, .int s2, .ref s3, .int s4] h ↔ rAi ro h s1 s0 (fun v => rV ro R 732 L [.int v, .int s2, .ref s3, .int s4] h) := (v_ai rfl)
set_option maxRecDepth 100000 in
theorem s_L_law_732 {ro : rQ} {R : rR} {h : rH} {s0 : Int32} {s1 : Int32} {s2 : Nat} {s3 : Int32} {L : List Value} : rV ro R 732 L [.int s0, .int s1, .ref s2, .int s3] h ↔ rVc ro 1000 [9, 154] s2 [.int s1, .int s0] h (fun r h => rV ro R 735 L (r.toList ++ [.int s3]) h) := (v_vc (kd := 0) (n := 2) rfl)
set_option maxRecDepth 100000 in
theorem s_L_law_735 {ro : rQ} {R : rR} {h : rH} {s0 : Int32} {s1 : Int32} {L : List Value} : rV ro R 735 L [.int s0, .int s1] h ↔ (s1 = s0 → rV ro R 998 L [] h) ∧ (¬ s1 = s0 → rV ro R 738 L [] h) := (rV_iff)
set_option maxRecDepth 100000 in
theorem s_L_law_738 {ro : rQ} {R : rR} {h : rH}  {L : List Value} : rV ro R 738 L [] h ↔ rV ro R 739 L [.int (nI 0)] h := (rV_iff)
set_option maxRecDepth 100000 in
theorem s_L_law_739 {ro : rQ} {R : rR} {h : rH} {s0 : Int32} {L : List Value} : rV ro R 739 L [.int s0] h ↔ (s0 = 0 ∨ s0 = 1) ∧ R (some (.int s0)) h := (v_retz rfl)
set_option maxRecDepth 100000 in
theorem s_L_law_740 {ro : rQ} {R : rR} {h : rH}  {x : Nat} {l0 l2 l3 : Value} : rV ro R 740 [l0, .ref x, l2, l3] [] h ↔ rV ro R 741 [l0, .ref x, l2, l3] [.ref x] h := (rV_iff)
set_option maxRecDepth 100000 in
theorem s_L_law_741 {ro : rQ} {R : rR} {h : rH} {s0 : Nat} {x : Nat} {l1 l2 l3 : Value} : rV ro R 741 [.ref x, l1, l2, l3] [.ref s0] h ↔ rV ro R 742 [.ref x, l1, l2, l3] [.ref x, .ref s0] h := (rV_iff)
set_option maxRecDepth 100000 in
theorem s_L_law_742 {ro : rQ} {R : rR} {h : rH} {s0 : Nat} {s1 : Nat} {x : Int32} {l0 l1 l2 : Value} : rV ro R 742 [l0, l1, l2, .int x] [.ref s0, .ref s1] h ↔ rV ro R 743 [l0, l1, l2, .int x] [.int x, .ref s0, .ref s1] h := (rV_iff)
set_option maxRecDepth 100000 in
theorem s_L_law_743 {ro : rQ} {R : rR} {h : rH} {s0 : Int32} {s1 : Nat} {s2 : Nat} {L : List Value} : rV ro R 743 L [.int s0, .ref s1, .ref s2] h ↔ rV ro R 744 L [.int (nI 1), .int s0, .ref s1, .ref s2] h := (rV_iff)
set_option maxRecDepth 100000 in
theorem s_L_law_744 {ro : rQ} {R : rR} {h : rH} {s0 : Int32} {s1 : Int32} {s2 : Nat} {s3 : Nat} {L : List Value} : rV ro R 744 L [.int s0, .int s1, .ref s2, .ref s3] h ↔ rV ro R 745 L [.int (s1 + s0), .ref s2, .ref s3] h := (rV_iff)
set_option maxRecDepth 100000 in
theorem s_L_law_745 {ro : rQ} {R : rR} {h : rH} {s0 : Int32} {s1 : Nat} {s2 : Nat} {L : List Value} : rV ro R 745 L [.int s0, .ref s1, .ref s2] h ↔ rAi ro h s1 s0 (fun v => rV ro R 746 L [.int v, .ref s2] h) := (v_ai rfl)
set_option maxRecDepth 100000 in
theorem s_L_law_746 {ro : rQ} {R : rR} {h : rH} {s0 : Int32} {s1 : Nat} {x : Nat} {l1 l2 l3 : Value} : rV ro R 746 [.ref x, l1, l2, l3] [.int s0, .ref s1] h ↔ rV ro R 747 [.ref x, l1, l2, l3] [.ref x, .int s0, .ref s1] h := (rV_iff)
set_option maxRecDepth 100000 in
theorem s_L_law_747 {ro : rQ} {R : rR} {h : rH} {s0 : Nat} {s1 : Int32} {s2 : Nat} {x : Int32} {l0 l1 l2 : Value} : rV ro R 747 [l0, l1, l2, .int x] [.ref s0, .int s1, .ref s2] h ↔ rV ro R 748 [l0, l1, l2, .int x] [.int x, .ref s0, .int s1, .ref s2] h := (rV_iff)
set_option maxRecDepth 100000 in
theorem s_L_law_748 {ro : rQ} {R : rR} {h : rH} {s0 : Int32} {s1 : Nat} {s2 : Int32} {s3 : Nat} {L : List Value} : rV ro R 748 L [.int s0, .ref s1, .int s2, .ref s3] h ↔ rV ro R 749 L [.int (nI 2), .int s0, .ref s1, .int s2, .ref s3] h := (rV_iff)
set_option maxRecDepth 100000 in
theorem s_L_law_749 {ro : rQ} {R : rR} {h : rH} {s0 : Int32} {s1 : Int32} {s2 : Nat} {s3 : Int32} {s4 : Nat} {L : List Value} : rV ro R 749 L [.int s0, .int s1, .ref s2, .int s3, .ref s4] h ↔ rV ro R 750 L [.int (s1 + s0), .ref s2, .int s3, .ref s4] h := (rV_iff)
set_option maxRecDepth 100000 in
theorem s_L_law_750 {ro : rQ} {R : rR} {h : rH} {s0 : Int32} {s1 : Nat} {s2 : Int32} {s3 : Nat} {L : List Value} : rV ro R 750 L [.int s0, .ref s1, .int s2, .ref s3] h ↔ rAi ro h s1 s0 (fun v => rV ro R 751 L [.int v, .int s2, .ref s3] h) := (v_ai rfl)
set_option maxRecDepth 100000 in
theorem s_L_law_751 {ro : rQ} {R : rR} {h : rH} {s0 : Int32} {s1 : Int32} {s2 : Nat} {x : Nat} {l1 l2 l3 : Value} : rV ro R 751 [.ref x, l1, l2, l3] [.int s0, .int s1, .ref s2] h ↔ rV ro R 752 [.ref x, l1, l2, l3] [.ref x, .int s0, .int s1, .ref s2] h := (rV_iff)
set_option maxRecDepth 100000 in
theorem s_L_law_752 {ro : rQ} {R : rR} {h : rH} {s0 : Nat} {s1 : Int32} {s2 : Int32} {s3 : Nat} {x : Int32} {l0 l1 l2 : Value} : rV ro R 752 [l0, l1, l2, .int x] [.ref s0, .int s1, .int s2, .ref s3] h ↔ rV ro R 753 [l0, l1, l2, .int x] [.int x, .ref s0, .int s1, .int s2, .ref s3] h := (rV_iff)
set_option maxRecDepth 100000 in
theorem s_L_law_753 {ro : rQ} {R : rR} {h : rH} {s0 : Int32} {s1 : Nat} {s2 : Int32} {s3 : Int32} {s4 : Nat} {L : List Value} : rV ro R 753 L [.int s0, .ref s1, .int s2, .int s3, .ref s4] h ↔ rV ro R 754 L [.int (nI 3), .int s0, .ref s1, .int s2, .int s3, .ref s4] h := (rV_iff)
set_option maxRecDepth 100000 in
theorem s_L_law_754 {ro : rQ} {R : rR} {h : rH} {s0 : Int32} {s1 : Int32} {s2 : Nat} {s3 : Int32} {s4 : Int32} {s5 : Nat} {L : List Value} : rV ro R 754 L [.int s0, .int s1, .ref s2, .int s3, .int s4, .ref s5] h ↔ rV ro R 755 L [.int (s1 + s0), .ref s2, .int s3, .int s4, .ref s5] h := (rV_iff)
set_option maxRecDepth 100000 in
theorem s_L_law_755 {ro : rQ} {R : rR} {h : rH} {s0 : Int32} {s1 : Nat} {s2 : Int32} {s3 : Int32} {s4 : Nat} {L : List Value} : rV ro R 755 L [.int s0, .ref s1, .int s2, .int s3, .ref s4] h ↔ rAi ro h s1 s0 (fun v => rV ro R 756 L [.int v, .int s2, .int s3, .ref s4] h) := (v_ai rfl)
set_option maxRecDepth 100000 in
theorem s_L_law_756 {ro : rQ} {R : rR} {h : rH} {s0 : Int32} {s1 : Int32} {s2 : Int32} {s3 : Nat} {L : List Value} : rV ro R 756 L [.int s0, .int s1, .int s2, .ref s3] h ↔ rVc ro 1000 [8, 65] s3 [.int s2, .int s1, .int s0] h (fun r h => rV ro R 759 L (r.toList ++ []) h) := (v_vc (kd := 0) (n := 3) rfl)
set_option maxRecDepth 100000 in
theorem s_L_law_759 {ro : rQ} {R : rR} {h : rH} {s0 : Int64} {x : Nat} {l0 l1 l3 : Value} : rV ro R 759 [l0, l1, .ref x, l3] [.long s0] h ↔ rV ro R 760 [l0, l1, .ref x, l3] [.ref x, .long s0] h := (rV_iff)
set_option maxRecDepth 100000 in
theorem s_L_law_760 {ro : rQ} {R : rR} {h : rH} {s0 : Nat} {s1 : Int64} {x : Nat} {l1 l2 l3 : Value} : rV ro R 760 [.ref x, l1, l2, l3] [.ref s0, .long s1] h ↔ rV ro R 761 [.ref x, l1, l2, l3] [.ref x, .ref s0, .long s1] h := (rV_iff)
set_option maxRecDepth 100000 in
theorem s_L_law_761 {ro : rQ} {R : rR} {h : rH} {s0 : Nat} {s1 : Nat} {s2 : Int64} {x : Int32} {l0 l1 l2 : Value} : rV ro R 761 [l0, l1, l2, .int x] [.ref s0, .ref s1, .long s2] h ↔ rV ro R 762 [l0, l1, l2, .int x] [.int x, .ref s0, .ref s1, .long s2] h := (rV_iff)
set_option maxRecDepth 100000 in
theorem s_L_law_762 {ro : rQ} {R : rR} {h : rH} {s0 : Int32} {s1 : Nat} {s2 : Nat} {s3 : Int64} {L : List Value} : rV ro R 762 L [.int s0, .ref s1, .ref s2, .long s3] h ↔ rV ro R 763 L [.int (nI 1), .int s0, .ref s1, .ref s2, .long s3] h := (rV_iff)
set_option maxRecDepth 100000 in
theorem s_L_law_763 {ro : rQ} {R : rR} {h : rH} {s0 : Int32} {s1 : Int32} {s2 : Nat} {s3 : Nat} {s4 : Int64} {L : List Value} : rV ro R 763 L [.int s0, .int s1, .ref s2, .ref s3, .long s4] h ↔ rV ro R 764 L [.int (s1 + s0), .ref s2, .ref s3, .long s4] h := (rV_iff)
set_option maxRecDepth 100000 in
theorem s_L_law_764 {ro : rQ} {R : rR} {h : rH} {s0 : Int32} {s1 : Nat} {s2 : Nat} {s3 : Int64} {L : List Value} : rV ro R 764 L [.int s0, .ref s1, .ref s2, .long s3] h ↔ rAi ro h s1 s0 (fun v => rV ro R 765 L [.int v, .ref s2, .long s3] h) := (v_ai rfl)
set_option maxRecDepth 100000 in
theorem s_L_law_765 {ro : rQ} {R : rR} {h : rH} {s0 : Int32} {s1 : Nat} {s2 : Int64} {x : Nat} {l1 l2 l3 : Value} : rV ro R 765 [.ref x, l1, l2, l3] [.int s0, .ref s1, .long s2] h ↔ rV ro R 766 [.ref x, l1, l2, l3] [.ref x, .int s0, .ref s1, .long s2] h := (rV_iff)
set_option maxRecDepth 100000 in
theorem s_L_law_766 {ro : rQ} {R : rR} {h : rH} {s0 : Nat} {s1 : Int32} {s2 : Nat} {s3 : Int64} {x : Int32} {l0 l1 l2 : Value} : rV ro R 766 [l0, l1, l2, .int x] [.ref s0, .int s1, .ref s2, .long s3] h ↔ rV ro R 767 [l0, l1, l2, .int x] [.int x, .ref s0, .int s1, .ref s2, .long s3] h := (rV_iff)
set_option maxRecDepth 100000 in
theorem s_L_law_767 {ro : rQ} {R : rR} {h : rH} {s0 : Int32} {s1 : Nat} {s2 : Int32} {s3 : Nat} {s4 : Int64} {L : List Value} : rV ro R 767 L [.int s0, .ref s1, .int s2, .ref s3, .long s4] h ↔ rV ro R 768 L [.int (nI 2), .int s0, .ref s1, .int s2, .ref s3, .long s4] h := (rV_iff)
set_option maxRecDepth 100000 in
theorem s_L_law_768 {ro : rQ} {R : rR} {h : rH} {s0 : Int32} {s1 : Int32} {s2 : Nat} {s3 : Int32} {s4 : Nat} {s5 : Int64} {L : List Value} : rV ro R 768 L [.int s0, .int s1, .ref s2, .int s3, .ref s4, .long s5] h ↔ rV ro R 769 L [.int (s1 + s0), .ref s2, .int s3, .ref s4, .long s5] h := (rV_iff)
set_option maxRecDepth 100000 in
theorem s_L_law_769 {ro : rQ} {R : rR} {h : rH} {s0 : Int32} {s1 : Nat} {s2 : Int32} {s3 : Nat} {s4 : Int64} {L : List Value} : rV ro R 769 L [.int s0, .ref s1, .int s2, .ref s3, .long s4] h ↔ rAi ro h s1 s0 (fun v => rV ro R 770 L [.int v, .int s2, .ref s3, .long s4] h) := (v_ai rfl)
set_option maxRecDepth 100000 in
theorem s_L_law_770 {ro : rQ} {R : rR} {h : rH} {s0 : Int32} {s1 : Int32} {s2 : Nat} {s3 : Int64} {x : Nat} {l1 l2 l3 : Value} : rV ro R 770 [.ref x, l1, l2, l3] [.int s0, .int s1, .ref s2, .long s3] h ↔ rV ro R 771 [.ref x, l1, l2, l3] [.ref x, .int s0, .int s1, .ref s2, .long s3] h := (rV_iff)
set_option maxRecDepth 100000 in
theorem s_L_law_771 {ro : rQ} {R : rR} {h : rH} {s0 : Nat} {s1 : Int32} {s2 : Int32} {s3 : Nat} {s4 : Int64} {x : Int32} {l0 l1 l2 : Value} : rV ro R 771 [l0, l1, l2, .int x] [.ref s0, .int s1, .int s2, .ref s3, .long s4] h ↔ rV ro R 772 [l0, l1, l2, .int x] [.int x, .ref s0, .int s1, .int s2, .ref s3, .long s4] h := (rV_iff)
set_option maxRecDepth 100000 in
theorem s_L_law_772 {ro : rQ} {R : rR} {h : rH} {s0 : Int32} {s1 : Nat} {s2 : Int32} {s3 : Int32} {s4 : Nat} {s5 : Int64} {L : List Value} : rV ro R 772 L [.int s0, .ref s1, .int s2, .int s3, .ref s4, .long s5] h ↔ rV ro R 773 L [.int (nI 3), .int s0, .ref s1, .int s2, .int s3, .ref s4, .long s5] h := (rV_iff)
set_option maxRecDepth 100000 in
theorem s_L_law_773 {ro : rQ} {R : rR} {h : rH} {s0 : Int32} {s1 : Int32} {s2 : Nat} {s3 : Int32} {s4 : Int32} {s5 : Nat} {s6 : Int64} {L : List Value} : rV ro R 773 L [.int s0, .int s1, .ref s2, .int s3, .int s4, .ref s5, .long s6] h ↔ rV ro R 774 L [.int (s1 + s0), .ref s2, .int s3, .int s4, .ref s5, .long s6] h := (rV_iff)
set_option maxRecDepth 100000 in
theorem s_L_law_774 {ro : rQ} {R : rR} {h : rH} {s0 : Int32} {s1 : Nat} {s2 : Int32} {s3 : Int32} {s4 : Nat} {s5 : Int64} {L : List Value} : rV ro R 774 L [.int s0, .ref s1, .int s2, .int s3, .ref s4, .long s5] h ↔ rAi ro h s1 s0 (fun v => rV ro R 775 L [.int v, .int s2, .int s3, .ref s4, .long s5] h) := (v_ai rfl)
set_option maxRecDepth 100000 in
theorem s_L_law_775 {ro : rQ} {R : rR} {h : rH} {s0 : Int32} {s1 : Int32} {s2 : Int32} {s3 : Nat} {s4 : Int64} {L : List Value} : rV ro R 775 L [.int s0, .int s1, .int s2, .ref s3, .long s4] h ↔ rVc ro 1000 [9, 155] s3 [.int s2, .int s1, .int s0] h (fun r h => rV ro R 778 L (r.toList ++ [.long s4]) h) := (v_vc (kd := 0) (n := 3) rfl)
set_option maxRecDepth 100000 in
theorem s_L_law_778 {ro : rQ} {R : rR} {h : rH} {s0 : Int64} {s1 : Int64} {L : List Value} : rV ro R 778 L [.long s0, .long s1] h ↔ rV ro R 779 L [.int (lg_cmp s1 s0)] h := (rV_iff)
set_option maxRecDepth 100000 in
theorem s_L_law_779 {ro : rQ} {R : rR} {h : rH} {s0 : Int32} {L : List Value} : rV ro R 779 L [.int s0] h ↔ (s0 = 0 → rV ro R 998 L [] h) ∧ (¬ s0 = 0 → rV ro R 782 L [] h) := (rV_iff)
set_option maxRecDepth 100000 in
theorem s_L_law_782 {ro : rQ} {R : rR} {h : rH}  {L : List Value} : rV ro R 782 L [] h ↔ rV ro R 783 L [.int (nI 0)] h := (rV_iff)
set_option maxRecDepth 100000 in
theorem s_L_law_783 {ro : rQ} {R : rR} {h : rH} {s0 : Int32} {L : List Value} : rV ro R 783 L [.int s0] h ↔ (s0 = 0 ∨ s0 = 1) ∧ R (some (.int s0)) h := (v_retz rfl)
set_option maxRecDepth 100000 in
theorem s_L_law_784 {ro : rQ} {R : rR} {h : rH}  {x : Nat} {l0 l2 l3 : Value} : rV ro R 784 [l0, .ref x, l2, l3] [] h ↔ rV ro R 785 [l0, .ref x, l2, l3] [.ref x] h := (rV_iff)
set_option maxRecDepth 100000 in
theorem s_L_law_785 {ro : rQ} {R : rR} {h : rH} {s0 : Nat} {x : Nat} {l1 l2 l3 : Value} : rV ro R 785 [.ref x, l1, l2, l3] [.ref s0] h ↔ rV ro R 786 [.ref x, l1, l2, l3] [.ref x, .ref s0] h := (rV_iff)
set_option maxRecDepth 100000 in
theorem s_L_law_786 {ro : rQ} {R : rR} {h : rH} {s0 : Nat} {s1 : Nat} {x : Int32} {l0 l1 l2 : Value} : rV ro R 786 [l0, l1, l2, .int x] [.ref s0, .ref s1] h ↔ rV ro R 787 [l0, l1, l2, .int x] [.int x, .ref s0, .ref s1] h := (rV_iff)
set_option maxRecDepth 100000 in
theorem s_L_law_787 {ro : rQ} {R : rR} {h : rH} {s0 : Int32} {s1 : Nat} {s2 : Nat} {L : List Value} : rV ro R 787 L [.int s0, .ref s1, .ref s2] h ↔ rV ro R 788 L [.int (nI 1), .int s0, .ref s1, .ref s2] h := (rV_iff)
set_option maxRecDepth 100000 in
theorem s_L_law_788 {ro : rQ} {R : rR} {h : rH} {s0 : Int32} {s1 : Int32} {s2 : Nat} {s3 : Nat} {L : List Value} : rV ro R 788 L [.int s0, .int s1, .ref s2, .ref s3] h ↔ rV ro R 789 L [.int (s1 + s0), .ref s2, .ref s3] h := (rV_iff)
set_option maxRecDepth 100000 in
theorem s_L_law_789 {ro : rQ} {R : rR} {h : rH} {s0 : Int32} {s1 : Nat} {s2 : Nat} {L : List Value} : rV ro R 789 L [.int s0, .ref s1, .ref s2] h ↔ rAi ro h s1 s0 (fun v => rV ro R 790 L [.int v, .ref s2] h) := (v_ai rfl)
set_option maxRecDepth 100000 in
theorem s_L_law_790 {ro : rQ} {R : rR} {h : rH} {s0 : Int32} {s1 : Nat} {x : Nat} {l1 l2 l3 : Value} : rV ro R 790 [.ref x, l1, l2, l3] [.int s0, .ref s1] h ↔ rV ro R 791 [.ref x, l1, l2, l3] [.ref x, .int s0, .ref s1] h := (rV_iff)
set_option maxRecDepth 100000 in
theorem s_L_law_791 {ro : rQ} {R : rR} {h : rH} {s0 : Nat} {s1 : Int32} {s2 : Nat} {x : Int32} {l0 l1 l2 : Value} : rV ro R 791 [l0, l1, l2, .int x] [.ref s0, .int s1, .ref s2] h ↔ rV ro R 792 [l0, l1, l2, .int x] [.int x, .ref s0, .int s1, .ref s2] h := (rV_iff)
set_option maxRecDepth 100000 in
theorem s_L_law_792 {ro : rQ} {R : rR} {h : rH} {s0 : Int32} {s1 : Nat} {s2 : Int32} {s3 : Nat} {L : List Value} : rV ro R 792 L [.int s0, .ref s1, .int s2, .ref s3] h ↔ rV ro R 793 L [.int (nI 2), .int s0, .ref s1, .int s2, .ref s3] h := (rV_iff)
set_option maxRecDepth 100000 in
theorem s_L_law_793 {ro : rQ} {R : rR} {h : rH} {s0 : Int32} {s1 : Int32} {s2 : Nat} {s3 : Int32} {s4 : Nat} {L : List Value} : rV ro R 793 L [.int s0, .int s1, .ref s2, .int s3, .ref s4] h ↔ rV ro R 794 L [.int (s1 + s0), .ref s2, .int s3, .ref s4] h := (rV_iff)
set_option maxRecDepth 100000 in
theorem s_L_law_794 {ro : rQ} {R : rR} {h : rH} {s0 : Int32} {s1 : Nat} {s2 : Int32} {s3 : Nat} {L : List Value} : rV ro R 794 L [.int s0, .ref s1, .int s2, .ref s3] h ↔ rAi ro h s1 s0 (fun v => rV ro R 795 L [.int v, .int s2, .ref s3] h) := (v_ai rfl)
set_option maxRecDepth 100000 in
theorem s_L_law_795 {ro : rQ} {R : rR} {h : rH} {s0 : Int32} {s1 : Int32} {s2 : Nat} {x : Nat} {l1 l2 l3 : Value} : rV ro R 795 [.ref x, l1, l2, l3] [.int s0, .int s1, .ref s2] h ↔ rV ro R 796 [.ref x, l1, l2, l3] [.ref x, .int s0, .int s1, .ref s2] h := (rV_iff)
set_option maxRecDepth 100000 in
theorem s_L_law_796 {ro : rQ} {R : rR} {h : rH} {s0 : Nat} {s1 : Int32} {s2 : Int32} {s3 : Nat} {x : Int32} {l0 l1 l2 : Value} : rV ro R 796 [l0, l1, l2, .int x] [.ref s0, .int s1, .int s2, .ref s3] h ↔ rV ro R 797 [l0, l1, l2, .int x] [.int x, .ref s0, .int s1, .int s2, .ref s3] h := (rV_iff)
set_option maxRecDepth 100000 in
theorem s_L_law_797 {ro : rQ} {R : rR} {h : rH} {s0 : Int32} {s1 : Nat} {s2 : Int32} {s3 : Int32} {s4 : Nat} {L : List Value} : rV ro R 797 L [.int s0, .ref s1, .int s2, .int s3, .ref s4] h ↔ rV ro R 798 L [.int (nI 3), .int s0, .ref s1, .int s2, .int s3, .ref s4] h := (rV_iff)
set_option maxRecDepth 100000 in
theorem s_L_law_798 {ro : rQ} {R : rR} {h : rH} {s0 : Int32} {s1 : Int32} {s2 : Nat} {s3 : Int32} {s4 : Int32} {s5 : Nat} {L : List Value} : rV ro R 798 L [.int s0, .int s1, .ref s2, .int s3, .int s4, .ref s5] h ↔ rV ro R 799 L [.int (s1 + s0), .ref s2, .int s3, .int s4, .ref s5] h := (rV_iff)
set_option maxRecDepth 100000 in
theorem s_L_law_799 {ro : rQ} {R : rR} {h : rH} {s0 : Int32} {s1 : Nat} {s2 : Int32} {s3 : Int32} {s4 : Nat} {L : List Value} : rV ro R 799 L [.int s0, .ref s1, .int s2, .int s3, .ref s4] h ↔ rAi ro h s1 s0 (fun v => rV ro R 800 L [.int v, .int s2, .int s3, .ref s4] h) := (v_ai rfl)
set_option maxRecDepth 100000 in
theorem s_L_law_800 {ro : rQ} {R : rR} {h : rH} {s0 : Int32} {s1 : Int32} {s2 : Int32} {s3 : Nat} {L : List Value} : rV ro R 800 L [.int s0, .int s1, .int s2, .ref s3] h ↔ rVc ro 1000 [8, 66] s3 [.int s2, .int s1, .int s0] h (fun r h => rV ro R 803 L (r.toList ++ []) h) := (v_vc (kd := 0) (n := 3) rfl)
set_option maxRecDepth 100000 in
theorem s_L_law_803 {ro : rQ} {R : rR} {h : rH} {s0 : Int32} {x : Nat} {l0 l1 l3 : Value} : rV ro R 803 [l0, l1, .ref x, l3] [.int s0] h ↔ rV ro R 804 [l0, l1, .ref x, l3] [.ref x, .int s0] h := (rV_iff)
set_option maxRecDepth 100000 in
theorem s_L_law_804 {ro : rQ} {R : rR} {h : rH} {s0 : Nat} {s1 : Int32} {x : Nat} {l1 l2 l3 : Value} : rV ro R 804 [.ref x, l1, l2, l3] [.ref s0, .int s1] h ↔ rV ro R 805 [.ref x, l1, l2, l3] [.ref x, .ref s0, .int s1] h := (rV_iff)
set_option maxRecDepth 100000 in
theorem s_L_law_805 {ro : rQ} {R : rR} {h : rH} {s0 : Nat} {s1 : Nat} {s2 : Int32} {x : Int32} {l0 l1 l2 : Value} : rV ro R 805 [l0, l1, l2, .int x] [.ref s0, .ref s1, .int s2] h ↔ rV ro R 806 [l0, l1, l2, .int x] [.int x, .ref s0, .ref s1, .int s2] h := (rV_iff)
set_option maxRecDepth 100000 in
theorem s_L_law_806 {ro : rQ} {R : rR} {h : rH} {s0 : Int32} {s1 : Nat} {s2 : Nat} {s3 : Int32} {L : List Value} : rV ro R 806 L [.int s0, .ref s1, .ref s2, .int s3] h ↔ rV ro R 807 L [.int (nI 1), .int s0, .ref s1, .ref s2, .int s3] h := (rV_iff)
set_option maxRecDepth 100000 in
theorem s_L_law_807 {ro : rQ} {R : rR} {h : rH} {s0 : Int32} {s1 : Int32} {s2 : Nat} {s3 : Nat} {s4 : Int32} {L : List Value} : rV ro R 807 L [.int s0, .int s1, .ref s2, .ref s3, .int s4] h ↔ rV ro R 808 L [.int (s1 + s0), .ref s2, .ref s3, .int s4] h := (rV_iff)
set_option maxRecDepth 100000 in
theorem s_L_law_808 {ro : rQ} {R : rR} {h : rH} {s0 : Int32} {s1 : Nat} {s2 : Nat} {s3 : Int32} {L : List Value} : rV ro R 808 L [.int s0, .ref s1, .ref s2, .int s3] h ↔ rAi ro h s1 s0 (fun v => rV ro R 809 L [.int v, .ref s2, .int s3] h) := (v_ai rfl)
set_option maxRecDepth 100000 in
theorem s_L_law_809 {ro : rQ} {R : rR} {h : rH} {s0 : Int32} {s1 : Nat} {s2 : Int32} {x : Nat} {l1 l2 l3 : Value} : rV ro R 809 [.ref x, l1, l2, l3] [.int s0, .ref s1, .int s2] h ↔ rV ro R 810 [.ref x, l1, l2, l3] [.ref x, .int s0, .ref s1, .int s2] h := (rV_iff)
set_option maxRecDepth 100000 in
theorem s_L_law_810 {ro : rQ} {R : rR} {h : rH} {s0 : Nat} {s1 : Int32} {s2 : Nat} {s3 : Int32} {x : Int32} {l0 l1 l2 : Value} : rV ro R 810 [l0, l1, l2, .int x] [.ref s0, .int s1, .ref s2, .int s3] h ↔ rV ro R 811 [l0, l1, l2, .int x] [.int x, .ref s0, .int s1, .ref s2, .int s3] h := (rV_iff)
set_option maxRecDepth 100000 in
theorem s_L_law_811 {ro : rQ} {R : rR} {h : rH} {s0 : Int32} {s1 : Nat} {s2 : Int32} {s3 : Nat} {s4 : Int32} {L : List Value} : rV ro R 811 L [.int s0, .ref s1, .int s2, .ref s3, .int s4] h ↔ rV ro R 812 L [.int (nI 2), .int s0, .ref s1, .int s2, .ref s3, .int s4] h := (rV_iff)
set_option maxRecDepth 100000 in
theorem s_L_law_812 {ro : rQ} {R : rR} {h : rH} {s0 : Int32} {s1 : Int32} {s2 : Nat} {s3 : Int32} {s4 : Nat} {s5 : Int32} {L : List Value} : rV ro R 812 L [.int s0, .int s1, .ref s2, .int s3, .ref s4, .int s5] h ↔ rV ro R 813 L [.int (s1 + s0), .ref s2, .int s3, .ref s4, .int s5] h := (rV_iff)
set_option maxRecDepth 100000 in
theorem s_L_law_813 {ro : rQ} {R : rR} {h : rH} {s0 : Int32} {s1 : Nat} {s2 : Int32} {s3 : Nat} {s4 : Int32} {L : List Value} : rV ro R 813 L [.int s0, .ref s1, .int s2, .ref s3, .int s4] h ↔ rAi ro h s1 s0 (fun v => rV ro R 814 L [.int v, .int s2, .ref s3, .int s4] h) := (v_ai rfl)
set_option maxRecDepth 100000 in
theorem s_L_law_814 {ro : rQ} {R : rR} {h : rH} {s0 : Int32} {s1 : Int32} {s2 : Nat} {s3 : Int32} {x : Nat} {l1 l2 l3 : Value} : rV ro R 814 [.ref x, l1, l2, l3] [.int s0, .int s1, .ref s2, .int s3] h ↔ rV ro R 815 [.ref x, l1, l2, l3] [.ref x, .int s0, .int s1, .ref s2, .int s3] h := (rV_iff)
set_option maxRecDepth 100000 in
theorem s_L_law_815 {ro : rQ} {R : rR} {h : rH} {s0 : Nat} {s1 : Int32} {s2 : Int32} {s3 : Nat} {s4 : Int32} {x : Int32} {l0 l1 l2 : Value} : rV ro R 815 [l0, l1, l2, .int x] [.ref s0, .int s1, .int s2, .ref s3, .int s4] h ↔ rV ro R 816 [l0, l1, l2, .int x] [.int x, .ref s0, .int s1, .int s2, .ref s3, .int s4] h := (rV_iff)
set_option maxRecDepth 100000 in
theorem s_L_law_816 {ro : rQ} {R : rR} {h : rH} {s0 : Int32} {s1 : Nat} {s2 : Int32} {s3 : Int32} {s4 : Nat} {s5 : Int32} {L : List Value} : rV ro R 816 L [.int s0, .ref s1, .int s2, .int s3, .ref s4, .int s5] h ↔ rV ro R 817 L [.int (nI 3), .int s0, .ref s1, .int s2, .int s3, .ref s4, .int s5] h := (rV_iff)
set_option maxRecDepth 100000 in
theorem s_L_law_817 {ro : rQ} {R : rR} {h : rH} {s0 : Int32} {s1 : Int32} {s2 : Nat} {s3 : Int32} {s4 : Int32} {s5 : Nat} {s6 : Int32} {L : List Value} : rV ro R 817 L [.int s0, .int s1, .ref s2, .int s3, .int s4, .ref s5, .int s6] h ↔ rV ro R 818 L [.int (s1 + s0), .ref s2, .int s3, .int s4, .ref s5, .int s6] h := (rV_iff)
set_option maxRecDepth 100000 in
theorem s_L_law_818 {ro : rQ} {R : rR} {h : rH} {s0 : Int32} {s1 : Nat} {s2 : Int32} {s3 : Int32} {s4 : Nat} {s5 : Int32} {L : List Value} : rV ro R 818 L [.int s0, .ref s1, .int s2, .int s3, .ref s4, .int s5] h ↔ rAi ro h s1 s0 (fun v => rV ro R 819 L [.int v, .int s2, .int s3, .ref s4, .int s5] h) := (v_ai rfl)
set_option maxRecDepth 100000 in
theorem s_L_law_819 {ro : rQ} {R : rR} {h : rH} {s0 : Int32} {s1 : Int32} {s2 : Int32} {s3 : Nat} {s4 : Int32} {L : List Value} : rV ro R 819 L [.int s0, .int s1, .int s2, .ref s3, .int s4] h ↔ rVc ro 1000 [9, 156] s3 [.int s2, .int s1, .int s0] h (fun r h => rV ro R 822 L (r.toList ++ [.int s4]) h) := (v_vc (kd := 0) (n := 3) rfl)
set_option maxRecDepth 100000 in
theorem s_L_law_822 {ro : rQ} {R : rR} {h : rH} {s0 : Int32} {s1 : Int32} {L : List Value} : rV ro R 822 L [.int s0, .int s1] h ↔ (s1 = s0 → rV ro R 998 L [] h) ∧ (¬ s1 = s0 → rV ro R 825 L [] h) := (rV_iff)
set_option maxRecDepth 100000 in
theorem s_L_law_825 {ro : rQ} {R : rR} {h : rH}  {L : List Value} : rV ro R 825 L [] h ↔ rV ro R 826 L [.int (nI 0)] h := (rV_iff)
set_option maxRecDepth 100000 in
theorem s_L_law_826 {ro : rQ} {R : rR} {h : rH} {s0 : Int32} {L : List Value} : rV ro R 826 L [.int s0] h ↔ (s0 = 0 ∨ s0 = 1) ∧ R (some (.int s0)) h := (v_retz rfl)
set_option maxRecDepth 100000 in
theorem s_L_law_827 {ro : rQ} {R : rR} {h : rH}  {x : Nat} {l0 l2 l3 : Value} : rV ro R 827 [l0, .ref x, l2, l3] [] h ↔ rV ro R 828 [l0, .ref x, l2, l3] [.ref x] h := (rV_iff)
set_option maxRecDepth 100000 in
theorem s_L_law_828 {ro : rQ} {R : rR} {h : rH} {s0 : Nat} {L : List Value} : rV ro R 828 L [.ref s0] h ↔ rVc ro 1000 [8, 67] s0 [] h (fun r h => rV ro R 831 L (r.toList ++ []) h) := (v_vc (kd := 0) (n := 0) rfl)
set_option maxRecDepth 100000 in
theorem s_L_law_831 {ro : rQ} {R : rR} {h : rH} {s0 : Int32} {x : Nat} {l0 l1 l3 : Value} : rV ro R 831 [l0, l1, .ref x, l3] [.int s0] h ↔ rV ro R 832 [l0, l1, .ref x, l3] [.ref x, .int s0] h := (rV_iff)
set_option maxRecDepth 100000 in
theorem s_L_law_832 {ro : rQ} {R : rR} {h : rH} {s0 : Nat} {s1 : Int32} {L : List Value} : rV ro R 832 L [.ref s0, .int s1] h ↔ rVc ro 1000 [9, 157] s0 [] h (fun r h => rV ro R 835 L (r.toList ++ [.int s1]) h) := (v_vc (kd := 0) (n := 0) rfl)
set_option maxRecDepth 100000 in
theorem s_L_law_835 {ro : rQ} {R : rR} {h : rH} {s0 : Int32} {s1 : Int32} {L : List Value} : rV ro R 835 L [.int s0, .int s1] h ↔ (s1 = s0 → rV ro R 998 L [] h) ∧ (¬ s1 = s0 → rV ro R 838 L [] h) := (rV_iff)
set_option maxRecDepth 100000 in
theorem s_L_law_838 {ro : rQ} {R : rR} {h : rH}  {L : List Value} : rV ro R 838 L [] h ↔ rV ro R 839 L [.int (nI 0)] h := (rV_iff)
set_option maxRecDepth 100000 in
theorem s_L_law_839 {ro : rQ} {R : rR} {h : rH} {s0 : Int32} {L : List Value} : rV ro R 839 L [.int s0] h ↔ (s0 = 0 ∨ s0 = 1) ∧ R (some (.int s0)) h := (v_retz rfl)
set_option maxRecDepth 100000 in
theorem s_L_law_840 {ro : rQ} {R : rR} {h : rH}  {x : Nat} {l0 l2 l3 : Value} : rV ro R 840 [l0, .ref x, l2, l3] [] h ↔ rV ro R 841 [l0, .ref x, l2, l3] [.ref x] h := (rV_iff)
set_option maxRecDepth 100000 in
theorem s_L_law_841 {ro : rQ} {R : rR} {h : rH} {s0 : Nat} {x : Nat} {l1 l2 l3 : Value} : rV ro R 841 [.ref x, l1, l2, l3] [.ref s0] h ↔ rV ro R 842 [.ref x, l1, l2, l3] [.ref x, .ref s0] h := (rV_iff)
set_option maxRecDepth 100000 in
theorem s_L_law_842 {ro : rQ} {R : rR} {h : rH} {s0 : Nat} {s1 : Nat} {x : Int32} {l0 l1 l2 : Value} : rV ro R 842 [l0, l1, l2, .int x] [.ref s0, .ref s1] h ↔ rV ro R 843 [l0, l1, l2, .int x] [.int x, .ref s0, .ref s1] h := (rV_iff)
set_option maxRecDepth 100000 in
theorem s_L_law_843 {ro : rQ} {R : rR} {h : rH} {s0 : Int32} {s1 : Nat} {s2 : Nat} {L : List Value} : rV ro R 843 L [.int s0, .ref s1, .ref s2] h ↔ rV ro R 844 L [.int (nI 1), .int s0, .ref s1, .ref s2] h := (rV_iff)
set_option maxRecDepth 100000 in
theorem s_L_law_844 {ro : rQ} {R : rR} {h : rH} {s0 : Int32} {s1 : Int32} {s2 : Nat} {s3 : Nat} {L : List Value} : rV ro R 844 L [.int s0, .int s1, .ref s2, .ref s3] h ↔ rV ro R 845 L [.int (s1 + s0), .ref s2, .ref s3] h := (rV_iff)
set_option maxRecDepth 100000 in
theorem s_L_law_845 {ro : rQ} {R : rR} {h : rH} {s0 : Int32} {s1 : Nat} {s2 : Nat} {L : List Value} : rV ro R 845 L [.int s0, .ref s1, .ref s2] h ↔ rAi ro h s1 s0 (fun v => rV ro R 846 L [.int v, .ref s2] h) := (v_ai rfl)
set_option maxRecDepth 100000 in
theorem s_L_law_846 {ro : rQ} {R : rR} {h : rH} {s0 : Int32} {s1 : Nat} {L : List Value} : rV ro R 846 L [.int s0, .ref s1] h ↔ rVc ro 1000 [8, 68] s1 [.int s0] h (fun r h => rV ro R 849 L (r.toList ++ []) h) := (v_vc (kd := 0) (n := 1) rfl)
set_option maxRecDepth 100000 in
theorem s_L_law_849 {ro : rQ} {R : rR} {h : rH} {s0 : Int32} {x : Nat} {l0 l1 l3 : Value} : rV ro R 849 [l0, l1, .ref x, l3] [.int s0] h ↔ rV ro R 850 [l0, l1, .ref x, l3] [.ref x, .int s0] h := (rV_iff)
set_option maxRecDepth 100000 in
theorem s_L_law_850 {ro : rQ} {R : rR} {h : rH} {s0 : Nat} {s1 : Int32} {x : Nat} {l1 l2 l3 : Value} : rV ro R 850 [.ref x, l1, l2, l3] [.ref s0, .int s1] h ↔ rV ro R 851 [.ref x, l1, l2, l3] [.ref x, .ref s0, .int s1] h := (rV_iff)
set_option maxRecDepth 100000 in
theorem s_L_law_851 {ro : rQ} {R : rR} {h : rH} {s0 : Nat} {s1 : Nat} {s2 : Int32} {x : Int32} {l0 l1 l2 : Value} : rV ro R 851 [l0, l1, l2, .int x] [.ref s0, .ref s1, .int s2] h ↔ rV ro R 852 [l0, l1, l2, .int x] [.int x, .ref s0, .ref s1, .int s2] h := (rV_iff)
set_option maxRecDepth 100000 in
theorem s_L_law_852 {ro : rQ} {R : rR} {h : rH} {s0 : Int32} {s1 : Nat} {s2 : Nat} {s3 : Int32} {L : List Value} : rV ro R 852 L [.int s0, .ref s1, .ref s2, .int s3] h ↔ rV ro R 853 L [.int (nI 1), .int s0, .ref s1, .ref s2, .int s3] h := (rV_iff)
set_option maxRecDepth 100000 in
theorem s_L_law_853 {ro : rQ} {R : rR} {h : rH} {s0 : Int32} {s1 : Int32} {s2 : Nat} {s3 : Nat} {s4 : Int32} {L : List Value} : rV ro R 853 L [.int s0, .int s1, .ref s2, .ref s3, .int s4] h ↔ rV ro R 854 L [.int (s1 + s0), .ref s2, .ref s3, .int s4] h := (rV_iff)
set_option maxRecDepth 100000 in
theorem s_L_law_854 {ro : rQ} {R : rR} {h : rH} {s0 : Int32} {s1 : Nat} {s2 : Nat} {s3 : Int32} {L : List Value} : rV ro R 854 L [.int s0, .ref s1, .ref s2, .int s3] h ↔ rAi ro h s1 s0 (fun v => rV ro R 855 L [.int v, .ref s2, .int s3] h) := (v_ai rfl)
set_option maxRecDepth 100000 in
theorem s_L_law_855 {ro : rQ} {R : rR} {h : rH} {s0 : Int32} {s1 : Nat} {s2 : Int32} {L : List Value} : rV ro R 855 L [.int s0, .ref s1, .int s2] h ↔ rVc ro 1000 [9, 160] s1 [.int s0] h (fun r h => rV ro R 858 L (r.toList ++ [.int s2]) h) := (v_vc (kd := 0) (n := 1) rfl)
set_option maxRecDepth 100000 in
theorem s_L_law_858 {ro : rQ} {R : rR} {h : rH} {s0 : Int32} {s1 : Int32} {L : List Value} : rV ro R 858 L [.int s0, .int s1] h ↔ (s1 = s0 → rV ro R 998 L [] h) ∧ (¬ s1 = s0 → rV ro R 861 L [] h) := (rV_iff)
set_option maxRecDepth 100000 in
theorem s_L_law_861 {ro : rQ} {R : rR} {h : rH}  {L : List Value} : rV ro R 861 L [] h ↔ rV ro R 862 L [.int (nI 0)] h := (rV_iff)
set_option maxRecDepth 100000 in
theorem s_L_law_862 {ro : rQ} {R : rR} {h : rH} {s0 : Int32} {L : List Value} : rV ro R 862 L [.int s0] h ↔ (s0 = 0 ∨ s0 = 1) ∧ R (some (.int s0)) h := (v_retz rfl)
set_option maxRecDepth 100000 in
theorem s_L_law_863 {ro : rQ} {R : rR} {h : rH}  {x : Nat} {l0 l2 l3 : Value} : rV ro R 863 [l0, .ref x, l2, l3] [] h ↔ rV ro R 864 [l0, .ref x, l2, l3] [.ref x] h := (rV_iff)
set_option maxRecDepth 100000 in
theorem s_L_law_864 {ro : rQ} {R : rR} {h : rH} {s0 : Nat} {x : Nat} {l1 l2 l3 : Value} : rV ro R 864 [.ref x, l1, l2, l3] [.ref s0] h ↔ rV ro R 865 [.ref x, l1, l2, l3] [.ref x, .ref s0] h := (rV_iff)
set_option maxRecDepth 100000 in
theorem s_L_law_865 {ro : rQ} {R : rR} {h : rH} {s0 : Nat} {s1 : Nat} {x : Int32} {l0 l1 l2 : Value} : rV ro R 865 [l0, l1, l2, .int x] [.ref s0, .ref s1] h ↔ rV ro R 866 [l0, l1, l2, .int x] [.int x, .ref s0, .ref s1] h := (rV_iff)
set_option maxRecDepth 100000 in
theorem s_L_law_866 {ro : rQ} {R : rR} {h : rH} {s0 : Int32} {s1 : Nat} {s2 : Nat} {L : List Value} : rV ro R 866 L [.int s0, .ref s1, .ref s2] h ↔ rV ro R 867 L [.int (nI 1), .int s0, .ref s1, .ref s2] h := (rV_iff)
set_option maxRecDepth 100000 in
theorem s_L_law_867 {ro : rQ} {R : rR} {h : rH} {s0 : Int32} {s1 : Int32} {s2 : Nat} {s3 : Nat} {L : List Value} : rV ro R 867 L [.int s0, .int s1, .ref s2, .ref s3] h ↔ rV ro R 868 L [.int (s1 + s0), .ref s2, .ref s3] h := (rV_iff)
set_option maxRecDepth 100000 in
theorem s_L_law_868 {ro : rQ} {R : rR} {h : rH} {s0 : Int32} {s1 : Nat} {s2 : Nat} {L : List Value} : rV ro R 868 L [.int s0, .ref s1, .ref s2] h ↔ rAi ro h s1 s0 (fun v => rV ro R 869 L [.int v, .ref s2] h) := (v_ai rfl)
set_option maxRecDepth 100000 in
theorem s_L_law_869 {ro : rQ} {R : rR} {h : rH} {s0 : Int32} {s1 : Nat} {L : List Value} : rV ro R 869 L [.int s0, .ref s1] h ↔ rVc ro 1000 [8, 69] s1 [.int s0] h (fun r h => rV ro R 872 L (r.toList ++ []) h) := (v_vc (kd := 0) (n := 1) rfl)
set_option maxRecDepth 100000 in
theorem s_L_law_872 {ro : rQ} {R : rR} {h : rH} {s0 : Int32} {x : Nat} {l0 l1 l3 : Value} : rV ro R 872 [l0, l1, .ref x, l3] [.int s0] h ↔ rV ro R 873 [l0, l1, .ref x, l3] [.ref x, .int s0] h := (rV_iff)
set_option maxRecDepth 100000 in
theorem s_L_law_873 {ro : rQ} {R : rR} {h : rH} {s0 : Nat} {s1 : Int32} {x : Nat} {l1 l2 l3 : Value} : rV ro R 873 [.ref x, l1, l2, l3] [.ref s0, .int s1] h ↔ rV ro R 874 [.ref x, l1, l2, l3] [.ref x, .ref s0, .int s1] h := (rV_iff)
set_option maxRecDepth 100000 in
theorem s_L_law_874 {ro : rQ} {R : rR} {h : rH} {s0 : Nat} {s1 : Nat} {s2 : Int32} {x : Int32} {l0 l1 l2 : Value} : rV ro R 874 [l0, l1, l2, .int x] [.ref s0, .ref s1, .int s2] h ↔ rV ro R 875 [l0, l1, l2, .int x] [.int x, .ref s0, .ref s1, .int s2] h := (rV_iff)
set_option maxRecDepth 100000 in
theorem s_L_law_875 {ro : rQ} {R : rR} {h : rH} {s0 : Int32} {s1 : Nat} {s2 : Nat} {s3 : Int32} {L : List Value} : rV ro R 875 L [.int s0, .ref s1, .ref s2, .int s3] h ↔ rV ro R 876 L [.int (nI 1), .int s0, .ref s1, .ref s2, .int s3] h := (rV_iff)
set_option maxRecDepth 100000 in
theorem s_L_law_876 {ro : rQ} {R : rR} {h : rH} {s0 : Int32} {s1 : Int32} {s2 : Nat} {s3 : Nat} {s4 : Int32} {L : List Value} : rV ro R 876 L [.int s0, .int s1, .ref s2, .ref s3, .int s4] h ↔ rV ro R 877 L [.int (s1 + s0), .ref s2, .ref s3, .int s4] h := (rV_iff)
set_option maxRecDepth 100000 in
theorem s_L_law_877 {ro : rQ} {R : rR} {h : rH} {s0 : Int32} {s1 : Nat} {s2 : Nat} {s3 : Int32} {L : List Value} : rV ro R 877 L [.int s0, .ref s1, .ref s2, .int s3] h ↔ rAi ro h s1 s0 (fun v => rV ro R 878 L [.int v, .ref s2, .int s3] h) := (v_ai rfl)
set_option maxRecDepth 100000 in
theorem s_L_law_878 {ro : rQ} {R : rR} {h : rH} {s0 : Int32} {s1 : Nat} {s2 : Int32} {L : List Value} : rV ro R 878 L [.int s0, .ref s1, .int s2] h ↔ rVc ro 1000 [9, 161] s1 [.int s0] h (fun r h => rV ro R 881 L (r.toList ++ [.int s2]) h) := (v_vc (kd := 0) (n := 1) rfl)
set_option maxRecDepth 100000 in
theorem s_L_law_881 {ro : rQ} {R : rR} {h : rH} {s0 : Int32} {s1 : Int32} {L : List Value} : rV ro R 881 L [.int s0, .int s1] h ↔ (s1 = s0 → rV ro R 998 L [] h) ∧ (¬ s1 = s0 → rV ro R 884 L [] h) := (rV_iff)
set_option maxRecDepth 100000 in
theorem s_L_law_884 {ro : rQ} {R : rR} {h : rH}  {L : List Value} : rV ro R 884 L [] h ↔ rV ro R 885 L [.int (nI 0)] h := (rV_iff)
set_option maxRecDepth 100000 in
theorem s_L_law_885 {ro : rQ} {R : rR} {h : rH} {s0 : Int32} {L : List Value} : rV ro R 885 L [.int s0] h ↔ (s0 = 0 ∨ s0 = 1) ∧ R (some (.int s0)) h := (v_retz rfl)
set_option maxRecDepth 100000 in
theorem s_L_law_886 {ro : rQ} {R : rR} {h : rH}  {x : Nat} {l0 l2 l3 : Value} : rV ro R 886 [l0, .ref x, l2, l3] [] h ↔ rV ro R 887 [l0, .ref x, l2, l3] [.ref x] h := (rV_iff)
set_option maxRecDepth 100000 in
theorem s_L_law_887 {ro : rQ} {R : rR} {h : rH} {s0 : Nat} {x : Nat} {l1 l2 l3 : Value} : rV ro R 887 [.ref x, l1, l2, l3] [.ref s0] h ↔ rV ro R 888 [.ref x, l1, l2, l3] [.ref x, .ref s0] h := (rV_iff)
set_option maxRecDepth 100000 in
theorem s_L_law_888 {ro : rQ} {R : rR} {h : rH} {s0 : Nat} {s1 : Nat} {x : Int32} {l0 l1 l2 : Value} : rV ro R 888 [l0, l1, l2, .int x] [.ref s0, .ref s1] h ↔ rV ro R 889 [l0, l1, l2, .int x] [.int x, .ref s0, .ref s1] h := (rV_iff)
set_option maxRecDepth 100000 in
theorem s_L_law_889 {ro : rQ} {R : rR} {h : rH} {s0 : Int32} {s1 : Nat} {s2 : Nat} {L : List Value} : rV ro R 889 L [.int s0, .ref s1, .ref s2] h ↔ rV ro R 890 L [.int (nI 1), .int s0, .ref s1, .ref s2] h := (rV_iff)
set_option maxRecDepth 100000 in
theorem s_L_law_890 {ro : rQ} {R : rR} {h : rH} {s0 : Int32} {s1 : Int32} {s2 : Nat} {s3 : Nat} {L : List Value} : rV ro R 890 L [.int s0, .int s1, .ref s2, .ref s3] h ↔ rV ro R 891 L [.int (s1 + s0), .ref s2, .ref s3] h := (rV_iff)
set_option maxRecDepth 100000 in
theorem s_L_law_891 {ro : rQ} {R : rR} {h : rH} {s0 : Int32} {s1 : Nat} {s2 : Nat} {L : List Value} : rV ro R 891 L [.int s0, .ref s1, .ref s2] h ↔ rAi ro h s1 s0 (fun v => rV ro R 892 L [.int v, .ref s2] h) := (v_ai rfl)
set_option maxRecDepth 100000 in
theorem s_L_law_892 {ro : rQ} {R : rR} {h : rH} {s0 : Int32} {s1 : Nat} {x : Nat} {l1 l2 l3 : Value} : rV ro R 892 [.ref x, l1, l2, l3] [.int s0, .ref s1] h ↔ rV ro R 893 [.ref x, l1, l2, l3] [.ref x, .int s0, .ref s1] h := (rV_iff)
set_option maxRecDepth 100000 in
theorem s_L_law_893 {ro : rQ} {R : rR} {h : rH} {s0 : Nat} {s1 : Int32} {s2 : Nat} {x : Int32} {l0 l1 l2 : Value} : rV ro R 893 [l0, l1, l2, .int x] [.ref s0, .int s1, .ref s2] h ↔ rV ro R 894 [l0, l1, l2, .int x] [.int x, .ref s0, .int s1, .ref s2] h := (rV_iff)
set_option maxRecDepth 100000 in
theorem s_L_law_894 {ro : rQ} {R : rR} {h : rH} {s0 : Int32} {s1 : Nat} {s2 : Int32} {s3 : Nat} {L : List Value} : rV ro R 894 L [.int s0, .ref s1, .int s2, .ref s3] h ↔ rV ro R 895 L [.int (nI 2), .int s0, .ref s1, .int s2, .ref s3] h := (rV_iff)
set_option maxRecDepth 100000 in
theorem s_L_law_895 {ro : rQ} {R : rR} {h : rH} {s0 : Int32} {s1 : Int32} {s2 : Nat} {s3 : Int32} {s4 : Nat} {L : List Value} : rV ro R 895 L [.int s0, .int s1, .ref s2, .int s3, .ref s4] h ↔ rV ro R 896 L [.int (s1 + s0), .ref s2, .int s3, .ref s4] h := (rV_iff)
set_option maxRecDepth 100000 in
theorem s_L_law_896 {ro : rQ} {R : rR} {h : rH} {s0 : Int32} {s1 : Nat} {s2 : Int32} {s3 : Nat} {L : List Value} : rV ro R 896 L [.int s0, .ref s1, .int s2, .ref s3] h ↔ rAi ro h s1 s0 (fun v => rV ro R 897 L [.int v, .int s2, .ref s3] h) := (v_ai rfl)
set_option maxRecDepth 100000 in
theorem s_L_law_897 {ro : rQ} {R : rR} {h : rH} {s0 : Int32} {s1 : Int32} {s2 : Nat} {x : Nat} {l1 l2 l3 : Value} : rV ro R 897 [.ref x, l1, l2, l3] [.int s0, .int s1, .ref s2] h ↔ rV ro R 898 [.ref x, l1, l2, l3] [.ref x, .int s0, .int s1, .ref s2] h := (rV_iff)
set_option maxRecDepth 100000 in
theorem s_L_law_898 {ro : rQ} {R : rR} {h : rH} {s0 : Nat} {s1 : Int32} {s2 : Int32} {s3 : Nat} {x : Int32} {l0 l1 l2 : Value} : rV ro R 898 [l0, l1, l2, .int x] [.ref s0, .int s1, .int s2, .ref s3] h ↔ rV ro R 899 [l0, l1, l2, .int x] [.int x, .ref s0, .int s1, .int s2, .ref s3] h := (rV_iff)
set_option maxRecDepth 100000 in
theorem s_L_law_899 {ro : rQ} {R : rR} {h : rH} {s0 : Int32} {s1 : Nat} {s2 : Int32} {s3 : Int32} {s4 : Nat} {L : List Value} : rV ro R 899 L [.int s0, .ref s1, .int s2, .int s3, .ref s4] h ↔ rV ro R 900 L [.int (nI 3), .int s0, .ref s1, .int s2, .int s3, .ref s4] h := (rV_iff)
set_option maxRecDepth 100000 in
theorem s_L_law_900 {ro : rQ} {R : rR} {h : rH} {s0 : Int32} {s1 : Int32} {s2 : Nat} {s3 : Int32} {s4 : Int32} {s5 : Nat} {L : List Value} : rV ro R 900 L [.int s0, .int s1, .ref s2, .int s3, .int s4, .ref s5] h ↔ rV ro R 901 L [.int (s1 + s0), .ref s2, .int s3, .int s4, .ref s5] h := (rV_iff)
set_option maxRecDepth 100000 in
theorem s_L_law_901 {ro : rQ} {R : rR} {h : rH} {s0 : Int32} {s1 : Nat} {s2 : Int32} {s3 : Int32} {s4 : Nat} {L : List Value} : rV ro R 901 L [.int s0, .ref s1, .int s2, .int s3, .ref s4] h ↔ rAi ro h s1 s0 (fun v => rV ro R 902 L [.int v, .int s2, .int s3, .ref s4] h) := (v_ai rfl)
set_option maxRecDepth 100000 in
theorem s_L_law_902 {ro : rQ} {R : rR} {h : rH} {s0 : Int32} {s1 : Int32} {s2 : Int32} {s3 : Nat} {L : List Value} : rV ro R 902 L [.int s0, .int s1, .int s2, .ref s3] h ↔ rVc ro 1000 [8, 70] s3 [.int s2, .int s1, .int s0] h (fun r h => rV ro R 905 L (r.toList ++ []) h) := (v_vc (kd := 0) (n := 3) rfl)
set_option maxRecDepth 100000 in
theorem s_L_law_905 {ro : rQ} {R : rR} {h : rH} {s0 : Int32} {x : Nat} {l0 l1 l3 : Value} : rV ro R 905 [l0, l1, .ref x, l3] [.int s0] h ↔ rV ro R 906 [l0, l1, .ref x, l3] [.ref x, .int s0] h := (rV_iff)
set_option maxRecDepth 100000 in
theorem s_L_law_906 {ro : rQ} {R : rR} {h : rH} {s0 : Nat} {s1 : Int32} {x : Nat} {l1 l2 l3 : Value} : rV ro R 906 [.ref x, l1, l2, l3] [.ref s0, .int s1] h ↔ rV ro R 907 [.ref x, l1, l2, l3] [.ref x, .ref s0, .int s1] h := (rV_iff)
set_option maxRecDepth 100000 in
theorem s_L_law_907 {ro : rQ} {R : rR} {h : rH} {s0 : Nat} {s1 : Nat} {s2 : Int32} {x : Int32} {l0 l1 l2 : Value} : rV ro R 907 [l0, l1, l2, .int x] [.ref s0, .ref s1, .int s2] h ↔ rV ro R 908 [l0, l1, l2, .int x] [.int x, .ref s0, .ref s1, .int s2] h := (rV_iff)
set_option maxRecDepth 100000 in
theorem s_L_law_908 {ro : rQ} {R : rR} {h : rH} {s0 : Int32} {s1 : Nat} {s2 : Nat} {s3 : Int32} {L : List Value} : rV ro R 908 L [.int s0, .ref s1, .ref s2, .int s3] h ↔ rV ro R 909 L [.int (nI 1), .int s0, .ref s1, .ref s2, .int s3] h := (rV_iff)
set_option maxRecDepth 100000 in
theorem s_L_law_909 {ro : rQ} {R : rR} {h : rH} {s0 : Int32} {s1 : Int32} {s2 : Nat} {s3 : Nat} {s4 : Int32} {L : List Value} : rV ro R 909 L [.int s0, .int s1, .ref s2, .ref s3, .int s4] h ↔ rV ro R 910 L [.int (s1 + s0), .ref s2, .ref s3, .int s4] h := (rV_iff)
set_option maxRecDepth 100000 in
theorem s_L_law_910 {ro : rQ} {R : rR} {h : rH} {s0 : Int32} {s1 : Nat} {s2 : Nat} {s3 : Int32} {L : List Value} : rV ro R 910 L [.int s0, .ref s1, .ref s2, .int s3] h ↔ rAi ro h s1 s0 (fun v => rV ro R 911 L [.int v, .ref s2, .int s3] h) := (v_ai rfl)
set_option maxRecDepth 100000 in
theorem s_L_law_911 {ro : rQ} {R : rR} {h : rH} {s0 : Int32} {s1 : Nat} {s2 : Int32} {x : Nat} {l1 l2 l3 : Value} : rV ro R 911 [.ref x, l1, l2, l3] [.int s0, .ref s1, .int s2] h ↔ rV ro R 912 [.ref x, l1, l2, l3] [.ref x, .int s0, .ref s1, .int s2] h := (rV_iff)
set_option maxRecDepth 100000 in
theorem s_L_law_912 {ro : rQ} {R : rR} {h : rH} {s0 : Nat} {s1 : Int32} {s2 : Nat} {s3 : Int32} {x : Int32} {l0 l1 l2 : Value} : rV ro R 912 [l0, l1, l2, .int x] [.ref s0, .int s1, .ref s2, .int s3] h ↔ rV ro R 913 [l0, l1, l2, .int x] [.int x, .ref s0, .int s1, .ref s2, .int s3] h := (rV_iff)
set_option maxRecDepth 100000 in
theorem s_L_law_913 {ro : rQ} {R : rR} {h : rH} {s0 : Int32} {s1 : Nat} {s2 : Int32} {s3 : Nat} {s4 : Int32} {L : List Value} : rV ro R 913 L [.int s0, .ref s1, .int s2, .ref s3, .int s4] h ↔ rV ro R 914 L [.int (nI 2), .int s0, .ref s1, .int s2, .ref s3, .int s4] h := (rV_iff)
set_option maxRecDepth 100000 in
theorem s_L_law_914 {ro : rQ} {R : rR} {h : rH} {s0 : Int32} {s1 : Int32} {s2 : Nat} {s3 : Int32} {s4 : Nat} {s5 : Int32} {L : List Value} : rV ro R 914 L [.int s0, .int s1, .ref s2, .int s3, .ref s4, .int s5] h ↔ rV ro R 915 L [.int (s1 + s0), .ref s2, .int s3, .ref s4, .int s5] h := (rV_iff)
set_option maxRecDepth 100000 in
theorem s_L_law_915 {ro : rQ} {R : rR} {h : rH} {s0 : Int32} {s1 : Nat} {s2 : Int32} {s3 : Nat} {s4 : Int32} {L : List Value} : rV ro R 915 L [.int s0, .ref s1, .int s2, .ref s3, .int s4] h ↔ rAi ro h s1 s0 (fun v => rV ro R 916 L [.int v, .int s2, .ref s3, .int s4] h) := (v_ai rfl)
set_option maxRecDepth 100000 in
theorem s_L_law_916 {ro : rQ} {R : rR} {h : rH} {s0 : Int32} {s1 : Int32} {s2 : Nat} {s3 : Int32} {x : Nat} {l1 l2 l3 : Value} : rV ro R 916 [.ref x, l1, l2, l3] [.int s0, .int s1, .ref s2, .int s3] h ↔ rV ro R 917 [.ref x, l1, l2, l3] [.ref x, .int s0, .int s1, .ref s2, .int s3] h := (rV_iff)
set_option maxRecDepth 100000 in
theorem s_L_law_917 {ro : rQ} {R : rR} {h : rH} {s0 : Nat} {s1 : Int32} {s2 : Int32} {s3 : Nat} {s4 : Int32} {x : Int32} {l0 l1 l2 : Value} : rV ro R 917 [l0, l1, l2, .int x] [.ref s0, .int s1, .int s2, .ref s3, .int s4] h ↔ rV ro R 918 [l0, l1, l2, .int x] [.int x, .ref s0, .int s1, .int s2, .ref s3, .int s4] h := (rV_iff)
set_option maxRecDepth 100000 in
theorem s_L_law_918 {ro : rQ} {R : rR} {h : rH} {s0 : Int32} {s1 : Nat} {s2 : Int32} {s3 : Int32} {s4 : Nat} {s5 : Int32} {L : List Value} : rV ro R 918 L [.int s0, .ref s1, .int s2, .int s3, .ref s4, .int s5] h ↔ rV ro R 919 L [.int (nI 3), .int s0, .ref s1, .int s2, .int s3, .ref s4, .int s5] h := (rV_iff)
set_option maxRecDepth 100000 in
theorem s_L_law_919 {ro : rQ} {R : rR} {h : rH} {s0 : Int32} {s1 : Int32} {s2 : Nat} {s3 : Int32} {s4 : Int32} {s5 : Nat} {s6 : Int32} {L : List Value} : rV ro R 919 L [.int s0, .int s1, .ref s2, .int s3, .int s4, .ref s5, .int s6] h ↔ rV ro R 920 L [.int (s1 + s0), .ref s2, .int s3, .int s4, .ref s5, .int s6] h := (rV_iff)
set_option maxRecDepth 100000 in
theorem s_L_law_920 {ro : rQ} {R : rR} {h : rH} {s0 : Int32} {s1 : Nat} {s2 : Int32} {s3 : Int32} {s4 : Nat} {s5 : Int32} {L : List Value} : rV ro R 920 L [.int s0, .ref s1, .int s2, .int s3, .ref s4, .int s5] h ↔ rAi ro h s1 s0 (fun v => rV ro R 921 L [.int v, .int s2, .int s3, .ref s4, .int s5] h) := (v_ai rfl)
set_option maxRecDepth 100000 in
theorem s_L_law_921 {ro : rQ} {R : rR} {h : rH} {s0 : Int32} {s1 : Int32} {s2 : Int32} {s3 : Nat} {s4 : Int32} {L : List Value} : rV ro R 921 L [.int s0, .int s1, .int s2, .ref s3, .int s4] h ↔ rVc ro 1000 [9, 162] s3 [.int s2, .int s1, .int s0] h (fun r h => rV ro R 924 L (r.toList ++ [.int s4]) h) := (v_vc (kd := 0) (n := 3) rfl)
set_option maxRecDepth 100000 in
theorem s_L_law_924 {ro : rQ} {R : rR} {h : rH} {s0 : Int32} {s1 : Int32} {L : List Value} : rV ro R 924 L [.int s0, .int s1] h ↔ (s1 = s0 → rV ro R 998 L [] h) ∧ (¬ s1 = s0 → rV ro R 927 L [] h) := (rV_iff)
set_option maxRecDepth 100000 in
theorem s_L_law_927 {ro : rQ} {R : rR} {h : rH}  {L : List Value} : rV ro R 927 L [] h ↔ rV ro R 928 L [.int (nI 0)] h := (rV_iff)
set_option maxRecDepth 100000 in
theorem s_L_law_928 {ro : rQ} {R : rR} {h : rH} {s0 : Int32} {L : List Value} : rV ro R 928 L [.int s0] h ↔ (s0 = 0 ∨ s0 = 1) ∧ R (some (.int s0)) h := (v_retz rfl)
set_option maxRecDepth 100000 in
theorem s_L_law_929 {ro : rQ} {R : rR} {h : rH}  {x : Nat} {l0 l2 l3 : Value} : rV ro R 929 [l0, .ref x, l2, l3] [] h ↔ rV ro R 930 [l0, .ref x, l2, l3] [.ref x] h := (rV_iff)
set_option maxRecDepth 100000 in
theorem s_L_law_930 {ro : rQ} {R : rR} {h : rH} {s0 : Nat} {x : Nat} {l1 l2 l3 : Value} : rV ro R 930 [.ref x, l1, l2, l3] [.ref s0] h ↔ rV ro R 931 [.ref x, l1, l2, l3] [.ref x, .ref s0] h := (rV_iff)
set_option maxRecDepth 100000 in
theorem s_L_law_931 {ro : rQ} {R : rR} {h : rH} {s0 : Nat} {s1 : Nat} {x : Int32} {l0 l1 l2 : Value} : rV ro R 931 [l0, l1, l2, .int x] [.ref s0, .ref s1] h ↔ rV ro R 932 [l0, l1, l2, .int x] [.int x, .ref s0, .ref s1] h := (rV_iff)
set_option maxRecDepth 100000 in
theorem s_L_law_932 {ro : rQ} {R : rR} {h : rH} {s0 : Int32} {s1 : Nat} {s2 : Nat} {L : List Value} : rV ro R 932 L [.int s0, .ref s1, .ref s2] h ↔ rV ro R 933 L [.int (nI 1), .int s0, .ref s1, .ref s2] h := (rV_iff)
set_option maxRecDepth 100000 in
theorem s_L_law_933 {ro : rQ} {R : rR} {h : rH} {s0 : Int32} {s1 : Int32} {s2 : Nat} {s3 : Nat} {L : List Value} : rV ro R 933 L [.int s0, .int s1, .ref s2, .ref s3] h ↔ rV ro R 934 L [.int (s1 + s0), .ref s2, .ref s3] h := (rV_iff)
set_option maxRecDepth 100000 in
theorem s_L_law_934 {ro : rQ} {R : rR} {h : rH} {s0 : Int32} {s1 : Nat} {s2 : Nat} {L : List Value} : rV ro R 934 L [.int s0, .ref s1, .ref s2] h ↔ rAi ro h s1 s0 (fun v => rV ro R 935 L [.int v, .ref s2] h) := (v_ai rfl)
set_option maxRecDepth 100000 in
theorem s_L_law_935 {ro : rQ} {R : rR} {h : rH} {s0 : Int32} {s1 : Nat} {L : List Value} : rV ro R 935 L [.int s0, .ref s1] h ↔ rVc ro 1000 [8, 71] s1 [.int s0] h (fun r h => rV ro R 938 L (r.toList ++ []) h) := (v_vc (kd := 0) (n := 1) rfl)
set_option maxRecDepth 100000 in
theorem s_L_law_938 {ro : rQ} {R : rR} {h : rH} {s0 : Int32} {x : Nat} {l0 l1 l3 : Value} : rV ro R 938 [l0, l1, .ref x, l3] [.int s0] h ↔ rV ro R 939 [l0, l1, .ref x, l3] [.ref x, .int s0] h := (rV_iff)
set_option maxRecDepth 100000 in
theorem s_L_law_939 {ro : rQ} {R : rR} {h : rH} {s0 : Nat} {s1 : Int32} {x : Nat} {l1 l2 l3 : Value} : rV ro R 939 [.ref x, l1, l2, l3] [.ref s0, .int s1] h ↔ rV ro R 940 [.ref x, l1, l2, l3] [.ref x, .ref s0, .int s1] h := (rV_iff)
set_option maxRecDepth 100000 in
theorem s_L_law_940 {ro : rQ} {R : rR} {h : rH} {s0 : Nat} {s1 : Nat} {s2 : Int32} {x : Int32} {l0 l1 l2 : Value} : rV ro R 940 [l0, l1, l2, .int x] [.ref s0, .ref s1, .int s2] h ↔ rV ro R 941 [l0, l1, l2, .int x] [.int x, .ref s0, .ref s1, .int s2] h := (rV_iff)
set_option maxRecDepth 100000 in
theorem s_L_law_941 {ro : rQ} {R : rR} {h : rH} {s0 : Int32} {s1 : Nat} {s2 : Nat} {s3 : Int32} {L : List Value} : rV ro R 941 L [.int s0, .ref s1, .ref s2, .int s3] h ↔ rV ro R 942 L [.int (nI 1), .int s0, .ref s1, .ref s2, .int s3] h := (rV_iff)
set_option maxRecDepth 100000 in
theorem s_L_law_942 {ro : rQ} {R : rR} {h : rH} {s0 : Int32} {s1 : Int32} {s2 : Nat} {s3 : Nat} {s4 : Int32} {L : List Value} : rV ro R 942 L [.int s0, .int s1, .ref s2, .ref s3, .int s4] h ↔ rV ro R 943 L [.int (s1 + s0), .ref s2, .ref s3, .int s4] h := (rV_iff)
set_option maxRecDepth 100000 in
theorem s_L_law_943 {ro : rQ} {R : rR} {h : rH} {s0 : Int32} {s1 : Nat} {s2 : Nat} {s3 : Int32} {L : List Value} : rV ro R 943 L [.int s0, .ref s1, .ref s2, .int s3] h ↔ rAi ro h s1 s0 (fun v => rV ro R 944 L [.int v, .ref s2, .int s3] h) := (v_ai rfl)
set_option maxRecDepth 100000 in
theorem s_L_law_944 {ro : rQ} {R : rR} {h : rH} {s0 : Int32} {s1 : Nat} {s2 : Int32} {L : List Value} : rV ro R 944 L [.int s0, .ref s1, .int s2] h ↔ rVc ro 1000 [9, 163] s1 [.int s0] h (fun r h => rV ro R 947 L (r.toList ++ [.int s2]) h) := (v_vc (kd := 0) (n := 1) rfl)
set_option maxRecDepth 100000 in
theorem s_L_law_947 {ro : rQ} {R : rR} {h : rH} {s0 : Int32} {s1 : Int32} {L : List Value} : rV ro R 947 L [.int s0, .int s1] h ↔ (s1 = s0 → rV ro R 998 L [] h) ∧ (¬ s1 = s0 → rV ro R 950 L [] h) := (rV_iff)
set_option maxRecDepth 100000 in
theorem s_L_law_950 {ro : rQ} {R : rR} {h : rH}  {L : List Value} : rV ro R 950 L [] h ↔ rV ro R 951 L [.int (nI 0)] h := (rV_iff)
set_option maxRecDepth 100000 in
theorem s_L_law_951 {ro : rQ} {R : rR} {h : rH} {s0 : Int32} {L : List Value} : rV ro R 951 L [.int s0] h ↔ (s0 = 0 ∨ s0 = 1) ∧ R (some (.int s0)) h := (v_retz rfl)
set_option maxRecDepth 100000 in
theorem s_L_law_952 {ro : rQ} {R : rR} {h : rH}  {x : Nat} {l0 l2 l3 : Value} : rV ro R 952 [l0, .ref x, l2, l3] [] h ↔ rV ro R 953 [l0, .ref x, l2, l3] [.ref x] h := (rV_iff)
set_option maxRecDepth 100000 in
theorem s_L_law_953 {ro : rQ} {R : rR} {h : rH} {s0 : Nat} {x : Nat} {l1 l2 l3 : Value} : rV ro R 953 [.ref x, l1, l2, l3] [.ref s0] h ↔ rV ro R 954 [.ref x, l1, l2, l3] [.ref x, .ref s0] h := (rV_iff)
set_option maxRecDepth 100000 in
theorem s_L_law_954 {ro : rQ} {R : rR} {h : rH} {s0 : Nat} {s1 : Nat} {x : Int32} {l0 l1 l2 : Value} : rV ro R 954 [l0, l1, l2, .int x] [.ref s0, .ref s1] h ↔ rV ro R 955 [l0, l1, l2, .int x] [.int x, .ref s0, .ref s1] h := (rV_iff)
set_option maxRecDepth 100000 in
theorem s_L_law_955 {ro : rQ} {R : rR} {h : rH} {s0 : Int32} {s1 : Nat} {s2 : Nat} {L : List Value} : rV ro R 955 L [.int s0, .ref s1, .ref s2] h ↔ rV ro R 956 L [.int (nI 1), .int s0, .ref s1, .ref s2] h := (rV_iff)
set_option maxRecDepth 100000 in
theorem s_L_law_956 {ro : rQ} {R : rR} {h : rH} {s0 : Int32} {s1 : Int32} {s2 : Nat} {s3 : Nat} {L : List Value} : rV ro R 956 L [.int s0, .int s1, .ref s2, .ref s3] h ↔ rV ro R 957 L [.int (s1 + s0), .ref s2, .ref s3] h := (rV_iff)
set_option maxRecDepth 100000 in
theorem s_L_law_957 {ro : rQ} {R : rR} {h : rH} {s0 : Int32} {s1 : Nat} {s2 : Nat} {L : List Value} : rV ro R 957 L [.int s0, .ref s1, .ref s2] h ↔ rAi ro h s1 s0 (fun v => rV ro R 958 L [.int v, .ref s2] h) := (v_ai rfl)
set_option maxRecDepth 100000 in
theorem s_L_law_958 {ro : rQ} {R : rR} {h : rH} {s0 : Int32} {s1 : Nat} {L : List Value} : rV ro R 958 L [.int s0, .ref s1] h ↔ rVc ro 1000 [8, 72] s1 [.int s0] h (fun r h => rV ro R 961 L (r.toList ++ []) h) := (v_vc (kd := 0) (n := 1) rfl)
set_option maxRecDepth 100000 in
theorem s_L_law_961 {ro : rQ} {R : rR} {h : rH} {s0 : Int32} {x : Nat} {l0 l1 l3 : Value} : rV ro R 961 [l0, l1, .ref x, l3] [.int s0] h ↔ rV ro R 962 [l0, l1, .ref x, l3] [.ref x, .int s0] h := (rV_iff)
set_option maxRecDepth 100000 in
theorem s_L_law_962 {ro : rQ} {R : rR} {h : rH} {s0 : Nat} {s1 : Int32} {x : Nat} {l1 l2 l3 : Value} : rV ro R 962 [.ref x, l1, l2, l3] [.ref s0, .int s1] h ↔ rV ro R 963 [.ref x, l1, l2, l3] [.ref x, .ref s0, .int s1] h := (rV_iff)
set_option maxRecDepth 100000 in
theorem s_L_law_963 {ro : rQ} {R : rR} {h : rH} {s0 : Nat} {s1 : Nat} {s2 : Int32} {x : Int32} {l0 l1 l2 : Value} : rV ro R 963 [l0, l1, l2, .int x] [.ref s0, .ref s1, .int s2] h ↔ rV ro R 964 [l0, l1, l2, .int x] [.int x, .ref s0, .ref s1, .int s2] h := (rV_iff)
set_option maxRecDepth 100000 in
theorem s_L_law_964 {ro : rQ} {R : rR} {h : rH} {s0 : Int32} {s1 : Nat} {s2 : Nat} {s3 : Int32} {L : List Value} : rV ro R 964 L [.int s0, .ref s1, .ref s2, .int s3] h ↔ rV ro R 965 L [.int (nI 1), .int s0, .ref s1, .ref s2, .int s3] h := (rV_iff)
set_option maxRecDepth 100000 in
theorem s_L_law_965 {ro : rQ} {R : rR} {h : rH} {s0 : Int32} {s1 : Int32} {s2 : Nat} {s3 : Nat} {s4 : Int32} {L : List Value} : rV ro R 965 L [.int s0, .int s1, .ref s2, .ref s3, .int s4] h ↔ rV ro R 966 L [.int (s1 + s0), .ref s2, .ref s3, .int s4] h := (rV_iff)
set_option maxRecDepth 100000 in
theorem s_L_law_966 {ro : rQ} {R : rR} {h : rH} {s0 : Int32} {s1 : Nat} {s2 : Nat} {s3 : Int32} {L : List Value} : rV ro R 966 L [.int s0, .ref s1, .ref s2, .int s3] h ↔ rAi ro h s1 s0 (fun v => rV ro R 967 L [.int v, .ref s2, .int s3] h) := (v_ai rfl)
set_option maxRecDepth 100000 in
theorem s_L_law_967 {ro : rQ} {R : rR} {h : rH} {s0 : Int32} {s1 : Nat} {s2 : Int32} {L : List Value} : rV ro R 967 L [.int s0, .ref s1, .int s2] h ↔ rVc ro 1000 [9, 164] s1 [.int s0] h (fun r h => rV ro R 970 L (r.toList ++ [.int s2]) h) := (v_vc (kd := 0) (n := 1) rfl)
set_option maxRecDepth 100000 in
theorem s_L_law_970 {ro : rQ} {R : rR} {h : rH} {s0 : Int32} {s1 : Int32} {L : List Value} : rV ro R 970 L [.int s0, .int s1] h ↔ (s1 = s0 → rV ro R 998 L [] h) ∧ (¬ s1 = s0 → rV ro R 973 L [] h) := (rV_iff)
set_option maxRecDepth 100000 in
theorem s_L_law_973 {ro : rQ} {R : rR} {h : rH}  {L : List Value} : rV ro R 973 L [] h ↔ rV ro R 974 L [.int (nI 0)] h := (rV_iff)
set_option maxRecDepth 100000 in
theorem s_L_law_974 {ro : rQ} {R : rR} {h : rH} {s0 : Int32} {L : List Value} : rV ro R 974 L [.int s0] h ↔ (s0 = 0 ∨ s0 = 1) ∧ R (some (.int s0)) h := (v_retz rfl)
set_option maxRecDepth 100000 in
theorem s_L_law_975 {ro : rQ} {R : rR} {h : rH}  {x : Nat} {l0 l2 l3 : Value} : rV ro R 975 [l0, .ref x, l2, l3] [] h ↔ rV ro R 976 [l0, .ref x, l2, l3] [.ref x] h := (rV_iff)
set_option maxRecDepth 100000 in
theorem s_L_law_976 {ro : rQ} {R : rR} {h : rH} {s0 : Nat} {x : Nat} {l1 l2 l3 : Value} : rV ro R 976 [.ref x, l1, l2, l3] [.ref s0] h ↔ rV ro R 977 [.ref x, l1, l2, l3] [.ref x, .ref s0] h := (rV_iff)
set_option maxRecDepth 100000 in
theorem s_L_law_977 {ro : rQ} {R : rR} {h : rH} {s0 : Nat} {s1 : Nat} {x : Int32} {l0 l1 l2 : Value} : rV ro R 977 [l0, l1, l2, .int x] [.ref s0, .ref s1] h ↔ rV ro R 978 [l0, l1, l2, .int x] [.int x, .ref s0, .ref s1] h := (rV_iff)
set_option maxRecDepth 100000 in
theorem s_L_law_978 {ro : rQ} {R : rR} {h : rH} {s0 : Int32} {s1 : Nat} {s2 : Nat} {L : List Value} : rV ro R 978 L [.int s0, .ref s1, .ref s2] h ↔ rV ro R 979 L [.int (nI 1), .int s0, .ref s1, .ref s2] h := (rV_iff)
set_option maxRecDepth 100000 in
theorem s_L_law_979 {ro : rQ} {R : rR} {h : rH} {s0 : Int32} {s1 : Int32} {s2 : Nat} {s3 : Nat} {L : List Value} : rV ro R 979 L [.int s0, .int s1, .ref s2, .ref s3] h ↔ rV ro R 980 L [.int (s1 + s0), .ref s2, .ref s3] h := (rV_iff)
set_option maxRecDepth 100000 in
theorem s_L_law_980 {ro : rQ} {R : rR} {h : rH} {s0 : Int32} {s1 : Nat} {s2 : Nat} {L : List Value} : rV ro R 980 L [.int s0, .ref s1, .ref s2] h ↔ rAi ro h s1 s0 (fun v => rV ro R 981 L [.int v, .ref s2] h) := (v_ai rfl)
set_option maxRecDepth 100000 in
theorem s_L_law_981 {ro : rQ} {R : rR} {h : rH} {s0 : Int32} {s1 : Nat} {L : List Value} : rV ro R 981 L [.int s0, .ref s1] h ↔ rVc ro 1000 [8, 73] s1 [.int s0] h (fun r h => rV ro R 984 L (r.toList ++ []) h) := (v_vc (kd := 0) (n := 1) rfl)
set_option maxRecDepth 100000 in
theorem s_L_law_984 {ro : rQ} {R : rR} {h : rH} {s0 : Int32} {x : Nat} {l0 l1 l3 : Value} : rV ro R 984 [l0, l1, .ref x, l3] [.int s0] h ↔ rV ro R 985 [l0, l1, .ref x, l3] [.ref x, .int s0] h := (rV_iff)
set_option maxRecDepth 100000 in
theorem s_L_law_985 {ro : rQ} {R : rR} {h : rH} {s0 : Nat} {s1 : Int32} {x : Nat} {l1 l2 l3 : Value} : rV ro R 985 [.ref x, l1, l2, l3] [.ref s0, .int s1] h ↔ rV ro R 986 [.ref x, l1, l2, l3] [.ref x, .ref s0, .int s1] h := (rV_iff)
set_option maxRecDepth 100000 in
theorem s_L_law_986 {ro : rQ} {R : rR} {h : rH} {s0 : Nat} {s1 : Nat} {s2 : Int32} {x : Int32} {l0 l1 l2 : Value} : rV ro R 986 [l0, l1, l2, .int x] [.ref s0, .ref s1, .int s2] h ↔ rV ro R 987 [l0, l1, l2, .int x] [.int x, .ref s0, .ref s1, .int s2] h := (rV_iff)
set_option maxRecDepth 100000 in
theorem s_L_law_987 {ro : rQ} {R : rR} {h : rH} {s0 : Int32} {s1 : Nat} {s2 : Nat} {s3 : Int32} {L : List Value} : rV ro R 987 L [.int s0, .ref s1, .ref s2, .int s3] h ↔ rV ro R 988 L [.int (nI 1), .int s0, .ref s1, .ref s2, .int s3] h := (rV_iff)
set_option maxRecDepth 100000 in
theorem s_L_law_988 {ro : rQ} {R : rR} {h : rH} {s0 : Int32} {s1 : Int32} {s2 : Nat} {s3 : Nat} {s4 : Int32} {L : List Value} : rV ro R 988 L [.int s0, .int s1, .ref s2, .ref s3, .int s4] h ↔ rV ro R 989 L [.int (s1 + s0), .ref s2, .ref s3, .int s4] h := (rV_iff)
set_option maxRecDepth 100000 in
theorem s_L_law_989 {ro : rQ} {R : rR} {h : rH} {s0 : Int32} {s1 : Nat} {s2 : Nat} {s3 : Int32} {L : List Value} : rV ro R 989 L [.int s0, .ref s1, .ref s2, .int s3] h ↔ rAi ro h s1 s0 (fun v => rV ro R 990 L [.int v, .ref s2, .int s3] h) := (v_ai rfl)
set_option maxRecDepth 100000 in
theorem s_L_law_990 {ro : rQ} {R : rR} {h : rH} {s0 : Int32} {s1 : Nat} {s2 : Int32} {L : List Value} : rV ro R 990 L [.int s0, .ref s1, .int s2] h ↔ rVc ro 1000 [9, 165] s1 [.int s0] h (fun r h => rV ro R 993 L (r.toList ++ [.int s2]) h) := (v_vc (kd := 0) (n := 1) rfl)
set_option maxRecDepth 100000 in
theorem s_L_law_993 {ro : rQ} {R : rR} {h : rH} {s0 : Int32} {s1 : Int32} {L : List Value} : rV ro R 993 L [.int s0, .int s1] h ↔ (s1 = s0 → rV ro R 998 L [] h) ∧ (¬ s1 = s0 → rV ro R 996 L [] h) := (rV_iff)
set_option maxRecDepth 100000 in
theorem s_L_law_996 {ro : rQ} {R : rR} {h : rH}  {L : List Value} : rV ro R 996 L [] h ↔ rV ro R 997 L [.int (nI 0)] h := (rV_iff)
set_option maxRecDepth 100000 in
theorem s_L_law_997 {ro : rQ} {R : rR} {h : rH} {s0 : Int32} {L : List Value} : rV ro R 997 L [.int s0] h ↔ (s0 = 0 ∨ s0 = 1) ∧ R (some (.int s0)) h := (v_retz rfl)
set_option maxRecDepth 100000 in
theorem s_L_law_998 {ro : rQ} {R : rR} {h : rH}  {x : Int32} {l0 l1 l2 : Value} : rV ro R 998 [l0, l1, l2, .int x] [] h ↔ rcl [l0, l1, l2, .int x] 3 = true ∧ rV ro R 1001 [l0, l1, l2, .int (x + nI 4)] [] h := (v_inc rfl)
set_option maxRecDepth 100000 in
theorem s_L_law_1001 {ro : rQ} {R : rR} {h : rH}  {L : List Value} : rV ro R 1001 L [] h ↔ rV ro R 18 L [] h := (rV_iff)
set_option maxRecDepth 100000 in
theorem s_L_law_1004 {ro : rQ} {R : rR} {h : rH}  {L : List Value} : rV ro R 1004 L [] h ↔ rV ro R 1005 L [.int (nI 1)] h := (rV_iff)
set_option maxRecDepth 100000 in
theorem s_L_law_1005 {ro : rQ} {R : rR} {h : rH} {s0 : Int32} {L : List Value} : rV ro R 1005 L [.int s0] h ↔ (s0 = 0 ∨ s0 = 1) ∧ R (some (.int s0)) h := (v_retz rfl)
