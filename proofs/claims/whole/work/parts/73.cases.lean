/-! ===== the law, call by call ===== -/
section LC
variable {R : rR} {c : Nat → rE} {T : TS} {sg i LL : Nat} {pd xs : Nat → Int32} {im : Nat → Option TS}
theorem lc_inn (hi : i + 4 ≤ LL) (hL : LL ≤ 2048) (hn : NXT (rRo LL xs) R i) (hI0 : INV c T sg pd im) : rV (rRo LL xs) R 164 [.ref 1000004, .ref 0, .ref 53, .int (nI i)] [] (tab c) := by
  obtain ⟨hC, hM, hV, hs, hI⟩ := hI0
  obtain ⟨n, m, v, w, fo, si, st⟩ := T
  simp only [s_L_law_164, s_L_law_165, s_L_law_166, s_L_law_167, s_L_law_168, s_L_law_169, s_L_law_170, s_L_law_171, s_L_law_172, s_L_law_173, s_L_law_174, s_L_law_175, s_L_law_178, s_L_law_179, s_L_law_180, s_L_law_181, s_L_law_182, s_L_law_183, s_L_law_184, s_L_law_185, s_L_law_186, s_L_law_187, s_L_law_188, s_L_law_189, s_L_law_192, s_L_law_195, s_L_law_196, nI_add, sc_rd (show i + 1 < LL by omega) hL, sc_rd (show i + 2 < LL by omega) hL, sc_rd (show i + 3 < LL by omega) hL, vl_o hC.1.1]
  refine cl_inn hV hC fun c1 f1 hC1 => ?_
  have hM1 := hM.out f1 rfl
  obtain ⟨fr, ru, lu, e53⟩ := id hM1.1.1
  simp only [Option.toList_some, Option.toList_none, List.cons_append, List.nil_append, Option.toList, s_L_law_164, s_L_law_165, s_L_law_166, s_L_law_167, s_L_law_168, s_L_law_169, s_L_law_170, s_L_law_171, s_L_law_172, s_L_law_173, s_L_law_174, s_L_law_175, s_L_law_178, s_L_law_179, s_L_law_180, s_L_law_181, s_L_law_182, s_L_law_183, s_L_law_184, s_L_law_185, s_L_law_186, s_L_law_187, s_L_law_188, s_L_law_189, s_L_law_192, s_L_law_195, s_L_law_196, nI_add, sc_rd (show i + 1 < LL by omega) hL, sc_rd (show i + 2 < LL by omega) hL, sc_rd (show i + 3 < LL by omega) hL, vm_o e53]
  refine ml_inn hV hM1 fun c2 f2 hM2 => ?_
  have hC2 := hC1.out f2
  simp only [Option.toList_some, Option.toList_none, List.cons_append, List.nil_append, Option.toList, s_L_law_164, s_L_law_165, s_L_law_166, s_L_law_167, s_L_law_168, s_L_law_169, s_L_law_170, s_L_law_171, s_L_law_172, s_L_law_173, s_L_law_174, s_L_law_175, s_L_law_178, s_L_law_179, s_L_law_180, s_L_law_181, s_L_law_182, s_L_law_183, s_L_law_184, s_L_law_185, s_L_law_186, s_L_law_187, s_L_law_188, s_L_law_189, s_L_law_192, s_L_law_195, s_L_law_196]
  exact ⟨fun _ => hn c2 _ _ _ _ ⟨hC2, hM2, (vs_inn hV), hs, hI⟩, fun q => absurd (by first | exact trivial | rfl) q⟩
theorem lc_rule (hi : i + 4 ≤ LL) (hL : LL ≤ 2048) (hn : NXT (rRo LL xs) R i) (hI0 : INV c T sg pd im) : rV (rRo LL xs) R 197 [.ref 1000004, .ref 0, .ref 53, .int (nI i)] [] (tab c) := by
  obtain ⟨hC, hM, hV, hs, hI⟩ := hI0
  obtain ⟨n, m, v, w, fo, si, st⟩ := T
  simp only [s_L_law_197, s_L_law_198, s_L_law_199, s_L_law_200, s_L_law_201, s_L_law_202, s_L_law_203, s_L_law_206, s_L_law_207, s_L_law_208, s_L_law_209, s_L_law_210, s_L_law_211, s_L_law_212, s_L_law_215, s_L_law_218, s_L_law_219, nI_add, sc_rd (show i + 1 < LL by omega) hL, sc_rd (show i + 2 < LL by omega) hL, sc_rd (show i + 3 < LL by omega) hL, vl_o hC.1.1]
  refine cl_rule hV hC fun c1 f1 hC1 => ?_
  have hM1 := hM.out f1 rfl
  obtain ⟨fr, ru, lu, e53⟩ := id hM1.1.1
  simp only [Option.toList_some, Option.toList_none, List.cons_append, List.nil_append, Option.toList, s_L_law_197, s_L_law_198, s_L_law_199, s_L_law_200, s_L_law_201, s_L_law_202, s_L_law_203, s_L_law_206, s_L_law_207, s_L_law_208, s_L_law_209, s_L_law_210, s_L_law_211, s_L_law_212, s_L_law_215, s_L_law_218, s_L_law_219, nI_add, sc_rd (show i + 1 < LL by omega) hL, sc_rd (show i + 2 < LL by omega) hL, sc_rd (show i + 3 < LL by omega) hL, vm_o e53]
  refine ml_rule hM1 fun c2 f2 hM2 => ?_
  have hC2 := hC1.out f2
  simp only [Option.toList_some, Option.toList_none, List.cons_append, List.nil_append, Option.toList, s_L_law_197, s_L_law_198, s_L_law_199, s_L_law_200, s_L_law_201, s_L_law_202, s_L_law_203, s_L_law_206, s_L_law_207, s_L_law_208, s_L_law_209, s_L_law_210, s_L_law_211, s_L_law_212, s_L_law_215, s_L_law_218, s_L_law_219]
  exact ⟨fun _ => hn c2 _ _ _ _ ⟨hC2, hM2, (vs_rule hV), hs, hI⟩, fun q => absurd (by first | exact trivial | rfl) q⟩
theorem lc_say (hi : i + 4 ≤ LL) (hL : LL ≤ 2048) (hn : NXT (rRo LL xs) R i) (hI0 : INV c T sg pd im) : rV (rRo LL xs) R 220 [.ref 1000004, .ref 0, .ref 53, .int (nI i)] [] (tab c) := by
  obtain ⟨hC, hM, hV, hs, hI⟩ := hI0
  obtain ⟨n, m, v, w, fo, si, st⟩ := T
  simp only [s_L_law_220, s_L_law_221, s_L_law_222, s_L_law_223, s_L_law_224, s_L_law_225, s_L_law_226, s_L_law_229, s_L_law_230, s_L_law_231, s_L_law_232, s_L_law_233, s_L_law_234, s_L_law_235, s_L_law_238, s_L_law_241, s_L_law_242, nI_add, sc_rd (show i + 1 < LL by omega) hL, sc_rd (show i + 2 < LL by omega) hL, sc_rd (show i + 3 < LL by omega) hL, vl_o hC.1.1]
  refine cl_say hs hC fun c1 f1 hC1 => ?_
  have hM1 := hM.out f1 rfl
  obtain ⟨fr, ru, lu, e53⟩ := id hM1.1.1
  simp only [Option.toList_some, Option.toList_none, List.cons_append, List.nil_append, Option.toList, s_L_law_220, s_L_law_221, s_L_law_222, s_L_law_223, s_L_law_224, s_L_law_225, s_L_law_226, s_L_law_229, s_L_law_230, s_L_law_231, s_L_law_232, s_L_law_233, s_L_law_234, s_L_law_235, s_L_law_238, s_L_law_241, s_L_law_242, nI_add, sc_rd (show i + 1 < LL by omega) hL, sc_rd (show i + 2 < LL by omega) hL, sc_rd (show i + 3 < LL by omega) hL, vm_o e53]
  refine ml_say hs hM1 fun c2 f2 hM2 => ?_
  have hC2 := hC1.out f2
  simp only [Option.toList_some, Option.toList_none, List.cons_append, List.nil_append, Option.toList, s_L_law_220, s_L_law_221, s_L_law_222, s_L_law_223, s_L_law_224, s_L_law_225, s_L_law_226, s_L_law_229, s_L_law_230, s_L_law_231, s_L_law_232, s_L_law_233, s_L_law_234, s_L_law_235, s_L_law_238, s_L_law_241, s_L_law_242]
  exact ⟨fun _ => hn c2 _ _ _ _ ⟨hC2, hM2, hV, (say_le hs), hI⟩, fun q => absurd (by first | exact trivial | rfl) q⟩
theorem lc_wipe (hi : i + 4 ≤ LL) (hL : LL ≤ 2048) (hn : NXT (rRo LL xs) R i) (hI0 : INV c T sg pd im) : rV (rRo LL xs) R 243 [.ref 1000004, .ref 0, .ref 53, .int (nI i)] [] (tab c) := by
  obtain ⟨hC, hM, hV, hs, hI⟩ := hI0
  obtain ⟨n, m, v, w, fo, si, st⟩ := T
  simp only [s_L_law_243, s_L_law_244, s_L_law_247, s_L_law_248, s_L_law_251, s_L_law_254, s_L_law_255, nI_add, sc_rd (show i + 1 < LL by omega) hL, sc_rd (show i + 2 < LL by omega) hL, sc_rd (show i + 3 < LL by omega) hL, vl_o hC.1.1]
  refine cl_wipe hC fun c1 f1 hC1 => ?_
  have hM1 := hM.out f1 rfl
  obtain ⟨fr, ru, lu, e53⟩ := id hM1.1.1
  simp only [Option.toList_some, Option.toList_none, List.cons_append, List.nil_append, Option.toList, s_L_law_243, s_L_law_244, s_L_law_247, s_L_law_248, s_L_law_251, s_L_law_254, s_L_law_255, nI_add, sc_rd (show i + 1 < LL by omega) hL, sc_rd (show i + 2 < LL by omega) hL, sc_rd (show i + 3 < LL by omega) hL, vm_o e53]
  refine ml_wipe hM1 fun c2 f2 hM2 => ?_
  have hC2 := hC1.out f2
  simp only [Option.toList_some, Option.toList_none, List.cons_append, List.nil_append, Option.toList, s_L_law_243, s_L_law_244, s_L_law_247, s_L_law_248, s_L_law_251, s_L_law_254, s_L_law_255]
  exact ⟨fun _ => hn c2 _ _ _ _ ⟨hC2, hM2, hV, (Nat.zero_le _), hI⟩, fun q => absurd (by first | exact trivial | rfl) q⟩
theorem lc_fault (hi : i + 4 ≤ LL) (hL : LL ≤ 2048) (hn : NXT (rRo LL xs) R i) (hI0 : INV c T sg pd im) : rV (rRo LL xs) R 256 [.ref 1000004, .ref 0, .ref 53, .int (nI i)] [] (tab c) := by
  obtain ⟨hC, hM, hV, hs, hI⟩ := hI0
  obtain ⟨n, m, v, w, fo, si, st⟩ := T
  simp only [s_L_law_256, s_L_law_257, s_L_law_260, s_L_law_261, s_L_law_264, s_L_law_267, s_L_law_268, nI_add, sc_rd (show i + 1 < LL by omega) hL, sc_rd (show i + 2 < LL by omega) hL, sc_rd (show i + 3 < LL by omega) hL, vl_o hC.1.1]
  refine cl_fault hV hs hC ?_
  have hM1 := hM
  have hC1 := hC
  obtain ⟨fr, ru, lu, e53⟩ := id hM1.1.1
  simp only [Option.toList_some, Option.toList_none, List.cons_append, List.nil_append, Option.toList, s_L_law_256, s_L_law_257, s_L_law_260, s_L_law_261, s_L_law_264, s_L_law_267, s_L_law_268, nI_add, sc_rd (show i + 1 < LL by omega) hL, sc_rd (show i + 2 < LL by omega) hL, sc_rd (show i + 3 < LL by omega) hL, vm_o e53]
  refine ml_fault hV hs hM1 ?_
  have hM2 := hM1
  have hC2 := hC1
  simp only [Option.toList_some, Option.toList_none, List.cons_append, List.nil_append, Option.toList, s_L_law_256, s_L_law_257, s_L_law_260, s_L_law_261, s_L_law_264, s_L_law_267, s_L_law_268]
  exact ⟨fun _ => hn c _ _ _ _ ⟨hC2, hM2, hV, hs, hI⟩, fun q => absurd (by first | exact trivial | rfl) q⟩
theorem lc_wins (hi : i + 4 ≤ LL) (hL : LL ≤ 2048) (hn : NXT (rRo LL xs) R i) (hI0 : INV c T sg pd im) : rV (rRo LL xs) R 269 [.ref 1000004, .ref 0, .ref 53, .int (nI i)] [] (tab c) := by
  obtain ⟨hC, hM, hV, hs, hI⟩ := hI0
  obtain ⟨n, m, v, w, fo, si, st⟩ := T
  simp only [s_L_law_269, s_L_law_270, s_L_law_271, s_L_law_272, s_L_law_273, s_L_law_274, s_L_law_275, s_L_law_278, s_L_law_279, s_L_law_280, s_L_law_281, s_L_law_282, s_L_law_283, s_L_law_284, s_L_law_287, s_L_law_290, s_L_law_291, nI_add, sc_rd (show i + 1 < LL by omega) hL, sc_rd (show i + 2 < LL by omega) hL, sc_rd (show i + 3 < LL by omega) hL, vl_o hC.1.1]
  refine cl_wins hV hs hC fun c1 f1 hC1 => ?_
  have hM1 := hM.out f1 rfl
  obtain ⟨fr, ru, lu, e53⟩ := id hM1.1.1
  simp only [Option.toList_some, Option.toList_none, List.cons_append, List.nil_append, Option.toList, s_L_law_269, s_L_law_270, s_L_law_271, s_L_law_272, s_L_law_273, s_L_law_274, s_L_law_275, s_L_law_278, s_L_law_279, s_L_law_280, s_L_law_281, s_L_law_282, s_L_law_283, s_L_law_284, s_L_law_287, s_L_law_290, s_L_law_291, nI_add, sc_rd (show i + 1 < LL by omega) hL, sc_rd (show i + 2 < LL by omega) hL, sc_rd (show i + 3 < LL by omega) hL, vm_o e53]
  refine ml_wins hV hs hM1 fun c2 f2 hM2 => ?_
  have hC2 := hC1.out f2
  simp only [Option.toList_some, Option.toList_none, List.cons_append, List.nil_append, Option.toList, s_L_law_269, s_L_law_270, s_L_law_271, s_L_law_272, s_L_law_273, s_L_law_274, s_L_law_275, s_L_law_278, s_L_law_279, s_L_law_280, s_L_law_281, s_L_law_282, s_L_law_283, s_L_law_284, s_L_law_287, s_L_law_290, s_L_law_291]
  exact ⟨fun _ => hn c2 _ _ _ _ ⟨hC2, hM2, hV, hs, hI⟩, fun q => absurd (by first | exact trivial | rfl) q⟩
theorem lc_weight (hi : i + 4 ≤ LL) (hL : LL ≤ 2048) (hn : NXT (rRo LL xs) R i) (hI0 : INV c T sg pd im) : rV (rRo LL xs) R 292 [.ref 1000004, .ref 0, .ref 53, .int (nI i)] [] (tab c) := by
  obtain ⟨hC, hM, hV, hs, hI⟩ := hI0
  obtain ⟨n, m, v, w, fo, si, st⟩ := T
  simp only [s_L_law_292, s_L_law_293, s_L_law_294, s_L_law_295, s_L_law_296, s_L_law_297, s_L_law_298, s_L_law_299, s_L_law_300, s_L_law_301, s_L_law_302, s_L_law_303, s_L_law_306, s_L_law_307, s_L_law_308, s_L_law_309, s_L_law_310, s_L_law_311, s_L_law_312, s_L_law_313, s_L_law_314, s_L_law_315, s_L_law_316, s_L_law_317, s_L_law_320, s_L_law_323, s_L_law_324, nI_add, sc_rd (show i + 1 < LL by omega) hL, sc_rd (show i + 2 < LL by omega) hL, sc_rd (show i + 3 < LL by omega) hL, vl_o hC.1.1]
  refine cl_weight hV hC fun c1 f1 hC1 => ?_
  have hM1 := hM.out f1 rfl
  obtain ⟨fr, ru, lu, e53⟩ := id hM1.1.1
  simp only [Option.toList_some, Option.toList_none, List.cons_append, List.nil_append, Option.toList, s_L_law_292, s_L_law_293, s_L_law_294, s_L_law_295, s_L_law_296, s_L_law_297, s_L_law_298, s_L_law_299, s_L_law_300, s_L_law_301, s_L_law_302, s_L_law_303, s_L_law_306, s_L_law_307, s_L_law_308, s_L_law_309, s_L_law_310, s_L_law_311, s_L_law_312, s_L_law_313, s_L_law_314, s_L_law_315, s_L_law_316, s_L_law_317, s_L_law_320, s_L_law_323, s_L_law_324, nI_add, sc_rd (show i + 1 < LL by omega) hL, sc_rd (show i + 2 < LL by omega) hL, sc_rd (show i + 3 < LL by omega) hL, vm_o e53]
  refine ml_weight hV hM1 fun c2 f2 hM2 => ?_
  have hC2 := hC1.out f2
  simp only [Option.toList_some, Option.toList_none, List.cons_append, List.nil_append, Option.toList, s_L_law_292, s_L_law_293, s_L_law_294, s_L_law_295, s_L_law_296, s_L_law_297, s_L_law_298, s_L_law_299, s_L_law_300, s_L_law_301, s_L_law_302, s_L_law_303, s_L_law_306, s_L_law_307, s_L_law_308, s_L_law_309, s_L_law_310, s_L_law_311, s_L_law_312, s_L_law_313, s_L_law_314, s_L_law_315, s_L_law_316, s_L_law_317, s_L_law_320, s_L_law_323, s_L_law_324]
  exact ⟨fun _ => hn c2 _ _ _ _ ⟨hC2, hM2, (vs_weight hV), hs, hI⟩, fun q => absurd (by first | exact trivial | rfl) q⟩
theorem lc_fool (hi : i + 4 ≤ LL) (hL : LL ≤ 2048) (hn : NXT (rRo LL xs) R i) (hI0 : INV c T sg pd im) : rV (rRo LL xs) R 325 [.ref 1000004, .ref 0, .ref 53, .int (nI i)] [] (tab c) := by
  obtain ⟨hC, hM, hV, hs, hI⟩ := hI0
  obtain ⟨n, m, v, w, fo, si, st⟩ := T
  simp only [s_L_law_325, s_L_law_326, s_L_law_327, s_L_law_328, s_L_law_329, s_L_law_330, s_L_law_331, s_L_law_332, s_L_law_333, s_L_law_334, s_L_law_335, s_L_law_336, s_L_law_339, s_L_law_340, s_L_law_341, s_L_law_342, s_L_law_343, s_L_law_344, s_L_law_345, s_L_law_346, s_L_law_347, s_L_law_348, s_L_law_349, s_L_law_350, s_L_law_353, s_L_law_356, s_L_law_357, nI_add, sc_rd (show i + 1 < LL by omega) hL, sc_rd (show i + 2 < LL by omega) hL, sc_rd (show i + 3 < LL by omega) hL, vl_o hC.1.1]
  refine cl_fool hV hC fun c1 f1 hC1 => ?_
  have hM1 := hM.out f1 rfl
  obtain ⟨fr, ru, lu, e53⟩ := id hM1.1.1
  simp only [Option.toList_some, Option.toList_none, List.cons_append, List.nil_append, Option.toList, s_L_law_325, s_L_law_326, s_L_law_327, s_L_law_328, s_L_law_329, s_L_law_330, s_L_law_331, s_L_law_332, s_L_law_333, s_L_law_334, s_L_law_335, s_L_law_336, s_L_law_339, s_L_law_340, s_L_law_341, s_L_law_342, s_L_law_343, s_L_law_344, s_L_law_345, s_L_law_346, s_L_law_347, s_L_law_348, s_L_law_349, s_L_law_350, s_L_law_353, s_L_law_356, s_L_law_357, nI_add, sc_rd (show i + 1 < LL by omega) hL, sc_rd (show i + 2 < LL by omega) hL, sc_rd (show i + 3 < LL by omega) hL, vm_o e53]
  refine ml_fool hV hM1 fun c2 f2 hM2 => ?_
  have hC2 := hC1.out f2
  simp only [Option.toList_some, Option.toList_none, List.cons_append, List.nil_append, Option.toList, s_L_law_325, s_L_law_326, s_L_law_327, s_L_law_328, s_L_law_329, s_L_law_330, s_L_law_331, s_L_law_332, s_L_law_333, s_L_law_334, s_L_law_335, s_L_law_336, s_L_law_339, s_L_law_340, s_L_law_341, s_L_law_342, s_L_law_343, s_L_law_344, s_L_law_345, s_L_law_346, s_L_law_347, s_L_law_348, s_L_law_349, s_L_law_350, s_L_law_353, s_L_law_356, s_L_law_357]
  exact ⟨fun _ => hn c2 _ _ _ _ ⟨hC2, hM2, (vs_fool hV), hs, hI⟩, fun q => absurd (by first | exact trivial | rfl) q⟩
theorem lc_worth (hi : i + 4 ≤ LL) (hL : LL ≤ 2048) (hn : NXT (rRo LL xs) R i) (hI0 : INV c T sg pd im) : rV (rRo LL xs) R 358 [.ref 1000004, .ref 0, .ref 53, .int (nI i)] [] (tab c) := by
  obtain ⟨hC, hM, hV, hs, hI⟩ := hI0
  obtain ⟨n, m, v, w, fo, si, st⟩ := T
  simp only [s_L_law_358, s_L_law_359, s_L_law_360, s_L_law_361, s_L_law_362, s_L_law_363, s_L_law_364, s_L_law_365, s_L_law_366, s_L_law_367, s_L_law_368, s_L_law_369, s_L_law_370, s_L_law_371, s_L_law_372, s_L_law_373, s_L_law_374, s_L_law_377, s_L_law_378, s_L_law_379, s_L_law_380, s_L_law_381, s_L_law_382, s_L_law_383, s_L_law_384, s_L_law_385, s_L_law_386, s_L_law_387, s_L_law_388, s_L_law_389, s_L_law_390, s_L_law_391, s_L_law_392, s_L_law_393, s_L_law_396, s_L_law_397, s_L_law_400, s_L_law_401, nI_add, sc_rd (show i + 1 < LL by omega) hL, sc_rd (show i + 2 < LL by omega) hL, sc_rd (show i + 3 < LL by omega) hL, vl_o hC.1.1]
  refine cl_worth hV hC fun c1 f1 hC1 => ?_
  have hM1 := hM.out f1 rfl
  obtain ⟨fr, ru, lu, e53⟩ := id hM1.1.1
  simp only [Option.toList_some, Option.toList_none, List.cons_append, List.nil_append, Option.toList, s_L_law_358, s_L_law_359, s_L_law_360, s_L_law_361, s_L_law_362, s_L_law_363, s_L_law_364, s_L_law_365, s_L_law_366, s_L_law_367, s_L_law_368, s_L_law_369, s_L_law_370, s_L_law_371, s_L_law_372, s_L_law_373, s_L_law_374, s_L_law_377, s_L_law_378, s_L_law_379, s_L_law_380, s_L_law_381, s_L_law_382, s_L_law_383, s_L_law_384, s_L_law_385, s_L_law_386, s_L_law_387, s_L_law_388, s_L_law_389, s_L_law_390, s_L_law_391, s_L_law_392, s_L_law_393, s_L_law_396, s_L_law_397, s_L_law_400, s_L_law_401, nI_add, sc_rd (show i + 1 < LL by omega) hL, sc_rd (show i + 2 < LL by omega) hL, sc_rd (show i + 3 < LL by omega) hL, vm_o e53]
  refine ml_worth hV hM1 fun c2 f2 hM2 => ?_
  have hC2 := hC1.out f2
  simp only [Option.toList_some, Option.toList_none, List.cons_append, List.nil_append, Option.toList, s_L_law_358, s_L_law_359, s_L_law_360, s_L_law_361, s_L_law_362, s_L_law_363, s_L_law_364, s_L_law_365, s_L_law_366, s_L_law_367, s_L_law_368, s_L_law_369, s_L_law_370, s_L_law_371, s_L_law_372, s_L_law_373, s_L_law_374, s_L_law_377, s_L_law_378, s_L_law_379, s_L_law_380, s_L_law_381, s_L_law_382, s_L_law_383, s_L_law_384, s_L_law_385, s_L_law_386, s_L_law_387, s_L_law_388, s_L_law_389, s_L_law_390, s_L_law_391, s_L_law_392, s_L_law_393, s_L_law_396, s_L_law_397, s_L_law_400, s_L_law_401, lg_self]
  exact ⟨fun _ => hn c2 _ _ _ _ ⟨hC2, hM2, hV, hs, hI⟩, fun q => absurd (by first | exact trivial | rfl) q⟩
theorem lc_best (hi : i + 4 ≤ LL) (hL : LL ≤ 2048) (hn : NXT (rRo LL xs) R i) (hI0 : INV c T sg pd im) : rV (rRo LL xs) R 402 [.ref 1000004, .ref 0, .ref 53, .int (nI i)] [] (tab c) := by
  obtain ⟨hC, hM, hV, hs, hI⟩ := hI0
  obtain ⟨n, m, v, w, fo, si, st⟩ := T
  simp only [s_L_law_402, s_L_law_403, s_L_law_404, s_L_law_405, s_L_law_406, s_L_law_407, s_L_law_408, s_L_law_411, s_L_law_412, s_L_law_413, s_L_law_414, s_L_law_415, s_L_law_416, s_L_law_417, s_L_law_420, s_L_law_423, s_L_law_424, nI_add, sc_rd (show i + 1 < LL by omega) hL, sc_rd (show i + 2 < LL by omega) hL, sc_rd (show i + 3 < LL by omega) hL, vl_o hC.1.1]
  refine cl_best hV hC fun c1 f1 hC1 => ?_
  have hM1 := hM.out f1 rfl
  obtain ⟨fr, ru, lu, e53⟩ := id hM1.1.1
  simp only [Option.toList_some, Option.toList_none, List.cons_append, List.nil_append, Option.toList, s_L_law_402, s_L_law_403, s_L_law_404, s_L_law_405, s_L_law_406, s_L_law_407, s_L_law_408, s_L_law_411, s_L_law_412, s_L_law_413, s_L_law_414, s_L_law_415, s_L_law_416, s_L_law_417, s_L_law_420, s_L_law_423, s_L_law_424, nI_add, sc_rd (show i + 1 < LL by omega) hL, sc_rd (show i + 2 < LL by omega) hL, sc_rd (show i + 3 < LL by omega) hL, vm_o e53]
  refine ml_best hV hM1 fun c2 f2 hM2 => ?_
  have hC2 := hC1.out f2
  simp only [Option.toList_some, Option.toList_none, List.cons_append, List.nil_append, Option.toList, s_L_law_402, s_L_law_403, s_L_law_404, s_L_law_405, s_L_law_406, s_L_law_407, s_L_law_408, s_L_law_411, s_L_law_412, s_L_law_413, s_L_law_414, s_L_law_415, s_L_law_416, s_L_law_417, s_L_law_420, s_L_law_423, s_L_law_424]
  exact ⟨fun _ => hn c2 _ _ _ _ ⟨hC2, hM2, hV, hs, hI⟩, fun q => absurd (by first | exact trivial | rfl) q⟩
theorem lc_mean (hi : i + 4 ≤ LL) (hL : LL ≤ 2048) (hn : NXT (rRo LL xs) R i) (hI0 : INV c T sg pd im) : rV (rRo LL xs) R 425 [.ref 1000004, .ref 0, .ref 53, .int (nI i)] [] (tab c) := by
  obtain ⟨hC, hM, hV, hs, hI⟩ := hI0
  obtain ⟨n, m, v, w, fo, si, st⟩ := T
  simp only [s_L_law_425, s_L_law_426, s_L_law_427, s_L_law_428, s_L_law_429, s_L_law_430, s_L_law_431, s_L_law_432, s_L_law_433, s_L_law_434, s_L_law_435, s_L_law_436, s_L_law_437, s_L_law_438, s_L_law_439, s_L_law_440, s_L_law_441, s_L_law_444, s_L_law_445, s_L_law_446, s_L_law_447, s_L_law_448, s_L_law_449, s_L_law_450, s_L_law_451, s_L_law_452, s_L_law_453, s_L_law_454, s_L_law_455, s_L_law_456, s_L_law_457, s_L_law_458, s_L_law_459, s_L_law_460, s_L_law_463, s_L_law_464, s_L_law_467, s_L_law_468, nI_add, sc_rd (show i + 1 < LL by omega) hL, sc_rd (show i + 2 < LL by omega) hL, sc_rd (show i + 3 < LL by omega) hL, vl_o hC.1.1]
  refine cl_mean hV hC fun c1 f1 hC1 => ?_
  have hM1 := hM.out f1 rfl
  obtain ⟨fr, ru, lu, e53⟩ := id hM1.1.1
  simp only [Option.toList_some, Option.toList_none, List.cons_append, List.nil_append, Option.toList, s_L_law_425, s_L_law_426, s_L_law_427, s_L_law_428, s_L_law_429, s_L_law_430, s_L_law_431, s_L_law_432, s_L_law_433, s_L_law_434, s_L_law_435, s_L_law_436, s_L_law_437, s_L_law_438, s_L_law_439, s_L_law_440, s_L_law_441, s_L_law_444, s_L_law_445, s_L_law_446, s_L_law_447, s_L_law_448, s_L_law_449, s_L_law_450, s_L_law_451, s_L_law_452, s_L_law_453, s_L_law_454, s_L_law_455, s_L_law_456, s_L_law_457, s_L_law_458, s_L_law_459, s_L_law_460, s_L_law_463, s_L_law_464, s_L_law_467, s_L_law_468, nI_add, sc_rd (show i + 1 < LL by omega) hL, sc_rd (show i + 2 < LL by omega) hL, sc_rd (show i + 3 < LL by omega) hL, vm_o e53]
  refine ml_mean hV hM1 fun c2 f2 hM2 => ?_
  have hC2 := hC1.out f2
  simp only [Option.toList_some, Option.toList_none, List.cons_append, List.nil_append, Option.toList, s_L_law_425, s_L_law_426, s_L_law_427, s_L_law_428, s_L_law_429, s_L_law_430, s_L_law_431, s_L_law_432, s_L_law_433, s_L_law_434, s_L_law_435, s_L_law_436, s_L_law_437, s_L_law_438, s_L_law_439, s_L_law_440, s_L_law_441, s_L_law_444, s_L_law_445, s_L_law_446, s_L_law_447, s_L_law_448, s_L_law_449, s_L_law_450, s_L_law_451, s_L_law_452, s_L_law_453, s_L_law_454, s_L_law_455, s_L_law_456, s_L_law_457, s_L_law_458, s_L_law_459, s_L_law_460, s_L_law_463, s_L_law_464, s_L_law_467, s_L_law_468, lg_self]
  exact ⟨fun _ => hn c2 _ _ _ _ ⟨hC2, hM2, hV, hs, hI⟩, fun q => absurd (by first | exact trivial | rfl) q⟩
theorem lc_nobody (hi : i + 4 ≤ LL) (hL : LL ≤ 2048) (hn : NXT (rRo LL xs) R i) (hI0 : INV c T sg pd im) : rV (rRo LL xs) R 469 [.ref 1000004, .ref 0, .ref 53, .int (nI i)] [] (tab c) := by
  obtain ⟨hC, hM, hV, hs, hI⟩ := hI0
  obtain ⟨n, m, v, w, fo, si, st⟩ := T
  simp only [s_L_law_469, s_L_law_470, s_L_law_471, s_L_law_472, s_L_law_473, s_L_law_474, s_L_law_475, s_L_law_478, s_L_law_479, s_L_law_480, s_L_law_481, s_L_law_482, s_L_law_483, s_L_law_484, s_L_law_487, s_L_law_488, s_L_law_491, s_L_law_492, nI_add, sc_rd (show i + 1 < LL by omega) hL, sc_rd (show i + 2 < LL by omega) hL, sc_rd (show i + 3 < LL by omega) hL, vl_o hC.1.1]
  refine cl_nobody hV hC fun c1 f1 hC1 => ?_
  have hM1 := hM.out f1 rfl
  obtain ⟨fr, ru, lu, e53⟩ := id hM1.1.1
  simp only [Option.toList_some, Option.toList_none, List.cons_append, List.nil_append, Option.toList, s_L_law_469, s_L_law_470, s_L_law_471, s_L_law_472, s_L_law_473, s_L_law_474, s_L_law_475, s_L_law_478, s_L_law_479, s_L_law_480, s_L_law_481, s_L_law_482, s_L_law_483, s_L_law_484, s_L_law_487, s_L_law_488, s_L_law_491, s_L_law_492, nI_add, sc_rd (show i + 1 < LL by omega) hL, sc_rd (show i + 2 < LL by omega) hL, sc_rd (show i + 3 < LL by omega) hL, vm_o e53]
  refine ml_nobody hV hM1 fun c2 f2 hM2 => ?_
  have hC2 := hC1.out f2
  simp only [Option.toList_some, Option.toList_none, List.cons_append, List.nil_append, Option.toList, s_L_law_469, s_L_law_470, s_L_law_471, s_L_law_472, s_L_law_473, s_L_law_474, s_L_law_475, s_L_law_478, s_L_law_479, s_L_law_480, s_L_law_481, s_L_law_482, s_L_law_483, s_L_law_484, s_L_law_487, s_L_law_488, s_L_law_491, s_L_law_492, lg_self]
  exact ⟨fun _ => hn c2 _ _ _ _ ⟨hC2, hM2, hV, hs, hI⟩, fun q => absurd (by first | exact trivial | rfl) q⟩
theorem lc_rest (hi : i + 4 ≤ LL) (hL : LL ≤ 2048) (hn : NXT (rRo LL xs) R i) (hI0 : INV c T sg pd im) : rV (rRo LL xs) R 493 [.ref 1000004, .ref 0, .ref 53, .int (nI i)] [] (tab c) := by
  obtain ⟨hC, hM, hV, hs, hI⟩ := hI0
  obtain ⟨n, m, v, w, fo, si, st⟩ := T
  simp only [s_L_law_493, s_L_law_494, s_L_law_495, s_L_law_496, s_L_law_497, s_L_law_498, s_L_law_499, s_L_law_500, s_L_law_501, s_L_law_502, s_L_law_503, s_L_law_504, s_L_law_507, s_L_law_508, s_L_law_509, s_L_law_510, s_L_law_511, s_L_law_512, s_L_law_513, s_L_law_514, s_L_law_515, s_L_law_516, s_L_law_517, s_L_law_518, s_L_law_521, s_L_law_524, s_L_law_525, nI_add, sc_rd (show i + 1 < LL by omega) hL, sc_rd (show i + 2 < LL by omega) hL, sc_rd (show i + 3 < LL by omega) hL, vl_o hC.1.1]
  refine cl_rest hV hC fun c1 f1 hC1 => ?_
  have hM1 := hM.out f1 rfl
  obtain ⟨fr, ru, lu, e53⟩ := id hM1.1.1
  simp only [Option.toList_some, Option.toList_none, List.cons_append, List.nil_append, Option.toList, s_L_law_493, s_L_law_494, s_L_law_495, s_L_law_496, s_L_law_497, s_L_law_498, s_L_law_499, s_L_law_500, s_L_law_501, s_L_law_502, s_L_law_503, s_L_law_504, s_L_law_507, s_L_law_508, s_L_law_509, s_L_law_510, s_L_law_511, s_L_law_512, s_L_law_513, s_L_law_514, s_L_law_515, s_L_law_516, s_L_law_517, s_L_law_518, s_L_law_521, s_L_law_524, s_L_law_525, nI_add, sc_rd (show i + 1 < LL by omega) hL, sc_rd (show i + 2 < LL by omega) hL, sc_rd (show i + 3 < LL by omega) hL, vm_o e53]
  refine ml_rest hV hM1 fun c2 f2 hM2 => ?_
  have hC2 := hC1.out f2
  simp only [Option.toList_some, Option.toList_none, List.cons_append, List.nil_append, Option.toList, s_L_law_493, s_L_law_494, s_L_law_495, s_L_law_496, s_L_law_497, s_L_law_498, s_L_law_499, s_L_law_500, s_L_law_501, s_L_law_502, s_L_law_503, s_L_law_504, s_L_law_507, s_L_law_508, s_L_law_509, s_L_law_510, s_L_law_511, s_L_law_512, s_L_law_513, s_L_law_514, s_L_law_515, s_L_law_516, s_L_law_517, s_L_law_518, s_L_law_521, s_L_law_524, s_L_law_525]
  exact ⟨fun _ => hn c2 _ _ _ _ ⟨hC2, hM2, hV, hs, hI⟩, fun q => absurd (by first | exact trivial | rfl) q⟩
theorem lc_gap (hi : i + 4 ≤ LL) (hL : LL ≤ 2048) (hn : NXT (rRo LL xs) R i) (hI0 : INV c T sg pd im) : rV (rRo LL xs) R 526 [.ref 1000004, .ref 0, .ref 53, .int (nI i)] [] (tab c) := by
  obtain ⟨hC, hM, hV, hs, hI⟩ := hI0
  obtain ⟨n, m, v, w, fo, si, st⟩ := T
  simp only [s_L_law_526, s_L_law_527, s_L_law_528, s_L_law_529, s_L_law_530, s_L_law_531, s_L_law_532, s_L_law_533, s_L_law_534, s_L_law_535, s_L_law_536, s_L_law_537, s_L_law_540, s_L_law_541, s_L_law_542, s_L_law_543, s_L_law_544, s_L_law_545, s_L_law_546, s_L_law_547, s_L_law_548, s_L_law_549, s_L_law_550, s_L_law_551, s_L_law_554, s_L_law_555, s_L_law_558, s_L_law_559, nI_add, sc_rd (show i + 1 < LL by omega) hL, sc_rd (show i + 2 < LL by omega) hL, sc_rd (show i + 3 < LL by omega) hL, vl_o hC.1.1]
  refine cl_gap hV hC fun c1 f1 hC1 => ?_
  have hM1 := hM.out f1 rfl
  obtain ⟨fr, ru, lu, e53⟩ := id hM1.1.1
  simp only [Option.toList_some, Option.toList_none, List.cons_append, List.nil_append, Option.toList, s_L_law_526, s_L_law_527, s_L_law_528, s_L_law_529, s_L_law_530, s_L_law_531, s_L_law_532, s_L_law_533, s_L_law_534, s_L_law_535, s_L_law_536, s_L_law_537, s_L_law_540, s_L_law_541, s_L_law_542, s_L_law_543, s_L_law_544, s_L_law_545, s_L_law_546, s_L_law_547, s_L_law_548, s_L_law_549, s_L_law_550, s_L_law_551, s_L_law_554, s_L_law_555, s_L_law_558, s_L_law_559, nI_add, sc_rd (show i + 1 < LL by omega) hL, sc_rd (show i + 2 < LL by omega) hL, sc_rd (show i + 3 < LL by omega) hL, vm_o e53]
  refine ml_gap hV hM1 fun c2 f2 hM2 => ?_
  have hC2 := hC1.out f2
  simp only [Option.toList_some, Option.toList_none, List.cons_append, List.nil_append, Option.toList, s_L_law_526, s_L_law_527, s_L_law_528, s_L_law_529, s_L_law_530, s_L_law_531, s_L_law_532, s_L_law_533, s_L_law_534, s_L_law_535, s_L_law_536, s_L_law_537, s_L_law_540, s_L_law_541, s_L_law_542, s_L_law_543, s_L_law_544, s_L_law_545, s_L_law_546, s_L_law_547, s_L_law_548, s_L_law_549, s_L_law_550, s_L_law_551, s_L_law_554, s_L_law_555, s_L_law_558, s_L_law_559, lg_self]
  exact ⟨fun _ => hn c2 _ _ _ _ ⟨hC2, hM2, hV, hs, hI⟩, fun q => absurd (by first | exact trivial | rfl) q⟩
theorem lc_friends (hi : i + 4 ≤ LL) (hL : LL ≤ 2048) (hn : NXT (rRo LL xs) R i) (hI0 : INV c T sg pd im) : rV (rRo LL xs) R 560 [.ref 1000004, .ref 0, .ref 53, .int (nI i)] [] (tab c) := by
  obtain ⟨hC, hM, hV, hs, hI⟩ := hI0
  obtain ⟨n, m, v, w, fo, si, st⟩ := T
  simp only [s_L_law_560, s_L_law_561, s_L_law_562, s_L_law_563, s_L_law_564, s_L_law_565, s_L_law_566, s_L_law_567, s_L_law_568, s_L_law_569, s_L_law_570, s_L_law_571, s_L_law_574, s_L_law_575, s_L_law_576, s_L_law_577, s_L_law_578, s_L_law_579, s_L_law_580, s_L_law_581, s_L_law_582, s_L_law_583, s_L_law_584, s_L_law_585, s_L_law_588, s_L_law_591, s_L_law_592, nI_add, sc_rd (show i + 1 < LL by omega) hL, sc_rd (show i + 2 < LL by omega) hL, sc_rd (show i + 3 < LL by omega) hL, vl_o hC.1.1]
  refine cl_friends hV hC fun c1 f1 hC1 => ?_
  have hM1 := hM.out f1 rfl
  obtain ⟨fr, ru, lu, e53⟩ := id hM1.1.1
  simp only [Option.toList_some, Option.toList_none, List.cons_append, List.nil_append, Option.toList, s_L_law_560, s_L_law_561, s_L_law_562, s_L_law_563, s_L_law_564, s_L_law_565, s_L_law_566, s_L_law_567, s_L_law_568, s_L_law_569, s_L_law_570, s_L_law_571, s_L_law_574, s_L_law_575, s_L_law_576, s_L_law_577, s_L_law_578, s_L_law_579, s_L_law_580, s_L_law_581, s_L_law_582, s_L_law_583, s_L_law_584, s_L_law_585, s_L_law_588, s_L_law_591, s_L_law_592, nI_add, sc_rd (show i + 1 < LL by omega) hL, sc_rd (show i + 2 < LL by omega) hL, sc_rd (show i + 3 < LL by omega) hL, vm_o e53]
  refine ml_friends hV hM1 fun c2 f2 hM2 => ?_
  have hC2 := hC1.out f2
  simp only [Option.toList_some, Option.toList_none, List.cons_append, List.nil_append, Option.toList, s_L_law_560, s_L_law_561, s_L_law_562, s_L_law_563, s_L_law_564, s_L_law_565, s_L_law_566, s_L_law_567, s_L_law_568, s_L_law_569, s_L_law_570, s_L_law_571, s_L_law_574, s_L_law_575, s_L_law_576, s_L_law_577, s_L_law_578, s_L_law_579, s_L_law_580, s_L_law_581, s_L_law_582, s_L_law_583, s_L_law_584, s_L_law_585, s_L_law_588, s_L_law_591, s_L_law_592]
  exact ⟨fun _ => hn c2 _ _ _ _ ⟨hC2, hM2, hV, hs, hI⟩, fun q => absurd (by first | exact trivial | rfl) q⟩
theorem lc_league (hi : i + 4 ≤ LL) (hL : LL ≤ 2048) (hn : NXT (rRo LL xs) R i) (hI0 : INV c T sg pd im) : rV (rRo LL xs) R 593 [.ref 1000004, .ref 0, .ref 53, .int (nI i)] [] (tab c) := by
  obtain ⟨hC, hM, hV, hs, hI⟩ := hI0
  obtain ⟨n, m, v, w, fo, si, st⟩ := T
  simp only [s_L_law_593, s_L_law_594, s_L_law_595, s_L_law_596, s_L_law_597, s_L_law_598, s_L_law_599, s_L_law_600, s_L_law_601, s_L_law_602, s_L_law_603, s_L_law_604, s_L_law_607, s_L_law_608, s_L_law_609, s_L_law_610, s_L_law_611, s_L_law_612, s_L_law_613, s_L_law_614, s_L_law_615, s_L_law_616, s_L_law_617, s_L_law_618, s_L_law_621, s_L_law_622, s_L_law_625, s_L_law_626, nI_add, sc_rd (show i + 1 < LL by omega) hL, sc_rd (show i + 2 < LL by omega) hL, sc_rd (show i + 3 < LL by omega) hL, vl_o hC.1.1]
  refine cl_league hV hC fun c1 f1 hC1 => ?_
  have hM1 := hM.out f1 rfl
  obtain ⟨fr, ru, lu, e53⟩ := id hM1.1.1
  simp only [Option.toList_some, Option.toList_none, List.cons_append, List.nil_append, Option.toList, s_L_law_593, s_L_law_594, s_L_law_595, s_L_law_596, s_L_law_597, s_L_law_598, s_L_law_599, s_L_law_600, s_L_law_601, s_L_law_602, s_L_law_603, s_L_law_604, s_L_law_607, s_L_law_608, s_L_law_609, s_L_law_610, s_L_law_611, s_L_law_612, s_L_law_613, s_L_law_614, s_L_law_615, s_L_law_616, s_L_law_617, s_L_law_618, s_L_law_621, s_L_law_622, s_L_law_625, s_L_law_626, nI_add, sc_rd (show i + 1 < LL by omega) hL, sc_rd (show i + 2 < LL by omega) hL, sc_rd (show i + 3 < LL by omega) hL, vm_o e53]
  refine ml_league hV hM1 fun c2 f2 hM2 => ?_
  have hC2 := hC1.out f2
  simp only [Option.toList_some, Option.toList_none, List.cons_append, List.nil_append, Option.toList, s_L_law_593, s_L_law_594, s_L_law_595, s_L_law_596, s_L_law_597, s_L_law_598, s_L_law_599, s_L_law_600, s_L_law_601, s_L_law_602, s_L_law_603, s_L_law_604, s_L_law_607, s_L_law_608, s_L_law_609, s_L_law_610, s_L_law_611, s_L_law_612, s_L_law_613, s_L_law_614, s_L_law_615, s_L_law_616, s_L_law_617, s_L_law_618, s_L_law_621, s_L_law_622, s_L_law_625, s_L_law_626, lg_self]
  exact ⟨fun _ => hn c2 _ _ _ _ ⟨hC2, hM2, hV, hs, hI⟩, fun q => absurd (by first | exact trivial | rfl) q⟩
theorem lc_spy (hi : i + 4 ≤ LL) (hL : LL ≤ 2048) (hn : NXT (rRo LL xs) R i) (hI0 : INV c T sg pd im) : rV (rRo LL xs) R 627 [.ref 1000004, .ref 0, .ref 53, .int (nI i)] [] (tab c) := by
  obtain ⟨hC, hM, hV, hs, hI⟩ := hI0
  obtain ⟨n, m, v, w, fo, si, st⟩ := T
  simp only [s_L_law_627, s_L_law_628, s_L_law_629, s_L_law_630, s_L_law_631, s_L_law_632, s_L_law_633, s_L_law_636, s_L_law_637, s_L_law_638, s_L_law_639, s_L_law_640, s_L_law_641, s_L_law_642, s_L_law_645, s_L_law_648, s_L_law_649, nI_add, sc_rd (show i + 1 < LL by omega) hL, sc_rd (show i + 2 < LL by omega) hL, sc_rd (show i + 3 < LL by omega) hL, vl_o hC.1.1]
  refine cl_spy hV hs hC fun c1 f1 hC1 => ?_
  have hM1 := hM.out f1 rfl
  obtain ⟨fr, ru, lu, e53⟩ := id hM1.1.1
  simp only [Option.toList_some, Option.toList_none, List.cons_append, List.nil_append, Option.toList, s_L_law_627, s_L_law_628, s_L_law_629, s_L_law_630, s_L_law_631, s_L_law_632, s_L_law_633, s_L_law_636, s_L_law_637, s_L_law_638, s_L_law_639, s_L_law_640, s_L_law_641, s_L_law_642, s_L_law_645, s_L_law_648, s_L_law_649, nI_add, sc_rd (show i + 1 < LL by omega) hL, sc_rd (show i + 2 < LL by omega) hL, sc_rd (show i + 3 < LL by omega) hL, vm_o e53]
  refine ml_spy hV hs hM1 fun c2 f2 hM2 => ?_
  have hC2 := hC1.out f2
  simp only [Option.toList_some, Option.toList_none, List.cons_append, List.nil_append, Option.toList, s_L_law_627, s_L_law_628, s_L_law_629, s_L_law_630, s_L_law_631, s_L_law_632, s_L_law_633, s_L_law_636, s_L_law_637, s_L_law_638, s_L_law_639, s_L_law_640, s_L_law_641, s_L_law_642, s_L_law_645, s_L_law_648, s_L_law_649]
  exact ⟨fun _ => hn c2 _ _ _ _ ⟨hC2, hM2, hV, hs, hI⟩, fun q => absurd (by first | exact trivial | rfl) q⟩
theorem lc_spied (hi : i + 4 ≤ LL) (hL : LL ≤ 2048) (hn : NXT (rRo LL xs) R i) (hI0 : INV c T sg pd im) : rV (rRo LL xs) R 650 [.ref 1000004, .ref 0, .ref 53, .int (nI i)] [] (tab c) := by
  obtain ⟨hC, hM, hV, hs, hI⟩ := hI0
  obtain ⟨n, m, v, w, fo, si, st⟩ := T
  simp only [s_L_law_650, s_L_law_651, s_L_law_652, s_L_law_653, s_L_law_654, s_L_law_655, s_L_law_656, s_L_law_657, s_L_law_658, s_L_law_659, s_L_law_660, s_L_law_661, s_L_law_664, s_L_law_665, s_L_law_666, s_L_law_667, s_L_law_668, s_L_law_669, s_L_law_670, s_L_law_671, s_L_law_672, s_L_law_673, s_L_law_674, s_L_law_675, s_L_law_678, s_L_law_679, s_L_law_682, s_L_law_683, nI_add, sc_rd (show i + 1 < LL by omega) hL, sc_rd (show i + 2 < LL by omega) hL, sc_rd (show i + 3 < LL by omega) hL, vl_o hC.1.1]
  refine cl_spied hV hs hC fun c1 f1 hC1 => ?_
  have hM1 := hM.out f1 rfl
  obtain ⟨fr, ru, lu, e53⟩ := id hM1.1.1
  simp only [Option.toList_some, Option.toList_none, List.cons_append, List.nil_append, Option.toList, s_L_law_650, s_L_law_651, s_L_law_652, s_L_law_653, s_L_law_654, s_L_law_655, s_L_law_656, s_L_law_657, s_L_law_658, s_L_law_659, s_L_law_660, s_L_law_661, s_L_law_664, s_L_law_665, s_L_law_666, s_L_law_667, s_L_law_668, s_L_law_669, s_L_law_670, s_L_law_671, s_L_law_672, s_L_law_673, s_L_law_674, s_L_law_675, s_L_law_678, s_L_law_679, s_L_law_682, s_L_law_683, nI_add, sc_rd (show i + 1 < LL by omega) hL, sc_rd (show i + 2 < LL by omega) hL, sc_rd (show i + 3 < LL by omega) hL, vm_o e53]
  refine ml_spied hV hs hM1 fun c2 f2 hM2 => ?_
  have hC2 := hC1.out f2
  simp only [Option.toList_some, Option.toList_none, List.cons_append, List.nil_append, Option.toList, s_L_law_650, s_L_law_651, s_L_law_652, s_L_law_653, s_L_law_654, s_L_law_655, s_L_law_656, s_L_law_657, s_L_law_658, s_L_law_659, s_L_law_660, s_L_law_661, s_L_law_664, s_L_law_665, s_L_law_666, s_L_law_667, s_L_law_668, s_L_law_669, s_L_law_670, s_L_law_671, s_L_law_672, s_L_law_673, s_L_law_674, s_L_law_675, s_L_law_678, s_L_law_679, s_L_law_682, s_L_law_683, lg_self]
  exact ⟨fun _ => hn c2 _ _ _ _ ⟨hC2, hM2, hV, hs, hI⟩, fun q => absurd (by first | exact trivial | rfl) q⟩
theorem lc_steps (hi : i + 4 ≤ LL) (hL : LL ≤ 2048) (hn : NXT (rRo LL xs) R i) (hI0 : INV c T sg pd im) : rV (rRo LL xs) R 684 [.ref 1000004, .ref 0, .ref 53, .int (nI i)] [] (tab c) := by
  obtain ⟨hC, hM, hV, hs, hI⟩ := hI0
  obtain ⟨n, m, v, w, fo, si, st⟩ := T
  simp only [s_L_law_684, s_L_law_685, s_L_law_686, s_L_law_687, s_L_law_688, s_L_law_689, s_L_law_690, s_L_law_693, s_L_law_694, s_L_law_695, s_L_law_696, s_L_law_697, s_L_law_698, s_L_law_699, s_L_law_702, s_L_law_705, s_L_law_706, nI_add, sc_rd (show i + 1 < LL by omega) hL, sc_rd (show i + 2 < LL by omega) hL, sc_rd (show i + 3 < LL by omega) hL, vl_o hC.1.1]
  refine cl_steps hV hC fun c1 f1 hC1 => ?_
  have hM1 := hM.out f1 rfl
  obtain ⟨fr, ru, lu, e53⟩ := id hM1.1.1
  simp only [Option.toList_some, Option.toList_none, List.cons_append, List.nil_append, Option.toList, s_L_law_684, s_L_law_685, s_L_law_686, s_L_law_687, s_L_law_688, s_L_law_689, s_L_law_690, s_L_law_693, s_L_law_694, s_L_law_695, s_L_law_696, s_L_law_697, s_L_law_698, s_L_law_699, s_L_law_702, s_L_law_705, s_L_law_706, nI_add, sc_rd (show i + 1 < LL by omega) hL, sc_rd (show i + 2 < LL by omega) hL, sc_rd (show i + 3 < LL by omega) hL, vm_o e53]
  refine ml_steps hV hM1 fun c2 f2 hM2 => ?_
  have hC2 := hC1.out f2
  simp only [Option.toList_some, Option.toList_none, List.cons_append, List.nil_append, Option.toList, s_L_law_684, s_L_law_685, s_L_law_686, s_L_law_687, s_L_law_688, s_L_law_689, s_L_law_690, s_L_law_693, s_L_law_694, s_L_law_695, s_L_law_696, s_L_law_697, s_L_law_698, s_L_law_699, s_L_law_702, s_L_law_705, s_L_law_706]
  exact ⟨fun _ => hn c2 _ _ _ _ ⟨hC2, hM2, hV, hs, hI⟩, fun q => absurd (by first | exact trivial | rfl) q⟩
theorem lc_late (hi : i + 4 ≤ LL) (hL : LL ≤ 2048) (hn : NXT (rRo LL xs) R i) (hI0 : INV c T sg pd im) : rV (rRo LL xs) R 707 [.ref 1000004, .ref 0, .ref 53, .int (nI i)] [] (tab c) := by
  obtain ⟨hC, hM, hV, hs, hI⟩ := hI0
  obtain ⟨n, m, v, w, fo, si, st⟩ := T
  simp only [s_L_law_707, s_L_law_708, s_L_law_709, s_L_law_710, s_L_law_711, s_L_law_712, s_L_law_713, s_L_law_714, s_L_law_715, s_L_law_716, s_L_law_717, s_L_law_718, s_L_law_721, s_L_law_722, s_L_law_723, s_L_law_724, s_L_law_725, s_L_law_726, s_L_law_727, s_L_law_728, s_L_law_729, s_L_law_730, s_L_law_731, s_L_law_732, s_L_law_735, s_L_law_738, s_L_law_739, nI_add, sc_rd (show i + 1 < LL by omega) hL, sc_rd (show i + 2 < LL by omega) hL, sc_rd (show i + 3 < LL by omega) hL, vl_o hC.1.1]
  refine cl_late hV hC fun c1 f1 hC1 => ?_
  have hM1 := hM.out f1 rfl
  obtain ⟨fr, ru, lu, e53⟩ := id hM1.1.1
  simp only [Option.toList_some, Option.toList_none, List.cons_append, List.nil_append, Option.toList, s_L_law_707, s_L_law_708, s_L_law_709, s_L_law_710, s_L_law_711, s_L_law_712, s_L_law_713, s_L_law_714, s_L_law_715, s_L_law_716, s_L_law_717, s_L_law_718, s_L_law_721, s_L_law_722, s_L_law_723, s_L_law_724, s_L_law_725, s_L_law_726, s_L_law_727, s_L_law_728, s_L_law_729, s_L_law_730, s_L_law_731, s_L_law_732, s_L_law_735, s_L_law_738, s_L_law_739, nI_add, sc_rd (show i + 1 < LL by omega) hL, sc_rd (show i + 2 < LL by omega) hL, sc_rd (show i + 3 < LL by omega) hL, vm_o e53]
  refine ml_late hV hM1 fun c2 f2 hM2 => ?_
  have hC2 := hC1.out f2
  simp only [Option.toList_some, Option.toList_none, List.cons_append, List.nil_append, Option.toList, s_L_law_707, s_L_law_708, s_L_law_709, s_L_law_710, s_L_law_711, s_L_law_712, s_L_law_713, s_L_law_714, s_L_law_715, s_L_law_716, s_L_law_717, s_L_law_718, s_L_law_721, s_L_law_722, s_L_law_723, s_L_law_724, s_L_law_725, s_L_law_726, s_L_law_727, s_L_law_728, s_L_law_729, s_L_law_730, s_L_law_731, s_L_law_732, s_L_law_735, s_L_law_738, s_L_law_739]
  exact ⟨fun _ => hn c2 _ _ _ _ ⟨hC2, hM2, hV, hs, hI⟩, fun q => absurd (by first | exact trivial | rfl) q⟩
theorem lc_prize (hi : i + 4 ≤ LL) (hL : LL ≤ 2048) (hn : NXT (rRo LL xs) R i) (hI0 : INV c T sg pd im) : rV (rRo LL xs) R 740 [.ref 1000004, .ref 0, .ref 53, .int (nI i)] [] (tab c) := by
  obtain ⟨hC, hM, hV, hs, hI⟩ := hI0
  obtain ⟨n, m, v, w, fo, si, st⟩ := T
  simp only [s_L_law_740, s_L_law_741, s_L_law_742, s_L_law_743, s_L_law_744, s_L_law_745, s_L_law_746, s_L_law_747, s_L_law_748, s_L_law_749, s_L_law_750, s_L_law_751, s_L_law_752, s_L_law_753, s_L_law_754, s_L_law_755, s_L_law_756, s_L_law_759, s_L_law_760, s_L_law_761, s_L_law_762, s_L_law_763, s_L_law_764, s_L_law_765, s_L_law_766, s_L_law_767, s_L_law_768, s_L_law_769, s_L_law_770, s_L_law_771, s_L_law_772, s_L_law_773, s_L_law_774, s_L_law_775, s_L_law_778, s_L_law_779, s_L_law_782, s_L_law_783, nI_add, sc_rd (show i + 1 < LL by omega) hL, sc_rd (show i + 2 < LL by omega) hL, sc_rd (show i + 3 < LL by omega) hL, vl_o hC.1.1]
  refine cl_prize hV hC fun c1 f1 hC1 => ?_
  have hM1 := hM.out f1 rfl
  obtain ⟨fr, ru, lu, e53⟩ := id hM1.1.1
  simp only [Option.toList_some, Option.toList_none, List.cons_append, List.nil_append, Option.toList, s_L_law_740, s_L_law_741, s_L_law_742, s_L_law_743, s_L_law_744, s_L_law_745, s_L_law_746, s_L_law_747, s_L_law_748, s_L_law_749, s_L_law_750, s_L_law_751, s_L_law_752, s_L_law_753, s_L_law_754, s_L_law_755, s_L_law_756, s_L_law_759, s_L_law_760, s_L_law_761, s_L_law_762, s_L_law_763, s_L_law_764, s_L_law_765, s_L_law_766, s_L_law_767, s_L_law_768, s_L_law_769, s_L_law_770, s_L_law_771, s_L_law_772, s_L_law_773, s_L_law_774, s_L_law_775, s_L_law_778, s_L_law_779, s_L_law_782, s_L_law_783, nI_add, sc_rd (show i + 1 < LL by omega) hL, sc_rd (show i + 2 < LL by omega) hL, sc_rd (show i + 3 < LL by omega) hL, vm_o e53]
  refine ml_prize hV hM1 fun c2 f2 hM2 => ?_
  have hC2 := hC1.out f2
  simp only [Option.toList_some, Option.toList_none, List.cons_append, List.nil_append, Option.toList, s_L_law_740, s_L_law_741, s_L_law_742, s_L_law_743, s_L_law_744, s_L_law_745, s_L_law_746, s_L_law_747, s_L_law_748, s_L_law_749, s_L_law_750, s_L_law_751, s_L_law_752, s_L_law_753, s_L_law_754, s_L_law_755, s_L_law_756, s_L_law_759, s_L_law_760, s_L_law_761, s_L_law_762, s_L_law_763, s_L_law_764, s_L_law_765, s_L_law_766, s_L_law_767, s_L_law_768, s_L_law_769, s_L_law_770, s_L_law_771, s_L_law_772, s_L_law_773, s_L_law_774, s_L_law_775, s_L_law_778, s_L_law_779, s_L_law_782, s_L_law_783, lg_self]
  exact ⟨fun _ => hn c2 _ _ _ _ ⟨hC2, hM2, hV, hs, hI⟩, fun q => absurd (by first | exact trivial | rfl) q⟩
theorem lc_seen (hi : i + 4 ≤ LL) (hL : LL ≤ 2048) (hn : NXT (rRo LL xs) R i) (hI0 : INV c T sg pd im) : rV (rRo LL xs) R 784 [.ref 1000004, .ref 0, .ref 53, .int (nI i)] [] (tab c) := by
  obtain ⟨hC, hM, hV, hs, hI⟩ := hI0
  obtain ⟨n, m, v, w, fo, si, st⟩ := T
  simp only [s_L_law_784, s_L_law_785, s_L_law_786, s_L_law_787, s_L_law_788, s_L_law_789, s_L_law_790, s_L_law_791, s_L_law_792, s_L_law_793, s_L_law_794, s_L_law_795, s_L_law_796, s_L_law_797, s_L_law_798, s_L_law_799, s_L_law_800, s_L_law_803, s_L_law_804, s_L_law_805, s_L_law_806, s_L_law_807, s_L_law_808, s_L_law_809, s_L_law_810, s_L_law_811, s_L_law_812, s_L_law_813, s_L_law_814, s_L_law_815, s_L_law_816, s_L_law_817, s_L_law_818, s_L_law_819, s_L_law_822, s_L_law_825, s_L_law_826, nI_add, sc_rd (show i + 1 < LL by omega) hL, sc_rd (show i + 2 < LL by omega) hL, sc_rd (show i + 3 < LL by omega) hL, vl_o hC.1.1]
  refine cl_seen hV hC fun c1 f1 hC1 => ?_
  have hM1 := hM.out f1 rfl
  obtain ⟨fr, ru, lu, e53⟩ := id hM1.1.1
  simp only [Option.toList_some, Option.toList_none, List.cons_append, List.nil_append, Option.toList, s_L_law_784, s_L_law_785, s_L_law_786, s_L_law_787, s_L_law_788, s_L_law_789, s_L_law_790, s_L_law_791, s_L_law_792, s_L_law_793, s_L_law_794, s_L_law_795, s_L_law_796, s_L_law_797, s_L_law_798, s_L_law_799, s_L_law_800, s_L_law_803, s_L_law_804, s_L_law_805, s_L_law_806, s_L_law_807, s_L_law_808, s_L_law_809, s_L_law_810, s_L_law_811, s_L_law_812, s_L_law_813, s_L_law_814, s_L_law_815, s_L_law_816, s_L_law_817, s_L_law_818, s_L_law_819, s_L_law_822, s_L_law_825, s_L_law_826, nI_add, sc_rd (show i + 1 < LL by omega) hL, sc_rd (show i + 2 < LL by omega) hL, sc_rd (show i + 3 < LL by omega) hL, vm_o e53]
  refine ml_seen hV hM1 fun c2 f2 hM2 => ?_
  have hC2 := hC1.out f2
  simp only [Option.toList_some, Option.toList_none, List.cons_append, List.nil_append, Option.toList, s_L_law_784, s_L_law_785, s_L_law_786, s_L_law_787, s_L_law_788, s_L_law_789, s_L_law_790, s_L_law_791, s_L_law_792, s_L_law_793, s_L_law_794, s_L_law_795, s_L_law_796, s_L_law_797, s_L_law_798, s_L_law_799, s_L_law_800, s_L_law_803, s_L_law_804, s_L_law_805, s_L_law_806, s_L_law_807, s_L_law_808, s_L_law_809, s_L_law_810, s_L_law_811, s_L_law_812, s_L_law_813, s_L_law_814, s_L_law_815, s_L_law_816, s_L_law_817, s_L_law_818, s_L_law_819, s_L_law_822, s_L_law_825, s_L_law_826]
  exact ⟨fun _ => hn c2 _ _ _ _ ⟨hC2, hM2, (vs_seen hV), hs, hI⟩, fun q => absurd (by first | exact trivial | rfl) q⟩
theorem lc_forget (hi : i + 4 ≤ LL) (hL : LL ≤ 2048) (hn : NXT (rRo LL xs) R i) (hI0 : INV c T sg pd im) : rV (rRo LL xs) R 827 [.ref 1000004, .ref 0, .ref 53, .int (nI i)] [] (tab c) := by
  obtain ⟨hC, hM, hV, hs, hI⟩ := hI0
  obtain ⟨n, m, v, w, fo, si, st⟩ := T
  simp only [s_L_law_827, s_L_law_828, s_L_law_831, s_L_law_832, s_L_law_835, s_L_law_838, s_L_law_839, nI_add, sc_rd (show i + 1 < LL by omega) hL, sc_rd (show i + 2 < LL by omega) hL, sc_rd (show i + 3 < LL by omega) hL, vl_o hC.1.1]
  refine cl_forget hC fun c1 f1 hC1 => ?_
  have hM1 := hM.out f1 rfl
  obtain ⟨fr, ru, lu, e53⟩ := id hM1.1.1
  simp only [Option.toList_some, Option.toList_none, List.cons_append, List.nil_append, Option.toList, s_L_law_827, s_L_law_828, s_L_law_831, s_L_law_832, s_L_law_835, s_L_law_838, s_L_law_839, nI_add, sc_rd (show i + 1 < LL by omega) hL, sc_rd (show i + 2 < LL by omega) hL, sc_rd (show i + 3 < LL by omega) hL, vm_o e53]
  refine ml_forget hM1 fun c2 f2 hM2 => ?_
  have hC2 := hC1.out f2
  simp only [Option.toList_some, Option.toList_none, List.cons_append, List.nil_append, Option.toList, s_L_law_827, s_L_law_828, s_L_law_831, s_L_law_832, s_L_law_835, s_L_law_838, s_L_law_839]
  exact ⟨fun _ => hn c2 _ _ _ _ ⟨hC2, hM2, (vs_forget hV), hs, hI⟩, fun q => absurd (by first | exact trivial | rfl) q⟩
theorem lc_fits (hi : i + 4 ≤ LL) (hL : LL ≤ 2048) (hn : NXT (rRo LL xs) R i) (hI0 : INV c T sg pd im) : rV (rRo LL xs) R 840 [.ref 1000004, .ref 0, .ref 53, .int (nI i)] [] (tab c) := by
  obtain ⟨hC, hM, hV, hs, hI⟩ := hI0
  obtain ⟨n, m, v, w, fo, si, st⟩ := T
  simp only [s_L_law_840, s_L_law_841, s_L_law_842, s_L_law_843, s_L_law_844, s_L_law_845, s_L_law_846, s_L_law_849, s_L_law_850, s_L_law_851, s_L_law_852, s_L_law_853, s_L_law_854, s_L_law_855, s_L_law_858, s_L_law_861, s_L_law_862, nI_add, sc_rd (show i + 1 < LL by omega) hL, sc_rd (show i + 2 < LL by omega) hL, sc_rd (show i + 3 < LL by omega) hL, vl_o hC.1.1]
  refine cl_fits hV hC fun c1 f1 hC1 => ?_
  have hM1 := hM.out f1 rfl
  obtain ⟨fr, ru, lu, e53⟩ := id hM1.1.1
  simp only [Option.toList_some, Option.toList_none, List.cons_append, List.nil_append, Option.toList, s_L_law_840, s_L_law_841, s_L_law_842, s_L_law_843, s_L_law_844, s_L_law_845, s_L_law_846, s_L_law_849, s_L_law_850, s_L_law_851, s_L_law_852, s_L_law_853, s_L_law_854, s_L_law_855, s_L_law_858, s_L_law_861, s_L_law_862, nI_add, sc_rd (show i + 1 < LL by omega) hL, sc_rd (show i + 2 < LL by omega) hL, sc_rd (show i + 3 < LL by omega) hL, vm_o e53]
  refine ml_fits hV hM1 fun c2 f2 hM2 => ?_
  have hC2 := hC1.out f2
  simp only [Option.toList_some, Option.toList_none, List.cons_append, List.nil_append, Option.toList, s_L_law_840, s_L_law_841, s_L_law_842, s_L_law_843, s_L_law_844, s_L_law_845, s_L_law_846, s_L_law_849, s_L_law_850, s_L_law_851, s_L_law_852, s_L_law_853, s_L_law_854, s_L_law_855, s_L_law_858, s_L_law_861, s_L_law_862]
  exact ⟨fun _ => hn c2 _ _ _ _ ⟨hC2, hM2, hV, hs, hI⟩, fun q => absurd (by first | exact trivial | rfl) q⟩
theorem lc_could (hi : i + 4 ≤ LL) (hL : LL ≤ 2048) (hn : NXT (rRo LL xs) R i) (hI0 : INV c T sg pd im) : rV (rRo LL xs) R 863 [.ref 1000004, .ref 0, .ref 53, .int (nI i)] [] (tab c) := by
  obtain ⟨hC, hM, hV, hs, hI⟩ := hI0
  obtain ⟨n, m, v, w, fo, si, st⟩ := T
  simp only [s_L_law_863, s_L_law_864, s_L_law_865, s_L_law_866, s_L_law_867, s_L_law_868, s_L_law_869, s_L_law_872, s_L_law_873, s_L_law_874, s_L_law_875, s_L_law_876, s_L_law_877, s_L_law_878, s_L_law_881, s_L_law_884, s_L_law_885, nI_add, sc_rd (show i + 1 < LL by omega) hL, sc_rd (show i + 2 < LL by omega) hL, sc_rd (show i + 3 < LL by omega) hL, vl_o hC.1.1]
  refine cl_could hV hC fun c1 f1 hC1 => ?_
  have hM1 := hM.out f1 rfl
  obtain ⟨fr, ru, lu, e53⟩ := id hM1.1.1
  simp only [Option.toList_some, Option.toList_none, List.cons_append, List.nil_append, Option.toList, s_L_law_863, s_L_law_864, s_L_law_865, s_L_law_866, s_L_law_867, s_L_law_868, s_L_law_869, s_L_law_872, s_L_law_873, s_L_law_874, s_L_law_875, s_L_law_876, s_L_law_877, s_L_law_878, s_L_law_881, s_L_law_884, s_L_law_885, nI_add, sc_rd (show i + 1 < LL by omega) hL, sc_rd (show i + 2 < LL by omega) hL, sc_rd (show i + 3 < LL by omega) hL, vm_o e53]
  refine ml_could hV hM1 fun c2 f2 hM2 => ?_
  have hC2 := hC1.out f2
  simp only [Option.toList_some, Option.toList_none, List.cons_append, List.nil_append, Option.toList, s_L_law_863, s_L_law_864, s_L_law_865, s_L_law_866, s_L_law_867, s_L_law_868, s_L_law_869, s_L_law_872, s_L_law_873, s_L_law_874, s_L_law_875, s_L_law_876, s_L_law_877, s_L_law_878, s_L_law_881, s_L_law_884, s_L_law_885]
  exact ⟨fun _ => hn c2 _ _ _ _ ⟨hC2, hM2, hV, hs, hI⟩, fun q => absurd (by first | exact trivial | rfl) q⟩
theorem lc_year (hi : i + 4 ≤ LL) (hL : LL ≤ 2048) (hn : NXT (rRo LL xs) R i) (hI0 : INV c T sg pd im) : rV (rRo LL xs) R 886 [.ref 1000004, .ref 0, .ref 53, .int (nI i)] [] (tab c) := by
  obtain ⟨hC, hM, hV, hs, hI⟩ := hI0
  obtain ⟨n, m, v, w, fo, si, st⟩ := T
  simp only [s_L_law_886, s_L_law_887, s_L_law_888, s_L_law_889, s_L_law_890, s_L_law_891, s_L_law_892, s_L_law_893, s_L_law_894, s_L_law_895, s_L_law_896, s_L_law_897, s_L_law_898, s_L_law_899, s_L_law_900, s_L_law_901, s_L_law_902, s_L_law_905, s_L_law_906, s_L_law_907, s_L_law_908, s_L_law_909, s_L_law_910, s_L_law_911, s_L_law_912, s_L_law_913, s_L_law_914, s_L_law_915, s_L_law_916, s_L_law_917, s_L_law_918, s_L_law_919, s_L_law_920, s_L_law_921, s_L_law_924, s_L_law_927, s_L_law_928, nI_add, sc_rd (show i + 1 < LL by omega) hL, sc_rd (show i + 2 < LL by omega) hL, sc_rd (show i + 3 < LL by omega) hL, vl_o hC.1.1]
  refine cl_year hV hC fun c1 f1 hC1 => ?_
  have hM1 := hM.out f1 rfl
  obtain ⟨fr, ru, lu, e53⟩ := id hM1.1.1
  simp only [Option.toList_some, Option.toList_none, List.cons_append, List.nil_append, Option.toList, s_L_law_886, s_L_law_887, s_L_law_888, s_L_law_889, s_L_law_890, s_L_law_891, s_L_law_892, s_L_law_893, s_L_law_894, s_L_law_895, s_L_law_896, s_L_law_897, s_L_law_898, s_L_law_899, s_L_law_900, s_L_law_901, s_L_law_902, s_L_law_905, s_L_law_906, s_L_law_907, s_L_law_908, s_L_law_909, s_L_law_910, s_L_law_911, s_L_law_912, s_L_law_913, s_L_law_914, s_L_law_915, s_L_law_916, s_L_law_917, s_L_law_918, s_L_law_919, s_L_law_920, s_L_law_921, s_L_law_924, s_L_law_927, s_L_law_928, nI_add, sc_rd (show i + 1 < LL by omega) hL, sc_rd (show i + 2 < LL by omega) hL, sc_rd (show i + 3 < LL by omega) hL, vm_o e53]
  refine ml_year hV hM1 fun c2 f2 hM2 => ?_
  have hC2 := hC1.out f2
  simp only [Option.toList_some, Option.toList_none, List.cons_append, List.nil_append, Option.toList, s_L_law_886, s_L_law_887, s_L_law_888, s_L_law_889, s_L_law_890, s_L_law_891, s_L_law_892, s_L_law_893, s_L_law_894, s_L_law_895, s_L_law_896, s_L_law_897, s_L_law_898, s_L_law_899, s_L_law_900, s_L_law_901, s_L_law_902, s_L_law_905, s_L_law_906, s_L_law_907, s_L_law_908, s_L_law_909, s_L_law_910, s_L_law_911, s_L_law_912, s_L_law_913, s_L_law_914, s_L_law_915, s_L_law_916, s_L_law_917, s_L_law_918, s_L_law_919, s_L_law_920, s_L_law_921, s_L_law_924, s_L_law_927, s_L_law_928]
  exact ⟨fun _ => hn c2 _ _ _ _ ⟨hC2, hM2, hV, hs, hI⟩, fun q => absurd (by first | exact trivial | rfl) q⟩
theorem lc_image (hi : i + 4 ≤ LL) (hL : LL ≤ 2048) (hn : NXT (rRo LL xs) R i) (hI0 : INV c T sg pd im) : rV (rRo LL xs) R 929 [.ref 1000004, .ref 0, .ref 53, .int (nI i)] [] (tab c) := by
  obtain ⟨hC, hM, hV, hs, hI⟩ := hI0
  obtain ⟨n, m, v, w, fo, si, st⟩ := T
  simp only [s_L_law_929, s_L_law_930, s_L_law_931, s_L_law_932, s_L_law_933, s_L_law_934, s_L_law_935, s_L_law_938, s_L_law_939, s_L_law_940, s_L_law_941, s_L_law_942, s_L_law_943, s_L_law_944, s_L_law_947, s_L_law_950, s_L_law_951, nI_add, sc_rd (show i + 1 < LL by omega) hL, sc_rd (show i + 2 < LL by omega) hL, sc_rd (show i + 3 < LL by omega) hL, vl_o hC.1.1]
  refine cl_image hC fun c1 f1 hC1 => ?_
  have hM1 := hM.out f1 rfl
  obtain ⟨fr, ru, lu, e53⟩ := id hM1.1.1
  simp only [Option.toList_some, Option.toList_none, List.cons_append, List.nil_append, Option.toList, s_L_law_929, s_L_law_930, s_L_law_931, s_L_law_932, s_L_law_933, s_L_law_934, s_L_law_935, s_L_law_938, s_L_law_939, s_L_law_940, s_L_law_941, s_L_law_942, s_L_law_943, s_L_law_944, s_L_law_947, s_L_law_950, s_L_law_951, nI_add, sc_rd (show i + 1 < LL by omega) hL, sc_rd (show i + 2 < LL by omega) hL, sc_rd (show i + 3 < LL by omega) hL, vm_o e53]
  refine ml_image hV hM1 fun c2 f2 hM2 => ?_
  have hC2 := hC1.out f2
  simp only [Option.toList_some, Option.toList_none, List.cons_append, List.nil_append, Option.toList, s_L_law_929, s_L_law_930, s_L_law_931, s_L_law_932, s_L_law_933, s_L_law_934, s_L_law_935, s_L_law_938, s_L_law_939, s_L_law_940, s_L_law_941, s_L_law_942, s_L_law_943, s_L_law_944, s_L_law_947, s_L_law_950, s_L_law_951]
  exact ⟨fun _ => hn c2 _ _ _ _ ⟨hC2, hM2, hV, hs, (img_vs hV hI)⟩, fun q => absurd (by first | exact trivial | rfl) q⟩
theorem lc_restore (hi : i + 4 ≤ LL) (hL : LL ≤ 2048) (hn : NXT (rRo LL xs) R i) (hI0 : INV c T sg pd im) : rV (rRo LL xs) R 952 [.ref 1000004, .ref 0, .ref 53, .int (nI i)] [] (tab c) := by
  obtain ⟨hC, hM, hV, hs, hI⟩ := hI0
  obtain ⟨n, m, v, w, fo, si, st⟩ := T
  simp only [s_L_law_952, s_L_law_953, s_L_law_954, s_L_law_955, s_L_law_956, s_L_law_957, s_L_law_958, s_L_law_961, s_L_law_962, s_L_law_963, s_L_law_964, s_L_law_965, s_L_law_966, s_L_law_967, s_L_law_970, s_L_law_973, s_L_law_974, nI_add, sc_rd (show i + 1 < LL by omega) hL, sc_rd (show i + 2 < LL by omega) hL, sc_rd (show i + 3 < LL by omega) hL, vl_o hC.1.1]
  refine cl_restore hC fun c1 f1 hC1 => ?_
  have hM1 := hM.out f1 rfl
  obtain ⟨fr, ru, lu, e53⟩ := id hM1.1.1
  simp only [Option.toList_some, Option.toList_none, List.cons_append, List.nil_append, Option.toList, s_L_law_952, s_L_law_953, s_L_law_954, s_L_law_955, s_L_law_956, s_L_law_957, s_L_law_958, s_L_law_961, s_L_law_962, s_L_law_963, s_L_law_964, s_L_law_965, s_L_law_966, s_L_law_967, s_L_law_970, s_L_law_973, s_L_law_974, nI_add, sc_rd (show i + 1 < LL by omega) hL, sc_rd (show i + 2 < LL by omega) hL, sc_rd (show i + 3 < LL by omega) hL, vm_o e53]
  refine ml_restore hM1 fun c2 f2 hM2 => ?_
  have hC2 := hC1.out f2
  simp only [Option.toList_some, Option.toList_none, List.cons_append, List.nil_append, Option.toList, s_L_law_952, s_L_law_953, s_L_law_954, s_L_law_955, s_L_law_956, s_L_law_957, s_L_law_958, s_L_law_961, s_L_law_962, s_L_law_963, s_L_law_964, s_L_law_965, s_L_law_966, s_L_law_967, s_L_law_970, s_L_law_973, s_L_law_974]
  exact ⟨fun _ => hn c2 _ _ _ _ ⟨hC2, hM2, (vs_restore hV hI), hs, hI⟩, fun q => absurd (by first | exact trivial | rfl) q⟩
theorem lc_told (hi : i + 4 ≤ LL) (hL : LL ≤ 2048) (hn : NXT (rRo LL xs) R i) (hI0 : INV c T sg pd im) : rV (rRo LL xs) R 975 [.ref 1000004, .ref 0, .ref 53, .int (nI i)] [] (tab c) := by
  obtain ⟨hC, hM, hV, hs, hI⟩ := hI0
  obtain ⟨n, m, v, w, fo, si, st⟩ := T
  simp only [s_L_law_975, s_L_law_976, s_L_law_977, s_L_law_978, s_L_law_979, s_L_law_980, s_L_law_981, s_L_law_984, s_L_law_985, s_L_law_986, s_L_law_987, s_L_law_988, s_L_law_989, s_L_law_990, s_L_law_993, s_L_law_996, s_L_law_997, nI_add, sc_rd (show i + 1 < LL by omega) hL, sc_rd (show i + 2 < LL by omega) hL, sc_rd (show i + 3 < LL by omega) hL, vl_o hC.1.1]
  refine cl_told hV hs hC ?_
  have hM1 := hM
  have hC1 := hC
  obtain ⟨fr, ru, lu, e53⟩ := id hM1.1.1
  simp only [Option.toList_some, Option.toList_none, List.cons_append, List.nil_append, Option.toList, s_L_law_975, s_L_law_976, s_L_law_977, s_L_law_978, s_L_law_979, s_L_law_980, s_L_law_981, s_L_law_984, s_L_law_985, s_L_law_986, s_L_law_987, s_L_law_988, s_L_law_989, s_L_law_990, s_L_law_993, s_L_law_996, s_L_law_997, nI_add, sc_rd (show i + 1 < LL by omega) hL, sc_rd (show i + 2 < LL by omega) hL, sc_rd (show i + 3 < LL by omega) hL, vm_o e53]
  refine ml_told hV hM1 ?_
  have hM2 := hM1
  have hC2 := hC1
  simp only [Option.toList_some, Option.toList_none, List.cons_append, List.nil_append, Option.toList, s_L_law_975, s_L_law_976, s_L_law_977, s_L_law_978, s_L_law_979, s_L_law_980, s_L_law_981, s_L_law_984, s_L_law_985, s_L_law_986, s_L_law_987, s_L_law_988, s_L_law_989, s_L_law_990, s_L_law_993, s_L_law_996, s_L_law_997]
  exact ⟨fun _ => hn c _ _ _ _ ⟨hC2, hM2, hV, hs, hI⟩, fun q => absurd (by first | exact trivial | rfl) q⟩
end LC
