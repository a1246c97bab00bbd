/-! THE LAW'S LOOP -/
theorem okQ_ex {G : sx_G} {y : sx_M} {as r : List Value} {A : sx_A} {Z : sx_Z} {c : Nat} (h : sx_call G y as A Z (okQ c r)) : ∃ v, r = [.int v] := by
  obtain ⟨-, k, r', A', Z', -, -, h, -⟩ := h
  exact h
theorem okQL_ex {G : sx_G} {y : sx_M} {as r : List Value} {A : sx_A} {Z : sx_Z} {c : Nat} (h : sx_call G y as A Z (okQL c r)) : ∃ v, r = [.long v] := by
  obtain ⟨-, k, r', A', Z', -, -, h, -⟩ := h
  exact h
theorem ite_i {c : Prop} {inst : Decidable c} {a b : Prop} (ha : a) (hb : b) : @ite Prop c inst a b := by
  split
  · exact ha
  · exact hb
section LAW
variable {G : sx_G} {c i : Nat} {A : sx_A} {Z : sx_Z} {Q : List Value → sx_A → sx_Z → Prop}

theorem lw_c0 (hi : i + 6 ≤ G.1) (hG : G.1 ≤ 3072) (hop : okOp G c A Z mX3_person mX4_person [.int (G.2 (i + 1))]) (hQ : ∀ A' Z', Rel (c + 1) A' Z' → sx_ev G mL_law 1309 [some (.ref 60), some (.ref 0), some (.ref 39), some (.int (nI i))] [] A' Z' Q) : sx_ev G mL_law 208 [some (.ref 60), some (.ref 0), some (.ref 39), some (.int (nI i))] [] A Z Q := by
  have x1 : nI i + 1 = nI (i + 1) := nI_add i 1
  have a1 : ¬ nI (i + 1) < 0 := nI_pos (by omega)
  have k1 : (nI (i + 1)).toNatClampNeg = i + 1 := nI_clamp (by omega)
  have d1 : ¬ G.1 ≤ i + 1 := by omega
  unfold okOp at hop
  simp only [eL_law_208, eL_law_209, eL_law_210, eL_law_211, eL_law_212, eL_law_213, eL_law_214, eL_law_217, eL_law_218, eL_law_219, eL_law_220, eL_law_221, eL_law_222, eL_law_223, eL_law_226, eL_law_229, eL_law_230, kd_0, kd_60, an_60, rd_60, x1, a1, k1, d1, Nat.reduceLeDiff, Nat.reduceEqDiff, Nat.reduceAdd, if_true, if_false, b2i_T, b2i_F, and_self, and_false, false_and, true_and, and_true, true_or, or_true, false_or, or_false, or_self, not_true_eq_false, not_false_eq_true, eq_self, List.cons_append, List.nil_append]
  refine sx_call_mono hop (fun r A1 Z1 h1 => ?_)
  obtain ⟨v, rfl⟩ := okQ_ex h1
  simp only [eL_law_208, eL_law_209, eL_law_210, eL_law_211, eL_law_212, eL_law_213, eL_law_214, eL_law_217, eL_law_218, eL_law_219, eL_law_220, eL_law_221, eL_law_222, eL_law_223, eL_law_226, eL_law_229, eL_law_230, kd_39, kd_60, an_60, rd_60, x1, a1, k1, d1, Nat.reduceLeDiff, Nat.reduceEqDiff, Nat.reduceAdd, if_true, if_false, b2i_T, b2i_F, and_self, and_false, false_and, true_and, and_true, true_or, or_true, false_or, or_false, or_self, not_true_eq_false, not_false_eq_true, eq_self, List.cons_append, List.nil_append]
  refine sx_call_mono h1 (fun r2 A2 Z2 h2 => ?_)
  obtain ⟨rfl, -, h3⟩ := h2
  simp only [eL_law_208, eL_law_209, eL_law_210, eL_law_211, eL_law_212, eL_law_213, eL_law_214, eL_law_217, eL_law_218, eL_law_219, eL_law_220, eL_law_221, eL_law_222, eL_law_223, eL_law_226, eL_law_229, eL_law_230, Nat.reduceLeDiff, Nat.reduceEqDiff, Nat.reduceAdd, if_true, if_false, b2i_T, b2i_F, and_self, and_false, false_and, true_and, and_true, true_or, or_true, false_or, or_false, or_self, not_true_eq_false, not_false_eq_true, eq_self, List.cons_append, List.nil_append]
  exact hQ A2 Z2 h3

theorem lw_c1 (hi : i + 6 ≤ G.1) (hG : G.1 ≤ 3072) (hop : okOp G c A Z mX3_of mX4_of [.int (G.2 (i + 1)), .int (G.2 (i + 2))]) (hQ : ∀ A' Z', Rel (c + 1) A' Z' → sx_ev G mL_law 1309 [some (.ref 60), some (.ref 0), some (.ref 39), some (.int (nI i))] [] A' Z' Q) : sx_ev G mL_law 231 [some (.ref 60), some (.ref 0), some (.ref 39), some (.int (nI i))] [] A Z Q := by
  have x1 : nI i + 1 = nI (i + 1) := nI_add i 1
  have a1 : ¬ nI (i + 1) < 0 := nI_pos (by omega)
  have k1 : (nI (i + 1)).toNatClampNeg = i + 1 := nI_clamp (by omega)
  have d1 : ¬ G.1 ≤ i + 1 := by omega
  have x2 : nI i + 2 = nI (i + 2) := nI_add i 2
  have a2 : ¬ nI (i + 2) < 0 := nI_pos (by omega)
  have k2 : (nI (i + 2)).toNatClampNeg = i + 2 := nI_clamp (by omega)
  have d2 : ¬ G.1 ≤ i + 2 := by omega
  unfold okOp at hop
  simp only [eL_law_231, eL_law_232, eL_law_233, eL_law_234, eL_law_235, eL_law_236, eL_law_237, eL_law_238, eL_law_239, eL_law_240, eL_law_241, eL_law_242, eL_law_245, eL_law_246, eL_law_247, eL_law_248, eL_law_249, eL_law_250, eL_law_251, eL_law_252, eL_law_253, eL_law_254, eL_law_255, eL_law_256, eL_law_259, eL_law_262, eL_law_263, kd_0, kd_60, an_60, rd_60, x1, a1, k1, d1, x2, a2, k2, d2, Nat.reduceLeDiff, Nat.reduceEqDiff, Nat.reduceAdd, if_true, if_false, b2i_T, b2i_F, and_self, and_false, false_and, true_and, and_true, true_or, or_true, false_or, or_false, or_self, not_true_eq_false, not_false_eq_true, eq_self, List.cons_append, List.nil_append]
  refine sx_call_mono hop (fun r A1 Z1 h1 => ?_)
  obtain ⟨v, rfl⟩ := okQ_ex h1
  simp only [eL_law_231, eL_law_232, eL_law_233, eL_law_234, eL_law_235, eL_law_236, eL_law_237, eL_law_238, eL_law_239, eL_law_240, eL_law_241, eL_law_242, eL_law_245, eL_law_246, eL_law_247, eL_law_248, eL_law_249, eL_law_250, eL_law_251, eL_law_252, eL_law_253, eL_law_254, eL_law_255, eL_law_256, eL_law_259, eL_law_262, eL_law_263, kd_39, kd_60, an_60, rd_60, x1, a1, k1, d1, x2, a2, k2, d2, Nat.reduceLeDiff, Nat.reduceEqDiff, Nat.reduceAdd, if_true, if_false, b2i_T, b2i_F, and_self, and_false, false_and, true_and, and_true, true_or, or_true, false_or, or_false, or_self, not_true_eq_false, not_false_eq_true, eq_self, List.cons_append, List.nil_append]
  refine sx_call_mono h1 (fun r2 A2 Z2 h2 => ?_)
  obtain ⟨rfl, -, h3⟩ := h2
  simp only [eL_law_231, eL_law_232, eL_law_233, eL_law_234, eL_law_235, eL_law_236, eL_law_237, eL_law_238, eL_law_239, eL_law_240, eL_law_241, eL_law_242, eL_law_245, eL_law_246, eL_law_247, eL_law_248, eL_law_249, eL_law_250, eL_law_251, eL_law_252, eL_law_253, eL_law_254, eL_law_255, eL_law_256, eL_law_259, eL_law_262, eL_law_263, Nat.reduceLeDiff, Nat.reduceEqDiff, Nat.reduceAdd, if_true, if_false, b2i_T, b2i_F, and_self, and_false, false_and, true_and, and_true, true_or, or_true, false_or, or_false, or_self, not_true_eq_false, not_false_eq_true, eq_self, List.cons_append, List.nil_append]
  exact hQ A2 Z2 h3

theorem lw_c2 (hi : i + 6 ≤ G.1) (hG : G.1 ≤ 3072) (hop : okOp G c A Z mX3_heart mX4_heart [.int (G.2 (i + 1))]) (hQ : ∀ A' Z', Rel (c + 1) A' Z' → sx_ev G mL_law 1309 [some (.ref 60), some (.ref 0), some (.ref 39), some (.int (nI i))] [] A' Z' Q) : sx_ev G mL_law 264 [some (.ref 60), some (.ref 0), some (.ref 39), some (.int (nI i))] [] A Z Q := by
  have x1 : nI i + 1 = nI (i + 1) := nI_add i 1
  have a1 : ¬ nI (i + 1) < 0 := nI_pos (by omega)
  have k1 : (nI (i + 1)).toNatClampNeg = i + 1 := nI_clamp (by omega)
  have d1 : ¬ G.1 ≤ i + 1 := by omega
  unfold okOp at hop
  simp only [eL_law_264, eL_law_265, eL_law_266, eL_law_267, eL_law_268, eL_law_269, eL_law_270, eL_law_273, eL_law_274, eL_law_275, eL_law_276, eL_law_277, eL_law_278, eL_law_279, eL_law_282, eL_law_285, eL_law_286, kd_0, kd_60, an_60, rd_60, x1, a1, k1, d1, Nat.reduceLeDiff, Nat.reduceEqDiff, Nat.reduceAdd, if_true, if_false, b2i_T, b2i_F, and_self, and_false, false_and, true_and, and_true, true_or, or_true, false_or, or_false, or_self, not_true_eq_false, not_false_eq_true, eq_self, List.cons_append, List.nil_append]
  refine sx_call_mono hop (fun r A1 Z1 h1 => ?_)
  obtain ⟨v, rfl⟩ := okQ_ex h1
  simp only [eL_law_264, eL_law_265, eL_law_266, eL_law_267, eL_law_268, eL_law_269, eL_law_270, eL_law_273, eL_law_274, eL_law_275, eL_law_276, eL_law_277, eL_law_278, eL_law_279, eL_law_282, eL_law_285, eL_law_286, kd_39, kd_60, an_60, rd_60, x1, a1, k1, d1, Nat.reduceLeDiff, Nat.reduceEqDiff, Nat.reduceAdd, if_true, if_false, b2i_T, b2i_F, and_self, and_false, false_and, true_and, and_true, true_or, or_true, false_or, or_false, or_self, not_true_eq_false, not_false_eq_true, eq_self, List.cons_append, List.nil_append]
  refine sx_call_mono h1 (fun r2 A2 Z2 h2 => ?_)
  obtain ⟨rfl, -, h3⟩ := h2
  simp only [eL_law_264, eL_law_265, eL_law_266, eL_law_267, eL_law_268, eL_law_269, eL_law_270, eL_law_273, eL_law_274, eL_law_275, eL_law_276, eL_law_277, eL_law_278, eL_law_279, eL_law_282, eL_law_285, eL_law_286, Nat.reduceLeDiff, Nat.reduceEqDiff, Nat.reduceAdd, if_true, if_false, b2i_T, b2i_F, and_self, and_false, false_and, true_and, and_true, true_or, or_true, false_or, or_false, or_self, not_true_eq_false, not_false_eq_true, eq_self, List.cons_append, List.nil_append]
  exact hQ A2 Z2 h3

theorem lw_c3 (hi : i + 6 ≤ G.1) (hG : G.1 ≤ 3072) (hop : okOp G c A Z mX3_set mX4_set [.int (G.2 (i + 1)), .int (G.2 (i + 2)), .int (G.2 (i + 3))]) (hQ : ∀ A' Z', Rel (c + 1) A' Z' → sx_ev G mL_law 1309 [some (.ref 60), some (.ref 0), some (.ref 39), some (.int (nI i))] [] A' Z' Q) : sx_ev G mL_law 287 [some (.ref 60), some (.ref 0), some (.ref 39), some (.int (nI i))] [] A Z Q := by
  have x1 : nI i + 1 = nI (i + 1) := nI_add i 1
  have a1 : ¬ nI (i + 1) < 0 := nI_pos (by omega)
  have k1 : (nI (i + 1)).toNatClampNeg = i + 1 := nI_clamp (by omega)
  have d1 : ¬ G.1 ≤ i + 1 := by omega
  have x2 : nI i + 2 = nI (i + 2) := nI_add i 2
  have a2 : ¬ nI (i + 2) < 0 := nI_pos (by omega)
  have k2 : (nI (i + 2)).toNatClampNeg = i + 2 := nI_clamp (by omega)
  have d2 : ¬ G.1 ≤ i + 2 := by omega
  have x3 : nI i + 3 = nI (i + 3) := nI_add i 3
  have a3 : ¬ nI (i + 3) < 0 := nI_pos (by omega)
  have k3 : (nI (i + 3)).toNatClampNeg = i + 3 := nI_clamp (by omega)
  have d3 : ¬ G.1 ≤ i + 3 := by omega
  unfold okOp at hop
  simp only [eL_law_287, eL_law_288, eL_law_289, eL_law_290, eL_law_291, eL_law_292, eL_law_293, eL_law_294, eL_law_295, eL_law_296, eL_law_297, eL_law_298, eL_law_299, eL_law_300, eL_law_301, eL_law_302, eL_law_303, eL_law_306, eL_law_307, eL_law_308, eL_law_309, eL_law_310, eL_law_311, eL_law_312, eL_law_313, eL_law_314, eL_law_315, eL_law_316, eL_law_317, eL_law_318, eL_law_319, eL_law_320, eL_law_321, eL_law_322, eL_law_325, eL_law_328, eL_law_329, kd_0, kd_60, an_60, rd_60, x1, a1, k1, d1, x2, a2, k2, d2, x3, a3, k3, d3, Nat.reduceLeDiff, Nat.reduceEqDiff, Nat.reduceAdd, if_true, if_false, b2i_T, b2i_F, and_self, and_false, false_and, true_and, and_true, true_or, or_true, false_or, or_false, or_self, not_true_eq_false, not_false_eq_true, eq_self, List.cons_append, List.nil_append]
  refine sx_call_mono hop (fun r A1 Z1 h1 => ?_)
  obtain ⟨v, rfl⟩ := okQ_ex h1
  simp only [eL_law_287, eL_law_288, eL_law_289, eL_law_290, eL_law_291, eL_law_292, eL_law_293, eL_law_294, eL_law_295, eL_law_296, eL_law_297, eL_law_298, eL_law_299, eL_law_300, eL_law_301, eL_law_302, eL_law_303, eL_law_306, eL_law_307, eL_law_308, eL_law_309, eL_law_310, eL_law_311, eL_law_312, eL_law_313, eL_law_314, eL_law_315, eL_law_316, eL_law_317, eL_law_318, eL_law_319, eL_law_320, eL_law_321, eL_law_322, eL_law_325, eL_law_328, eL_law_329, kd_39, kd_60, an_60, rd_60, x1, a1, k1, d1, x2, a2, k2, d2, x3, a3, k3, d3, Nat.reduceLeDiff, Nat.reduceEqDiff, Nat.reduceAdd, if_true, if_false, b2i_T, b2i_F, and_self, and_false, false_and, true_and, and_true, true_or, or_true, false_or, or_false, or_self, not_true_eq_false, not_false_eq_true, eq_self, List.cons_append, List.nil_append]
  refine sx_call_mono h1 (fun r2 A2 Z2 h2 => ?_)
  obtain ⟨rfl, -, h3⟩ := h2
  simp only [eL_law_287, eL_law_288, eL_law_289, eL_law_290, eL_law_291, eL_law_292, eL_law_293, eL_law_294, eL_law_295, eL_law_296, eL_law_297, eL_law_298, eL_law_299, eL_law_300, eL_law_301, eL_law_302, eL_law_303, eL_law_306, eL_law_307, eL_law_308, eL_law_309, eL_law_310, eL_law_311, eL_law_312, eL_law_313, eL_law_314, eL_law_315, eL_law_316, eL_law_317, eL_law_318, eL_law_319, eL_law_320, eL_law_321, eL_law_322, eL_law_325, eL_law_328, eL_law_329, Nat.reduceLeDiff, Nat.reduceEqDiff, Nat.reduceAdd, if_true, if_false, b2i_T, b2i_F, and_self, and_false, false_and, true_and, and_true, true_or, or_true, false_or, or_false, or_self, not_true_eq_false, not_false_eq_true, eq_self, List.cons_append, List.nil_append]
  exact hQ A2 Z2 h3

theorem lw_c4 (hi : i + 6 ≤ G.1) (hG : G.1 ≤ 3072) (hop : okOp G c A Z mX3_turn mX4_turn [.int (G.2 (i + 1)), .int (G.2 (i + 2))]) (hQ : ∀ A' Z', Rel (c + 1) A' Z' → sx_ev G mL_law 1309 [some (.ref 60), some (.ref 0), some (.ref 39), some (.int (nI i))] [] A' Z' Q) : sx_ev G mL_law 330 [some (.ref 60), some (.ref 0), some (.ref 39), some (.int (nI i))] [] A Z Q := by
  have x1 : nI i + 1 = nI (i + 1) := nI_add i 1
  have a1 : ¬ nI (i + 1) < 0 := nI_pos (by omega)
  have k1 : (nI (i + 1)).toNatClampNeg = i + 1 := nI_clamp (by omega)
  have d1 : ¬ G.1 ≤ i + 1 := by omega
  have x2 : nI i + 2 = nI (i + 2) := nI_add i 2
  have a2 : ¬ nI (i + 2) < 0 := nI_pos (by omega)
  have k2 : (nI (i + 2)).toNatClampNeg = i + 2 := nI_clamp (by omega)
  have d2 : ¬ G.1 ≤ i + 2 := by omega
  unfold okOp at hop
  simp only [eL_law_330, eL_law_331, eL_law_332, eL_law_333, eL_law_334, eL_law_335, eL_law_336, eL_law_337, eL_law_338, eL_law_339, eL_law_340, eL_law_341, eL_law_344, eL_law_345, eL_law_346, eL_law_347, eL_law_348, eL_law_349, eL_law_350, eL_law_351, eL_law_352, eL_law_353, eL_law_354, eL_law_355, eL_law_358, eL_law_361, eL_law_362, kd_0, kd_60, an_60, rd_60, x1, a1, k1, d1, x2, a2, k2, d2, Nat.reduceLeDiff, Nat.reduceEqDiff, Nat.reduceAdd, if_true, if_false, b2i_T, b2i_F, and_self, and_false, false_and, true_and, and_true, true_or, or_true, false_or, or_false, or_self, not_true_eq_false, not_false_eq_true, eq_self, List.cons_append, List.nil_append]
  refine sx_call_mono hop (fun r A1 Z1 h1 => ?_)
  obtain ⟨v, rfl⟩ := okQ_ex h1
  simp only [eL_law_330, eL_law_331, eL_law_332, eL_law_333, eL_law_334, eL_law_335, eL_law_336, eL_law_337, eL_law_338, eL_law_339, eL_law_340, eL_law_341, eL_law_344, eL_law_345, eL_law_346, eL_law_347, eL_law_348, eL_law_349, eL_law_350, eL_law_351, eL_law_352, eL_law_353, eL_law_354, eL_law_355, eL_law_358, eL_law_361, eL_law_362, kd_39, kd_60, an_60, rd_60, x1, a1, k1, d1, x2, a2, k2, d2, Nat.reduceLeDiff, Nat.reduceEqDiff, Nat.reduceAdd, if_true, if_false, b2i_T, b2i_F, and_self, and_false, false_and, true_and, and_true, true_or, or_true, false_or, or_false, or_self, not_true_eq_false, not_false_eq_true, eq_self, List.cons_append, List.nil_append]
  refine sx_call_mono h1 (fun r2 A2 Z2 h2 => ?_)
  obtain ⟨rfl, -, h3⟩ := h2
  simp only [eL_law_330, eL_law_331, eL_law_332, eL_law_333, eL_law_334, eL_law_335, eL_law_336, eL_law_337, eL_law_338, eL_law_339, eL_law_340, eL_law_341, eL_law_344, eL_law_345, eL_law_346, eL_law_347, eL_law_348, eL_law_349, eL_law_350, eL_law_351, eL_law_352, eL_law_353, eL_law_354, eL_law_355, eL_law_358, eL_law_361, eL_law_362, Nat.reduceLeDiff, Nat.reduceEqDiff, Nat.reduceAdd, if_true, if_false, b2i_T, b2i_F, and_self, and_false, false_and, true_and, and_true, true_or, or_true, false_or, or_false, or_self, not_true_eq_false, not_false_eq_true, eq_self, List.cons_append, List.nil_append]
  exact hQ A2 Z2 h3

theorem lw_c5 (hi : i + 6 ≤ G.1) (hG : G.1 ≤ 3072) (hop : okOp G c A Z mX3_as mX4_as [.int (G.2 (i + 1)), .int (G.2 (i + 2))]) (hQ : ∀ A' Z', Rel (c + 1) A' Z' → sx_ev G mL_law 1309 [some (.ref 60), some (.ref 0), some (.ref 39), some (.int (nI i))] [] A' Z' Q) : sx_ev G mL_law 363 [some (.ref 60), some (.ref 0), some (.ref 39), some (.int (nI i))] [] A Z Q := by
  have x1 : nI i + 1 = nI (i + 1) := nI_add i 1
  have a1 : ¬ nI (i + 1) < 0 := nI_pos (by omega)
  have k1 : (nI (i + 1)).toNatClampNeg = i + 1 := nI_clamp (by omega)
  have d1 : ¬ G.1 ≤ i + 1 := by omega
  have x2 : nI i + 2 = nI (i + 2) := nI_add i 2
  have a2 : ¬ nI (i + 2) < 0 := nI_pos (by omega)
  have k2 : (nI (i + 2)).toNatClampNeg = i + 2 := nI_clamp (by omega)
  have d2 : ¬ G.1 ≤ i + 2 := by omega
  unfold okOp at hop
  simp only [eL_law_363, eL_law_364, eL_law_365, eL_law_366, eL_law_367, eL_law_368, eL_law_369, eL_law_370, eL_law_371, eL_law_372, eL_law_373, eL_law_374, eL_law_377, eL_law_378, eL_law_379, eL_law_380, eL_law_381, eL_law_382, eL_law_383, eL_law_384, eL_law_385, eL_law_386, eL_law_387, eL_law_388, eL_law_391, eL_law_394, eL_law_395, kd_0, kd_60, an_60, rd_60, x1, a1, k1, d1, x2, a2, k2, d2, Nat.reduceLeDiff, Nat.reduceEqDiff, Nat.reduceAdd, if_true, if_false, b2i_T, b2i_F, and_self, and_false, false_and, true_and, and_true, true_or, or_true, false_or, or_false, or_self, not_true_eq_false, not_false_eq_true, eq_self, List.cons_append, List.nil_append]
  refine sx_call_mono hop (fun r A1 Z1 h1 => ?_)
  obtain ⟨v, rfl⟩ := okQ_ex h1
  simp only [eL_law_363, eL_law_364, eL_law_365, eL_law_366, eL_law_367, eL_law_368, eL_law_369, eL_law_370, eL_law_371, eL_law_372, eL_law_373, eL_law_374, eL_law_377, eL_law_378, eL_law_379, eL_law_380, eL_law_381, eL_law_382, eL_law_383, eL_law_384, eL_law_385, eL_law_386, eL_law_387, eL_law_388, eL_law_391, eL_law_394, eL_law_395, kd_39, kd_60, an_60, rd_60, x1, a1, k1, d1, x2, a2, k2, d2, Nat.reduceLeDiff, Nat.reduceEqDiff, Nat.reduceAdd, if_true, if_false, b2i_T, b2i_F, and_self, and_false, false_and, true_and, and_true, true_or, or_true, false_or, or_false, or_self, not_true_eq_false, not_false_eq_true, eq_self, List.cons_append, List.nil_append]
  refine sx_call_mono h1 (fun r2 A2 Z2 h2 => ?_)
  obtain ⟨rfl, -, h3⟩ := h2
  simp only [eL_law_363, eL_law_364, eL_law_365, eL_law_366, eL_law_367, eL_law_368, eL_law_369, eL_law_370, eL_law_371, eL_law_372, eL_law_373, eL_law_374, eL_law_377, eL_law_378, eL_law_379, eL_law_380, eL_law_381, eL_law_382, eL_law_383, eL_law_384, eL_law_385, eL_law_386, eL_law_387, eL_law_388, eL_law_391, eL_law_394, eL_law_395, Nat.reduceLeDiff, Nat.reduceEqDiff, Nat.reduceAdd, if_true, if_false, b2i_T, b2i_F, and_self, and_false, false_and, true_and, and_true, true_or, or_true, false_or, or_false, or_self, not_true_eq_false, not_false_eq_true, eq_self, List.cons_append, List.nil_append]
  exact hQ A2 Z2 h3

theorem lw_c6 (hi : i + 6 ≤ G.1) (hG : G.1 ≤ 3072) (hop : okOp G c A Z mX3_news mX4_news [.int (G.2 (i + 1)), .int (G.2 (i + 2)), .int (G.2 (i + 3))]) (hQ : ∀ A' Z', Rel (c + 1) A' Z' → sx_ev G mL_law 1309 [some (.ref 60), some (.ref 0), some (.ref 39), some (.int (nI i))] [] A' Z' Q) : sx_ev G mL_law 396 [some (.ref 60), some (.ref 0), some (.ref 39), some (.int (nI i))] [] A Z Q := by
  have x1 : nI i + 1 = nI (i + 1) := nI_add i 1
  have a1 : ¬ nI (i + 1) < 0 := nI_pos (by omega)
  have k1 : (nI (i + 1)).toNatClampNeg = i + 1 := nI_clamp (by omega)
  have d1 : ¬ G.1 ≤ i + 1 := by omega
  have x2 : nI i + 2 = nI (i + 2) := nI_add i 2
  have a2 : ¬ nI (i + 2) < 0 := nI_pos (by omega)
  have k2 : (nI (i + 2)).toNatClampNeg = i + 2 := nI_clamp (by omega)
  have d2 : ¬ G.1 ≤ i + 2 := by omega
  have x3 : nI i + 3 = nI (i + 3) := nI_add i 3
  have a3 : ¬ nI (i + 3) < 0 := nI_pos (by omega)
  have k3 : (nI (i + 3)).toNatClampNeg = i + 3 := nI_clamp (by omega)
  have d3 : ¬ G.1 ≤ i + 3 := by omega
  unfold okOp at hop
  simp only [eL_law_396, eL_law_397, eL_law_398, eL_law_399, eL_law_400, eL_law_401, eL_law_402, eL_law_403, eL_law_404, eL_law_405, eL_law_406, eL_law_407, eL_law_408, eL_law_409, eL_law_410, eL_law_411, eL_law_412, eL_law_415, eL_law_416, eL_law_417, eL_law_418, eL_law_419, eL_law_420, eL_law_421, eL_law_422, eL_law_423, eL_law_424, eL_law_425, eL_law_426, eL_law_427, eL_law_428, eL_law_429, eL_law_430, eL_law_431, eL_law_434, eL_law_437, eL_law_438, kd_0, kd_60, an_60, rd_60, x1, a1, k1, d1, x2, a2, k2, d2, x3, a3, k3, d3, Nat.reduceLeDiff, Nat.reduceEqDiff, Nat.reduceAdd, if_true, if_false, b2i_T, b2i_F, and_self, and_false, false_and, true_and, and_true, true_or, or_true, false_or, or_false, or_self, not_true_eq_false, not_false_eq_true, eq_self, List.cons_append, List.nil_append]
  refine sx_call_mono hop (fun r A1 Z1 h1 => ?_)
  obtain ⟨v, rfl⟩ := okQ_ex h1
  simp only [eL_law_396, eL_law_397, eL_law_398, eL_law_399, eL_law_400, eL_law_401, eL_law_402, eL_law_403, eL_law_404, eL_law_405, eL_law_406, eL_law_407, eL_law_408, eL_law_409, eL_law_410, eL_law_411, eL_law_412, eL_law_415, eL_law_416, eL_law_417, eL_law_418, eL_law_419, eL_law_420, eL_law_421, eL_law_422, eL_law_423, eL_law_424, eL_law_425, eL_law_426, eL_law_427, eL_law_428, eL_law_429, eL_law_430, eL_law_431, eL_law_434, eL_law_437, eL_law_438, kd_39, kd_60, an_60, rd_60, x1, a1, k1, d1, x2, a2, k2, d2, x3, a3, k3, d3, Nat.reduceLeDiff, Nat.reduceEqDiff, Nat.reduceAdd, if_true, if_false, b2i_T, b2i_F, and_self, and_false, false_and, true_and, and_true, true_or, or_true, false_or, or_false, or_self, not_true_eq_false, not_false_eq_true, eq_self, List.cons_append, List.nil_append]
  refine sx_call_mono h1 (fun r2 A2 Z2 h2 => ?_)
  obtain ⟨rfl, -, h3⟩ := h2
  simp only [eL_law_396, eL_law_397, eL_law_398, eL_law_399, eL_law_400, eL_law_401, eL_law_402, eL_law_403, eL_law_404, eL_law_405, eL_law_406, eL_law_407, eL_law_408, eL_law_409, eL_law_410, eL_law_411, eL_law_412, eL_law_415, eL_law_416, eL_law_417, eL_law_418, eL_law_419, eL_law_420, eL_law_421, eL_law_422, eL_law_423, eL_law_424, eL_law_425, eL_law_426, eL_law_427, eL_law_428, eL_law_429, eL_law_430, eL_law_431, eL_law_434, eL_law_437, eL_law_438, Nat.reduceLeDiff, Nat.reduceEqDiff, Nat.reduceAdd, if_true, if_false, b2i_T, b2i_F, and_self, and_false, false_and, true_and, and_true, true_or, or_true, false_or, or_false, or_self, not_true_eq_false, not_false_eq_true, eq_self, List.cons_append, List.nil_append]
  exact hQ A2 Z2 h3

theorem lw_c7 (hi : i + 6 ≤ G.1) (hG : G.1 ≤ 3072) (hop : okOp G c A Z mX3_load mX4_load [.int (G.2 (i + 1))]) (hQ : ∀ A' Z', Rel (c + 1) A' Z' → sx_ev G mL_law 1309 [some (.ref 60), some (.ref 0), some (.ref 39), some (.int (nI i))] [] A' Z' Q) : sx_ev G mL_law 439 [some (.ref 60), some (.ref 0), some (.ref 39), some (.int (nI i))] [] A Z Q := by
  have x1 : nI i + 1 = nI (i + 1) := nI_add i 1
  have a1 : ¬ nI (i + 1) < 0 := nI_pos (by omega)
  have k1 : (nI (i + 1)).toNatClampNeg = i + 1 := nI_clamp (by omega)
  have d1 : ¬ G.1 ≤ i + 1 := by omega
  unfold okOp at hop
  simp only [eL_law_439, eL_law_440, eL_law_441, eL_law_442, eL_law_443, eL_law_444, eL_law_445, eL_law_448, eL_law_449, eL_law_450, eL_law_451, eL_law_452, eL_law_453, eL_law_454, eL_law_457, eL_law_460, eL_law_461, kd_0, kd_60, an_60, rd_60, x1, a1, k1, d1, Nat.reduceLeDiff, Nat.reduceEqDiff, Nat.reduceAdd, if_true, if_false, b2i_T, b2i_F, and_self, and_false, false_and, true_and, and_true, true_or, or_true, false_or, or_false, or_self, not_true_eq_false, not_false_eq_true, eq_self, List.cons_append, List.nil_append]
  refine sx_call_mono hop (fun r A1 Z1 h1 => ?_)
  obtain ⟨v, rfl⟩ := okQ_ex h1
  simp only [eL_law_439, eL_law_440, eL_law_441, eL_law_442, eL_law_443, eL_law_444, eL_law_445, eL_law_448, eL_law_449, eL_law_450, eL_law_451, eL_law_452, eL_law_453, eL_law_454, eL_law_457, eL_law_460, eL_law_461, kd_39, kd_60, an_60, rd_60, x1, a1, k1, d1, Nat.reduceLeDiff, Nat.reduceEqDiff, Nat.reduceAdd, if_true, if_false, b2i_T, b2i_F, and_self, and_false, false_and, true_and, and_true, true_or, or_true, false_or, or_false, or_self, not_true_eq_false, not_false_eq_true, eq_self, List.cons_append, List.nil_append]
  refine sx_call_mono h1 (fun r2 A2 Z2 h2 => ?_)
  obtain ⟨rfl, -, h3⟩ := h2
  simp only [eL_law_439, eL_law_440, eL_law_441, eL_law_442, eL_law_443, eL_law_444, eL_law_445, eL_law_448, eL_law_449, eL_law_450, eL_law_451, eL_law_452, eL_law_453, eL_law_454, eL_law_457, eL_law_460, eL_law_461, Nat.reduceLeDiff, Nat.reduceEqDiff, Nat.reduceAdd, if_true, if_false, b2i_T, b2i_F, and_self, and_false, false_and, true_and, and_true, true_or, or_true, false_or, or_false, or_self, not_true_eq_false, not_false_eq_true, eq_self, List.cons_append, List.nil_append]
  exact hQ A2 Z2 h3

theorem lw_c8 (hi : i + 6 ≤ G.1) (hG : G.1 ≤ 3072) (hop : okOp G c A Z mX3_at mX4_at [.int (G.2 (i + 1))]) (hQ : ∀ A' Z', Rel (c + 1) A' Z' → sx_ev G mL_law 1309 [some (.ref 60), some (.ref 0), some (.ref 39), some (.int (nI i))] [] A' Z' Q) : sx_ev G mL_law 462 [some (.ref 60), some (.ref 0), some (.ref 39), some (.int (nI i))] [] A Z Q := by
  have x1 : nI i + 1 = nI (i + 1) := nI_add i 1
  have a1 : ¬ nI (i + 1) < 0 := nI_pos (by omega)
  have k1 : (nI (i + 1)).toNatClampNeg = i + 1 := nI_clamp (by omega)
  have d1 : ¬ G.1 ≤ i + 1 := by omega
  unfold okOp at hop
  simp only [eL_law_462, eL_law_463, eL_law_464, eL_law_465, eL_law_466, eL_law_467, eL_law_468, eL_law_471, eL_law_472, eL_law_473, eL_law_474, eL_law_475, eL_law_476, eL_law_477, eL_law_480, eL_law_483, eL_law_484, kd_0, kd_60, an_60, rd_60, x1, a1, k1, d1, Nat.reduceLeDiff, Nat.reduceEqDiff, Nat.reduceAdd, if_true, if_false, b2i_T, b2i_F, and_self, and_false, false_and, true_and, and_true, true_or, or_true, false_or, or_false, or_self, not_true_eq_false, not_false_eq_true, eq_self, List.cons_append, List.nil_append]
  refine sx_call_mono hop (fun r A1 Z1 h1 => ?_)
  obtain ⟨v, rfl⟩ := okQ_ex h1
  simp only [eL_law_462, eL_law_463, eL_law_464, eL_law_465, eL_law_466, eL_law_467, eL_law_468, eL_law_471, eL_law_472, eL_law_473, eL_law_474, eL_law_475, eL_law_476, eL_law_477, eL_law_480, eL_law_483, eL_law_484, kd_39, kd_60, an_60, rd_60, x1, a1, k1, d1, Nat.reduceLeDiff, Nat.reduceEqDiff, Nat.reduceAdd, if_true, if_false, b2i_T, b2i_F, and_self, and_false, false_and, true_and, and_true, true_or, or_true, false_or, or_false, or_self, not_true_eq_false, not_false_eq_true, eq_self, List.cons_append, List.nil_append]
  refine sx_call_mono h1 (fun r2 A2 Z2 h2 => ?_)
  obtain ⟨rfl, -, h3⟩ := h2
  simp only [eL_law_462, eL_law_463, eL_law_464, eL_law_465, eL_law_466, eL_law_467, eL_law_468, eL_law_471, eL_law_472, eL_law_473, eL_law_474, eL_law_475, eL_law_476, eL_law_477, eL_law_480, eL_law_483, eL_law_484, Nat.reduceLeDiff, Nat.reduceEqDiff, Nat.reduceAdd, if_true, if_false, b2i_T, b2i_F, and_self, and_false, false_and, true_and, and_true, true_or, or_true, false_or, or_false, or_self, not_true_eq_false, not_false_eq_true, eq_self, List.cons_append, List.nil_append]
  exact hQ A2 Z2 h3

theorem lw_c9 (hi : i + 6 ≤ G.1) (hG : G.1 ≤ 3072) (hop : okOp G c A Z mX3_hang mX4_hang [.int (G.2 (i + 1))]) (hQ : ∀ A' Z', Rel (c + 1) A' Z' → sx_ev G mL_law 1309 [some (.ref 60), some (.ref 0), some (.ref 39), some (.int (nI i))] [] A' Z' Q) : sx_ev G mL_law 485 [some (.ref 60), some (.ref 0), some (.ref 39), some (.int (nI i))] [] A Z Q := by
  have x1 : nI i + 1 = nI (i + 1) := nI_add i 1
  have a1 : ¬ nI (i + 1) < 0 := nI_pos (by omega)
  have k1 : (nI (i + 1)).toNatClampNeg = i + 1 := nI_clamp (by omega)
  have d1 : ¬ G.1 ≤ i + 1 := by omega
  unfold okOp at hop
  simp only [eL_law_485, eL_law_486, eL_law_487, eL_law_488, eL_law_489, eL_law_490, eL_law_491, eL_law_494, eL_law_495, eL_law_496, eL_law_497, eL_law_498, eL_law_499, eL_law_500, eL_law_503, eL_law_506, eL_law_507, kd_0, kd_60, an_60, rd_60, x1, a1, k1, d1, Nat.reduceLeDiff, Nat.reduceEqDiff, Nat.reduceAdd, if_true, if_false, b2i_T, b2i_F, and_self, and_false, false_and, true_and, and_true, true_or, or_true, false_or, or_false, or_self, not_true_eq_false, not_false_eq_true, eq_self, List.cons_append, List.nil_append]
  refine sx_call_mono hop (fun r A1 Z1 h1 => ?_)
  obtain ⟨v, rfl⟩ := okQ_ex h1
  simp only [eL_law_485, eL_law_486, eL_law_487, eL_law_488, eL_law_489, eL_law_490, eL_law_491, eL_law_494, eL_law_495, eL_law_496, eL_law_497, eL_law_498, eL_law_499, eL_law_500, eL_law_503, eL_law_506, eL_law_507, kd_39, kd_60, an_60, rd_60, x1, a1, k1, d1, Nat.reduceLeDiff, Nat.reduceEqDiff, Nat.reduceAdd, if_true, if_false, b2i_T, b2i_F, and_self, and_false, false_and, true_and, and_true, true_or, or_true, false_or, or_false, or_self, not_true_eq_false, not_false_eq_true, eq_self, List.cons_append, List.nil_append]
  refine sx_call_mono h1 (fun r2 A2 Z2 h2 => ?_)
  obtain ⟨rfl, -, h3⟩ := h2
  simp only [eL_law_485, eL_law_486, eL_law_487, eL_law_488, eL_law_489, eL_law_490, eL_law_491, eL_law_494, eL_law_495, eL_law_496, eL_law_497, eL_law_498, eL_law_499, eL_law_500, eL_law_503, eL_law_506, eL_law_507, Nat.reduceLeDiff, Nat.reduceEqDiff, Nat.reduceAdd, if_true, if_false, b2i_T, b2i_F, and_self, and_false, false_and, true_and, and_true, true_or, or_true, false_or, or_false, or_self, not_true_eq_false, not_false_eq_true, eq_self, List.cons_append, List.nil_append]
  exact hQ A2 Z2 h3

theorem lw_c10 (hi : i + 6 ≤ G.1) (hG : G.1 ≤ 3072) (hop : okOp G c A Z mX3_take mX4_take [.int (G.2 (i + 1))]) (hQ : ∀ A' Z', Rel (c + 1) A' Z' → sx_ev G mL_law 1309 [some (.ref 60), some (.ref 0), some (.ref 39), some (.int (nI i))] [] A' Z' Q) : sx_ev G mL_law 508 [some (.ref 60), some (.ref 0), some (.ref 39), some (.int (nI i))] [] A Z Q := by
  have x1 : nI i + 1 = nI (i + 1) := nI_add i 1
  have a1 : ¬ nI (i + 1) < 0 := nI_pos (by omega)
  have k1 : (nI (i + 1)).toNatClampNeg = i + 1 := nI_clamp (by omega)
  have d1 : ¬ G.1 ≤ i + 1 := by omega
  unfold okOp at hop
  simp only [eL_law_508, eL_law_509, eL_law_510, eL_law_511, eL_law_512, eL_law_513, eL_law_514, eL_law_517, eL_law_518, eL_law_519, eL_law_520, eL_law_521, eL_law_522, eL_law_523, eL_law_526, eL_law_529, eL_law_530, kd_0, kd_60, an_60, rd_60, x1, a1, k1, d1, Nat.reduceLeDiff, Nat.reduceEqDiff, Nat.reduceAdd, if_true, if_false, b2i_T, b2i_F, and_self, and_false, false_and, true_and, and_true, true_or, or_true, false_or, or_false, or_self, not_true_eq_false, not_false_eq_true, eq_self, List.cons_append, List.nil_append]
  refine sx_call_mono hop (fun r A1 Z1 h1 => ?_)
  obtain ⟨v, rfl⟩ := okQ_ex h1
  simp only [eL_law_508, eL_law_509, eL_law_510, eL_law_511, eL_law_512, eL_law_513, eL_law_514, eL_law_517, eL_law_518, eL_law_519, eL_law_520, eL_law_521, eL_law_522, eL_law_523, eL_law_526, eL_law_529, eL_law_530, kd_39, kd_60, an_60, rd_60, x1, a1, k1, d1, Nat.reduceLeDiff, Nat.reduceEqDiff, Nat.reduceAdd, if_true, if_false, b2i_T, b2i_F, and_self, and_false, false_and, true_and, and_true, true_or, or_true, false_or, or_false, or_self, not_true_eq_false, not_false_eq_true, eq_self, List.cons_append, List.nil_append]
  refine sx_call_mono h1 (fun r2 A2 Z2 h2 => ?_)
  obtain ⟨rfl, -, h3⟩ := h2
  simp only [eL_law_508, eL_law_509, eL_law_510, eL_law_511, eL_law_512, eL_law_513, eL_law_514, eL_law_517, eL_law_518, eL_law_519, eL_law_520, eL_law_521, eL_law_522, eL_law_523, eL_law_526, eL_law_529, eL_law_530, Nat.reduceLeDiff, Nat.reduceEqDiff, Nat.reduceAdd, if_true, if_false, b2i_T, b2i_F, and_self, and_false, false_and, true_and, and_true, true_or, or_true, false_or, or_false, or_self, not_true_eq_false, not_false_eq_true, eq_self, List.cons_append, List.nil_append]
  exact hQ A2 Z2 h3

theorem lw_c11 (hi : i + 6 ≤ G.1) (hG : G.1 ≤ 3072) (hop : okOp G c A Z mX3_bag mX4_bag [.int (G.2 (i + 1))]) (hQ : ∀ A' Z', Rel (c + 1) A' Z' → sx_ev G mL_law 1309 [some (.ref 60), some (.ref 0), some (.ref 39), some (.int (nI i))] [] A' Z' Q) : sx_ev G mL_law 531 [some (.ref 60), some (.ref 0), some (.ref 39), some (.int (nI i))] [] A Z Q := by
  have x1 : nI i + 1 = nI (i + 1) := nI_add i 1
  have a1 : ¬ nI (i + 1) < 0 := nI_pos (by omega)
  have k1 : (nI (i + 1)).toNatClampNeg = i + 1 := nI_clamp (by omega)
  have d1 : ¬ G.1 ≤ i + 1 := by omega
  unfold okOp at hop
  simp only [eL_law_531, eL_law_532, eL_law_533, eL_law_534, eL_law_535, eL_law_536, eL_law_537, eL_law_540, eL_law_541, eL_law_542, eL_law_543, eL_law_544, eL_law_545, eL_law_546, eL_law_549, eL_law_552, eL_law_553, kd_0, kd_60, an_60, rd_60, x1, a1, k1, d1, Nat.reduceLeDiff, Nat.reduceEqDiff, Nat.reduceAdd, if_true, if_false, b2i_T, b2i_F, and_self, and_false, false_and, true_and, and_true, true_or, or_true, false_or, or_false, or_self, not_true_eq_false, not_false_eq_true, eq_self, List.cons_append, List.nil_append]
  refine sx_call_mono hop (fun r A1 Z1 h1 => ?_)
  obtain ⟨v, rfl⟩ := okQ_ex h1
  simp only [eL_law_531, eL_law_532, eL_law_533, eL_law_534, eL_law_535, eL_law_536, eL_law_537, eL_law_540, eL_law_541, eL_law_542, eL_law_543, eL_law_544, eL_law_545, eL_law_546, eL_law_549, eL_law_552, eL_law_553, kd_39, kd_60, an_60, rd_60, x1, a1, k1, d1, Nat.reduceLeDiff, Nat.reduceEqDiff, Nat.reduceAdd, if_true, if_false, b2i_T, b2i_F, and_self, and_false, false_and, true_and, and_true, true_or, or_true, false_or, or_false, or_self, not_true_eq_false, not_false_eq_true, eq_self, List.cons_append, List.nil_append]
  refine sx_call_mono h1 (fun r2 A2 Z2 h2 => ?_)
  obtain ⟨rfl, -, h3⟩ := h2
  simp only [eL_law_531, eL_law_532, eL_law_533, eL_law_534, eL_law_535, eL_law_536, eL_law_537, eL_law_540, eL_law_541, eL_law_542, eL_law_543, eL_law_544, eL_law_545, eL_law_546, eL_law_549, eL_law_552, eL_law_553, Nat.reduceLeDiff, Nat.reduceEqDiff, Nat.reduceAdd, if_true, if_false, b2i_T, b2i_F, and_self, and_false, false_and, true_and, and_true, true_or, or_true, false_or, or_false, or_self, not_true_eq_false, not_false_eq_true, eq_self, List.cons_append, List.nil_append]
  exact hQ A2 Z2 h3

theorem lw_c12 (hi : i + 6 ≤ G.1) (hG : G.1 ≤ 3072) (hop : okOp G c A Z mX3_minutes mX4_minutes [.int (G.2 (i + 1))]) (hQ : ∀ A' Z', Rel (c + 1) A' Z' → sx_ev G mL_law 1309 [some (.ref 60), some (.ref 0), some (.ref 39), some (.int (nI i))] [] A' Z' Q) : sx_ev G mL_law 554 [some (.ref 60), some (.ref 0), some (.ref 39), some (.int (nI i))] [] A Z Q := by
  have x1 : nI i + 1 = nI (i + 1) := nI_add i 1
  have a1 : ¬ nI (i + 1) < 0 := nI_pos (by omega)
  have k1 : (nI (i + 1)).toNatClampNeg = i + 1 := nI_clamp (by omega)
  have d1 : ¬ G.1 ≤ i + 1 := by omega
  unfold okOp at hop
  simp only [eL_law_554, eL_law_555, eL_law_556, eL_law_557, eL_law_558, eL_law_559, eL_law_560, eL_law_563, eL_law_564, eL_law_565, eL_law_566, eL_law_567, eL_law_568, eL_law_569, eL_law_572, eL_law_575, eL_law_576, kd_0, kd_60, an_60, rd_60, x1, a1, k1, d1, Nat.reduceLeDiff, Nat.reduceEqDiff, Nat.reduceAdd, if_true, if_false, b2i_T, b2i_F, and_self, and_false, false_and, true_and, and_true, true_or, or_true, false_or, or_false, or_self, not_true_eq_false, not_false_eq_true, eq_self, List.cons_append, List.nil_append]
  refine sx_call_mono hop (fun r A1 Z1 h1 => ?_)
  obtain ⟨v, rfl⟩ := okQ_ex h1
  simp only [eL_law_554, eL_law_555, eL_law_556, eL_law_557, eL_law_558, eL_law_559, eL_law_560, eL_law_563, eL_law_564, eL_law_565, eL_law_566, eL_law_567, eL_law_568, eL_law_569, eL_law_572, eL_law_575, eL_law_576, kd_39, kd_60, an_60, rd_60, x1, a1, k1, d1, Nat.reduceLeDiff, Nat.reduceEqDiff, Nat.reduceAdd, if_true, if_false, b2i_T, b2i_F, and_self, and_false, false_and, true_and, and_true, true_or, or_true, false_or, or_false, or_self, not_true_eq_false, not_false_eq_true, eq_self, List.cons_append, List.nil_append]
  refine sx_call_mono h1 (fun r2 A2 Z2 h2 => ?_)
  obtain ⟨rfl, -, h3⟩ := h2
  simp only [eL_law_554, eL_law_555, eL_law_556, eL_law_557, eL_law_558, eL_law_559, eL_law_560, eL_law_563, eL_law_564, eL_law_565, eL_law_566, eL_law_567, eL_law_568, eL_law_569, eL_law_572, eL_law_575, eL_law_576, Nat.reduceLeDiff, Nat.reduceEqDiff, Nat.reduceAdd, if_true, if_false, b2i_T, b2i_F, and_self, and_false, false_and, true_and, and_true, true_or, or_true, false_or, or_false, or_self, not_true_eq_false, not_false_eq_true, eq_self, List.cons_append, List.nil_append]
  exact hQ A2 Z2 h3

theorem lw_c13 (hi : i + 6 ≤ G.1) (hG : G.1 ≤ 3072) (hop : okOp G c A Z mX3_now mX4_now [.int (G.2 (i + 1))]) (hQ : ∀ A' Z', Rel (c + 1) A' Z' → sx_ev G mL_law 1309 [some (.ref 60), some (.ref 0), some (.ref 39), some (.int (nI i))] [] A' Z' Q) : sx_ev G mL_law 577 [some (.ref 60), some (.ref 0), some (.ref 39), some (.int (nI i))] [] A Z Q := by
  have x1 : nI i + 1 = nI (i + 1) := nI_add i 1
  have a1 : ¬ nI (i + 1) < 0 := nI_pos (by omega)
  have k1 : (nI (i + 1)).toNatClampNeg = i + 1 := nI_clamp (by omega)
  have d1 : ¬ G.1 ≤ i + 1 := by omega
  unfold okOp at hop
  simp only [eL_law_577, eL_law_578, eL_law_579, eL_law_580, eL_law_581, eL_law_582, eL_law_583, eL_law_586, eL_law_587, eL_law_588, eL_law_589, eL_law_590, eL_law_591, eL_law_592, eL_law_595, eL_law_598, eL_law_599, kd_0, kd_60, an_60, rd_60, x1, a1, k1, d1, Nat.reduceLeDiff, Nat.reduceEqDiff, Nat.reduceAdd, if_true, if_false, b2i_T, b2i_F, and_self, and_false, false_and, true_and, and_true, true_or, or_true, false_or, or_false, or_self, not_true_eq_false, not_false_eq_true, eq_self, List.cons_append, List.nil_append]
  refine sx_call_mono hop (fun r A1 Z1 h1 => ?_)
  obtain ⟨v, rfl⟩ := okQ_ex h1
  simp only [eL_law_577, eL_law_578, eL_law_579, eL_law_580, eL_law_581, eL_law_582, eL_law_583, eL_law_586, eL_law_587, eL_law_588, eL_law_589, eL_law_590, eL_law_591, eL_law_592, eL_law_595, eL_law_598, eL_law_599, kd_39, kd_60, an_60, rd_60, x1, a1, k1, d1, Nat.reduceLeDiff, Nat.reduceEqDiff, Nat.reduceAdd, if_true, if_false, b2i_T, b2i_F, and_self, and_false, false_and, true_and, and_true, true_or, or_true, false_or, or_false, or_self, not_true_eq_false, not_false_eq_true, eq_self, List.cons_append, List.nil_append]
  refine sx_call_mono h1 (fun r2 A2 Z2 h2 => ?_)
  obtain ⟨rfl, -, h3⟩ := h2
  simp only [eL_law_577, eL_law_578, eL_law_579, eL_law_580, eL_law_581, eL_law_582, eL_law_583, eL_law_586, eL_law_587, eL_law_588, eL_law_589, eL_law_590, eL_law_591, eL_law_592, eL_law_595, eL_law_598, eL_law_599, Nat.reduceLeDiff, Nat.reduceEqDiff, Nat.reduceAdd, if_true, if_false, b2i_T, b2i_F, and_self, and_false, false_and, true_and, and_true, true_or, or_true, false_or, or_false, or_self, not_true_eq_false, not_false_eq_true, eq_self, List.cons_append, List.nil_append]
  exact hQ A2 Z2 h3

theorem lw_c14 (hi : i + 6 ≤ G.1) (hG : G.1 ≤ 3072) (hop : okOp G c A Z mX3_on mX4_on [.int (G.2 (i + 1)), .int (G.2 (i + 2)), .int (G.2 (i + 3))]) (hQ : ∀ A' Z', Rel (c + 1) A' Z' → sx_ev G mL_law 1309 [some (.ref 60), some (.ref 0), some (.ref 39), some (.int (nI i))] [] A' Z' Q) : sx_ev G mL_law 600 [some (.ref 60), some (.ref 0), some (.ref 39), some (.int (nI i))] [] A Z Q := by
  have x1 : nI i + 1 = nI (i + 1) := nI_add i 1
  have a1 : ¬ nI (i + 1) < 0 := nI_pos (by omega)
  have k1 : (nI (i + 1)).toNatClampNeg = i + 1 := nI_clamp (by omega)
  have d1 : ¬ G.1 ≤ i + 1 := by omega
  have x2 : nI i + 2 = nI (i + 2) := nI_add i 2
  have a2 : ¬ nI (i + 2) < 0 := nI_pos (by omega)
  have k2 : (nI (i + 2)).toNatClampNeg = i + 2 := nI_clamp (by omega)
  have d2 : ¬ G.1 ≤ i + 2 := by omega
  have x3 : nI i + 3 = nI (i + 3) := nI_add i 3
  have a3 : ¬ nI (i + 3) < 0 := nI_pos (by omega)
  have k3 : (nI (i + 3)).toNatClampNeg = i + 3 := nI_clamp (by omega)
  have d3 : ¬ G.1 ≤ i + 3 := by omega
  unfold okOp at hop
  simp only [eL_law_600, eL_law_601, eL_law_602, eL_law_603, eL_law_604, eL_law_605, eL_law_606, eL_law_607, eL_law_608, eL_law_609, eL_law_610, eL_law_611, eL_law_612, eL_law_613, eL_law_614, eL_law_615, eL_law_616, eL_law_619, eL_law_620, eL_law_621, eL_law_622, eL_law_623, eL_law_624, eL_law_625, eL_law_626, eL_law_627, eL_law_628, eL_law_629, eL_law_630, eL_law_631, eL_law_632, eL_law_633, eL_law_634, eL_law_635, eL_law_638, eL_law_641, eL_law_642, kd_0, kd_60, an_60, rd_60, x1, a1, k1, d1, x2, a2, k2, d2, x3, a3, k3, d3, Nat.reduceLeDiff, Nat.reduceEqDiff, Nat.reduceAdd, if_true, if_false, b2i_T, b2i_F, and_self, and_false, false_and, true_and, and_true, true_or, or_true, false_or, or_false, or_self, not_true_eq_false, not_false_eq_true, eq_self, List.cons_append, List.nil_append]
  refine sx_call_mono hop (fun r A1 Z1 h1 => ?_)
  obtain ⟨v, rfl⟩ := okQ_ex h1
  simp only [eL_law_600, eL_law_601, eL_law_602, eL_law_603, eL_law_604, eL_law_605, eL_law_606, eL_law_607, eL_law_608, eL_law_609, eL_law_610, eL_law_611, eL_law_612, eL_law_613, eL_law_614, eL_law_615, eL_law_616, eL_law_619, eL_law_620, eL_law_621, eL_law_622, eL_law_623, eL_law_624, eL_law_625, eL_law_626, eL_law_627, eL_law_628, eL_law_629, eL_law_630, eL_law_631, eL_law_632, eL_law_633, eL_law_634, eL_law_635, eL_law_638, eL_law_641, eL_law_642, kd_39, kd_60, an_60, rd_60, x1, a1, k1, d1, x2, a2, k2, d2, x3, a3, k3, d3, Nat.reduceLeDiff, Nat.reduceEqDiff, Nat.reduceAdd, if_true, if_false, b2i_T, b2i_F, and_self, and_false, false_and, true_and, and_true, true_or, or_true, false_or, or_false, or_self, not_true_eq_false, not_false_eq_true, eq_self, List.cons_append, List.nil_append]
  refine sx_call_mono h1 (fun r2 A2 Z2 h2 => ?_)
  obtain ⟨rfl, -, h3⟩ := h2
  simp only [eL_law_600, eL_law_601, eL_law_602, eL_law_603, eL_law_604, eL_law_605, eL_law_606, eL_law_607, eL_law_608, eL_law_609, eL_law_610, eL_law_611, eL_law_612, eL_law_613, eL_law_614, eL_law_615, eL_law_616, eL_law_619, eL_law_620, eL_law_621, eL_law_622, eL_law_623, eL_law_624, eL_law_625, eL_law_626, eL_law_627, eL_law_628, eL_law_629, eL_law_630, eL_law_631, eL_law_632, eL_law_633, eL_law_634, eL_law_635, eL_law_638, eL_law_641, eL_law_642, Nat.reduceLeDiff, Nat.reduceEqDiff, Nat.reduceAdd, if_true, if_false, b2i_T, b2i_F, and_self, and_false, false_and, true_and, and_true, true_or, or_true, false_or, or_false, or_self, not_true_eq_false, not_false_eq_true, eq_self, List.cons_append, List.nil_append]
  exact hQ A2 Z2 h3

theorem lw_c15 (hi : i + 6 ≤ G.1) (hG : G.1 ≤ 3072) (hop : okOp G c A Z mX3_tilt mX4_tilt [.int (G.2 (i + 1))]) (hQ : ∀ A' Z', Rel (c + 1) A' Z' → sx_ev G mL_law 1309 [some (.ref 60), some (.ref 0), some (.ref 39), some (.int (nI i))] [] A' Z' Q) : sx_ev G mL_law 643 [some (.ref 60), some (.ref 0), some (.ref 39), some (.int (nI i))] [] A Z Q := by
  have x1 : nI i + 1 = nI (i + 1) := nI_add i 1
  have a1 : ¬ nI (i + 1) < 0 := nI_pos (by omega)
  have k1 : (nI (i + 1)).toNatClampNeg = i + 1 := nI_clamp (by omega)
  have d1 : ¬ G.1 ≤ i + 1 := by omega
  unfold okOp at hop
  simp only [eL_law_643, eL_law_644, eL_law_645, eL_law_646, eL_law_647, eL_law_648, eL_law_649, eL_law_652, eL_law_653, eL_law_654, eL_law_655, eL_law_656, eL_law_657, eL_law_658, eL_law_661, eL_law_664, eL_law_665, kd_0, kd_60, an_60, rd_60, x1, a1, k1, d1, Nat.reduceLeDiff, Nat.reduceEqDiff, Nat.reduceAdd, if_true, if_false, b2i_T, b2i_F, and_self, and_false, false_and, true_and, and_true, true_or, or_true, false_or, or_false, or_self, not_true_eq_false, not_false_eq_true, eq_self, List.cons_append, List.nil_append]
  refine sx_call_mono hop (fun r A1 Z1 h1 => ?_)
  obtain ⟨v, rfl⟩ := okQ_ex h1
  simp only [eL_law_643, eL_law_644, eL_law_645, eL_law_646, eL_law_647, eL_law_648, eL_law_649, eL_law_652, eL_law_653, eL_law_654, eL_law_655, eL_law_656, eL_law_657, eL_law_658, eL_law_661, eL_law_664, eL_law_665, kd_39, kd_60, an_60, rd_60, x1, a1, k1, d1, Nat.reduceLeDiff, Nat.reduceEqDiff, Nat.reduceAdd, if_true, if_false, b2i_T, b2i_F, and_self, and_false, false_and, true_and, and_true, true_or, or_true, false_or, or_false, or_self, not_true_eq_false, not_false_eq_true, eq_self, List.cons_append, List.nil_append]
  refine sx_call_mono h1 (fun r2 A2 Z2 h2 => ?_)
  obtain ⟨rfl, -, h3⟩ := h2
  simp only [eL_law_643, eL_law_644, eL_law_645, eL_law_646, eL_law_647, eL_law_648, eL_law_649, eL_law_652, eL_law_653, eL_law_654, eL_law_655, eL_law_656, eL_law_657, eL_law_658, eL_law_661, eL_law_664, eL_law_665, Nat.reduceLeDiff, Nat.reduceEqDiff, Nat.reduceAdd, if_true, if_false, b2i_T, b2i_F, and_self, and_false, false_and, true_and, and_true, true_or, or_true, false_or, or_false, or_self, not_true_eq_false, not_false_eq_true, eq_self, List.cons_append, List.nil_append]
  exact hQ A2 Z2 h3

theorem lw_c16 (hi : i + 6 ≤ G.1) (hG : G.1 ≤ 3072) (hop : okOp G c A Z mX3_level mX4_level []) (hQ : ∀ A' Z', Rel (c + 1) A' Z' → sx_ev G mL_law 1309 [some (.ref 60), some (.ref 0), some (.ref 39), some (.int (nI i))] [] A' Z' Q) : sx_ev G mL_law 666 [some (.ref 60), some (.ref 0), some (.ref 39), some (.int (nI i))] [] A Z Q := by
  unfold okOp at hop
  simp only [eL_law_666, eL_law_667, eL_law_670, eL_law_671, eL_law_674, eL_law_677, eL_law_678, kd_0, kd_60, an_60, rd_60, Nat.reduceLeDiff, Nat.reduceEqDiff, Nat.reduceAdd, if_true, if_false, b2i_T, b2i_F, and_self, and_false, false_and, true_and, and_true, true_or, or_true, false_or, or_false, or_self, not_true_eq_false, not_false_eq_true, eq_self, List.cons_append, List.nil_append]
  refine sx_call_mono hop (fun r A1 Z1 h1 => ?_)
  obtain ⟨v, rfl⟩ := okQ_ex h1
  simp only [eL_law_666, eL_law_667, eL_law_670, eL_law_671, eL_law_674, eL_law_677, eL_law_678, kd_39, kd_60, an_60, rd_60, Nat.reduceLeDiff, Nat.reduceEqDiff, Nat.reduceAdd, if_true, if_false, b2i_T, b2i_F, and_self, and_false, false_and, true_and, and_true, true_or, or_true, false_or, or_false, or_self, not_true_eq_false, not_false_eq_true, eq_self, List.cons_append, List.nil_append]
  refine sx_call_mono h1 (fun r2 A2 Z2 h2 => ?_)
  obtain ⟨rfl, -, h3⟩ := h2
  simp only [eL_law_666, eL_law_667, eL_law_670, eL_law_671, eL_law_674, eL_law_677, eL_law_678, Nat.reduceLeDiff, Nat.reduceEqDiff, Nat.reduceAdd, if_true, if_false, b2i_T, b2i_F, and_self, and_false, false_and, true_and, and_true, true_or, or_true, false_or, or_false, or_self, not_true_eq_false, not_false_eq_true, eq_self, List.cons_append, List.nil_append]
  exact hQ A2 Z2 h3

theorem lw_c17 (hi : i + 6 ≤ G.1) (hG : G.1 ≤ 3072) (hop : okOp G c A Z mX3_mixed mX4_mixed [.int (G.2 (i + 1))]) (hQ : ∀ A' Z', Rel (c + 1) A' Z' → sx_ev G mL_law 1309 [some (.ref 60), some (.ref 0), some (.ref 39), some (.int (nI i))] [] A' Z' Q) : sx_ev G mL_law 679 [some (.ref 60), some (.ref 0), some (.ref 39), some (.int (nI i))] [] A Z Q := by
  have x1 : nI i + 1 = nI (i + 1) := nI_add i 1
  have a1 : ¬ nI (i + 1) < 0 := nI_pos (by omega)
  have k1 : (nI (i + 1)).toNatClampNeg = i + 1 := nI_clamp (by omega)
  have d1 : ¬ G.1 ≤ i + 1 := by omega
  unfold okOp at hop
  simp only [eL_law_679, eL_law_680, eL_law_681, eL_law_682, eL_law_683, eL_law_684, eL_law_685, eL_law_688, eL_law_689, eL_law_690, eL_law_691, eL_law_692, eL_law_693, eL_law_694, eL_law_697, eL_law_700, eL_law_701, kd_0, kd_60, an_60, rd_60, x1, a1, k1, d1, Nat.reduceLeDiff, Nat.reduceEqDiff, Nat.reduceAdd, if_true, if_false, b2i_T, b2i_F, and_self, and_false, false_and, true_and, and_true, true_or, or_true, false_or, or_false, or_self, not_true_eq_false, not_false_eq_true, eq_self, List.cons_append, List.nil_append]
  refine sx_call_mono hop (fun r A1 Z1 h1 => ?_)
  obtain ⟨v, rfl⟩ := okQ_ex h1
  simp only [eL_law_679, eL_law_680, eL_law_681, eL_law_682, eL_law_683, eL_law_684, eL_law_685, eL_law_688, eL_law_689, eL_law_690, eL_law_691, eL_law_692, eL_law_693, eL_law_694, eL_law_697, eL_law_700, eL_law_701, kd_39, kd_60, an_60, rd_60, x1, a1, k1, d1, Nat.reduceLeDiff, Nat.reduceEqDiff, Nat.reduceAdd, if_true, if_false, b2i_T, b2i_F, and_self, and_false, false_and, true_and, and_true, true_or, or_true, false_or, or_false, or_self, not_true_eq_false, not_false_eq_true, eq_self, List.cons_append, List.nil_append]
  refine sx_call_mono h1 (fun r2 A2 Z2 h2 => ?_)
  obtain ⟨rfl, -, h3⟩ := h2
  simp only [eL_law_679, eL_law_680, eL_law_681, eL_law_682, eL_law_683, eL_law_684, eL_law_685, eL_law_688, eL_law_689, eL_law_690, eL_law_691, eL_law_692, eL_law_693, eL_law_694, eL_law_697, eL_law_700, eL_law_701, Nat.reduceLeDiff, Nat.reduceEqDiff, Nat.reduceAdd, if_true, if_false, b2i_T, b2i_F, and_self, and_false, false_and, true_and, and_true, true_or, or_true, false_or, or_false, or_self, not_true_eq_false, not_false_eq_true, eq_self, List.cons_append, List.nil_append]
  exact hQ A2 Z2 h3

theorem lw_c18 (hi : i + 6 ≤ G.1) (hG : G.1 ≤ 3072) (hop : okOp G c A Z mX3_match mX4_match [.int (G.2 (i + 1))]) (hQ : ∀ A' Z', Rel (c + 1) A' Z' → sx_ev G mL_law 1309 [some (.ref 60), some (.ref 0), some (.ref 39), some (.int (nI i))] [] A' Z' Q) : sx_ev G mL_law 702 [some (.ref 60), some (.ref 0), some (.ref 39), some (.int (nI i))] [] A Z Q := by
  have x1 : nI i + 1 = nI (i + 1) := nI_add i 1
  have a1 : ¬ nI (i + 1) < 0 := nI_pos (by omega)
  have k1 : (nI (i + 1)).toNatClampNeg = i + 1 := nI_clamp (by omega)
  have d1 : ¬ G.1 ≤ i + 1 := by omega
  unfold okOp at hop
  simp only [eL_law_702, eL_law_703, eL_law_704, eL_law_705, eL_law_706, eL_law_707, eL_law_708, eL_law_711, eL_law_712, eL_law_713, eL_law_714, eL_law_715, eL_law_716, eL_law_717, eL_law_720, eL_law_723, eL_law_724, kd_0, kd_60, an_60, rd_60, x1, a1, k1, d1, Nat.reduceLeDiff, Nat.reduceEqDiff, Nat.reduceAdd, if_true, if_false, b2i_T, b2i_F, and_self, and_false, false_and, true_and, and_true, true_or, or_true, false_or, or_false, or_self, not_true_eq_false, not_false_eq_true, eq_self, List.cons_append, List.nil_append]
  refine sx_call_mono hop (fun r A1 Z1 h1 => ?_)
  obtain ⟨v, rfl⟩ := okQ_ex h1
  simp only [eL_law_702, eL_law_703, eL_law_704, eL_law_705, eL_law_706, eL_law_707, eL_law_708, eL_law_711, eL_law_712, eL_law_713, eL_law_714, eL_law_715, eL_law_716, eL_law_717, eL_law_720, eL_law_723, eL_law_724, kd_39, kd_60, an_60, rd_60, x1, a1, k1, d1, Nat.reduceLeDiff, Nat.reduceEqDiff, Nat.reduceAdd, if_true, if_false, b2i_T, b2i_F, and_self, and_false, false_and, true_and, and_true, true_or, or_true, false_or, or_false, or_self, not_true_eq_false, not_false_eq_true, eq_self, List.cons_append, List.nil_append]
  refine sx_call_mono h1 (fun r2 A2 Z2 h2 => ?_)
  obtain ⟨rfl, -, h3⟩ := h2
  simp only [eL_law_702, eL_law_703, eL_law_704, eL_law_705, eL_law_706, eL_law_707, eL_law_708, eL_law_711, eL_law_712, eL_law_713, eL_law_714, eL_law_715, eL_law_716, eL_law_717, eL_law_720, eL_law_723, eL_law_724, Nat.reduceLeDiff, Nat.reduceEqDiff, Nat.reduceAdd, if_true, if_false, b2i_T, b2i_F, and_self, and_false, false_and, true_and, and_true, true_or, or_true, false_or, or_false, or_self, not_true_eq_false, not_false_eq_true, eq_self, List.cons_append, List.nil_append]
  exact hQ A2 Z2 h3

theorem lw_c19 (hi : i + 6 ≤ G.1) (hG : G.1 ≤ 3072) (hop : okOp G c A Z mX3_seats mX4_seats []) (hQ : ∀ A' Z', Rel (c + 1) A' Z' → sx_ev G mL_law 1309 [some (.ref 60), some (.ref 0), some (.ref 39), some (.int (nI i))] [] A' Z' Q) : sx_ev G mL_law 725 [some (.ref 60), some (.ref 0), some (.ref 39), some (.int (nI i))] [] A Z Q := by
  unfold okOp at hop
  simp only [eL_law_725, eL_law_726, eL_law_729, eL_law_730, eL_law_733, eL_law_736, eL_law_737, kd_0, kd_60, an_60, rd_60, Nat.reduceLeDiff, Nat.reduceEqDiff, Nat.reduceAdd, if_true, if_false, b2i_T, b2i_F, and_self, and_false, false_and, true_and, and_true, true_or, or_true, false_or, or_false, or_self, not_true_eq_false, not_false_eq_true, eq_self, List.cons_append, List.nil_append]
  refine sx_call_mono hop (fun r A1 Z1 h1 => ?_)
  obtain ⟨v, rfl⟩ := okQ_ex h1
  simp only [eL_law_725, eL_law_726, eL_law_729, eL_law_730, eL_law_733, eL_law_736, eL_law_737, kd_39, kd_60, an_60, rd_60, Nat.reduceLeDiff, Nat.reduceEqDiff, Nat.reduceAdd, if_true, if_false, b2i_T, b2i_F, and_self, and_false, false_and, true_and, and_true, true_or, or_true, false_or, or_false, or_self, not_true_eq_false, not_false_eq_true, eq_self, List.cons_append, List.nil_append]
  refine sx_call_mono h1 (fun r2 A2 Z2 h2 => ?_)
  obtain ⟨rfl, -, h3⟩ := h2
  simp only [eL_law_725, eL_law_726, eL_law_729, eL_law_730, eL_law_733, eL_law_736, eL_law_737, Nat.reduceLeDiff, Nat.reduceEqDiff, Nat.reduceAdd, if_true, if_false, b2i_T, b2i_F, and_self, and_false, false_and, true_and, and_true, true_or, or_true, false_or, or_false, or_self, not_true_eq_false, not_false_eq_true, eq_self, List.cons_append, List.nil_append]
  exact hQ A2 Z2 h3

theorem lw_c20 (hi : i + 6 ≤ G.1) (hG : G.1 ≤ 3072) (hop : okOp G c A Z mX3_weights mX4_weights []) (hQ : ∀ A' Z', Rel (c + 1) A' Z' → sx_ev G mL_law 1309 [some (.ref 60), some (.ref 0), some (.ref 39), some (.int (nI i))] [] A' Z' Q) : sx_ev G mL_law 738 [some (.ref 60), some (.ref 0), some (.ref 39), some (.int (nI i))] [] A Z Q := by
  unfold okOp at hop
  simp only [eL_law_738, eL_law_739, eL_law_742, eL_law_743, eL_law_746, eL_law_749, eL_law_750, kd_0, kd_60, an_60, rd_60, Nat.reduceLeDiff, Nat.reduceEqDiff, Nat.reduceAdd, if_true, if_false, b2i_T, b2i_F, and_self, and_false, false_and, true_and, and_true, true_or, or_true, false_or, or_false, or_self, not_true_eq_false, not_false_eq_true, eq_self, List.cons_append, List.nil_append]
  refine sx_call_mono hop (fun r A1 Z1 h1 => ?_)
  obtain ⟨v, rfl⟩ := okQ_ex h1
  simp only [eL_law_738, eL_law_739, eL_law_742, eL_law_743, eL_law_746, eL_law_749, eL_law_750, kd_39, kd_60, an_60, rd_60, Nat.reduceLeDiff, Nat.reduceEqDiff, Nat.reduceAdd, if_true, if_false, b2i_T, b2i_F, and_self, and_false, false_and, true_and, and_true, true_or, or_true, false_or, or_false, or_self, not_true_eq_false, not_false_eq_true, eq_self, List.cons_append, List.nil_append]
  refine sx_call_mono h1 (fun r2 A2 Z2 h2 => ?_)
  obtain ⟨rfl, -, h3⟩ := h2
  simp only [eL_law_738, eL_law_739, eL_law_742, eL_law_743, eL_law_746, eL_law_749, eL_law_750, Nat.reduceLeDiff, Nat.reduceEqDiff, Nat.reduceAdd, if_true, if_false, b2i_T, b2i_F, and_self, and_false, false_and, true_and, and_true, true_or, or_true, false_or, or_false, or_self, not_true_eq_false, not_false_eq_true, eq_self, List.cons_append, List.nil_append]
  exact hQ A2 Z2 h3

theorem lw_c21 (hi : i + 6 ≤ G.1) (hG : G.1 ≤ 3072) (hop : okOp G c A Z mX3_sorrow mX4_sorrow [.int (G.2 (i + 1))]) (hQ : ∀ A' Z', Rel (c + 1) A' Z' → sx_ev G mL_law 1309 [some (.ref 60), some (.ref 0), some (.ref 39), some (.int (nI i))] [] A' Z' Q) : sx_ev G mL_law 751 [some (.ref 60), some (.ref 0), some (.ref 39), some (.int (nI i))] [] A Z Q := by
  have x1 : nI i + 1 = nI (i + 1) := nI_add i 1
  have a1 : ¬ nI (i + 1) < 0 := nI_pos (by omega)
  have k1 : (nI (i + 1)).toNatClampNeg = i + 1 := nI_clamp (by omega)
  have d1 : ¬ G.1 ≤ i + 1 := by omega
  unfold okOp at hop
  simp only [eL_law_751, eL_law_752, eL_law_753, eL_law_754, eL_law_755, eL_law_756, eL_law_757, eL_law_760, eL_law_761, eL_law_762, eL_law_763, eL_law_764, eL_law_765, eL_law_766, eL_law_769, eL_law_772, eL_law_773, kd_0, kd_60, an_60, rd_60, x1, a1, k1, d1, Nat.reduceLeDiff, Nat.reduceEqDiff, Nat.reduceAdd, if_true, if_false, b2i_T, b2i_F, and_self, and_false, false_and, true_and, and_true, true_or, or_true, false_or, or_false, or_self, not_true_eq_false, not_false_eq_true, eq_self, List.cons_append, List.nil_append]
  refine sx_call_mono hop (fun r A1 Z1 h1 => ?_)
  obtain ⟨v, rfl⟩ := okQ_ex h1
  simp only [eL_law_751, eL_law_752, eL_law_753, eL_law_754, eL_law_755, eL_law_756, eL_law_757, eL_law_760, eL_law_761, eL_law_762, eL_law_763, eL_law_764, eL_law_765, eL_law_766, eL_law_769, eL_law_772, eL_law_773, kd_39, kd_60, an_60, rd_60, x1, a1, k1, d1, Nat.reduceLeDiff, Nat.reduceEqDiff, Nat.reduceAdd, if_true, if_false, b2i_T, b2i_F, and_self, and_false, false_and, true_and, and_true, true_or, or_true, false_or, or_false, or_self, not_true_eq_false, not_false_eq_true, eq_self, List.cons_append, List.nil_append]
  refine sx_call_mono h1 (fun r2 A2 Z2 h2 => ?_)
  obtain ⟨rfl, -, h3⟩ := h2
  simp only [eL_law_751, eL_law_752, eL_law_753, eL_law_754, eL_law_755, eL_law_756, eL_law_757, eL_law_760, eL_law_761, eL_law_762, eL_law_763, eL_law_764, eL_law_765, eL_law_766, eL_law_769, eL_law_772, eL_law_773, Nat.reduceLeDiff, Nat.reduceEqDiff, Nat.reduceAdd, if_true, if_false, b2i_T, b2i_F, and_self, and_false, false_and, true_and, and_true, true_or, or_true, false_or, or_false, or_self, not_true_eq_false, not_false_eq_true, eq_self, List.cons_append, List.nil_append]
  exact hQ A2 Z2 h3

theorem lw_c22 (hi : i + 6 ≤ G.1) (hG : G.1 ≤ 3072) (hop : okOp G c A Z mX3_kind mX4_kind [.int (G.2 (i + 1))]) (hQ : ∀ A' Z', Rel (c + 1) A' Z' → sx_ev G mL_law 1309 [some (.ref 60), some (.ref 0), some (.ref 39), some (.int (nI i))] [] A' Z' Q) : sx_ev G mL_law 774 [some (.ref 60), some (.ref 0), some (.ref 39), some (.int (nI i))] [] A Z Q := by
  have x1 : nI i + 1 = nI (i + 1) := nI_add i 1
  have a1 : ¬ nI (i + 1) < 0 := nI_pos (by omega)
  have k1 : (nI (i + 1)).toNatClampNeg = i + 1 := nI_clamp (by omega)
  have d1 : ¬ G.1 ≤ i + 1 := by omega
  unfold okOp at hop
  simp only [eL_law_774, eL_law_775, eL_law_776, eL_law_777, eL_law_778, eL_law_779, eL_law_780, eL_law_783, eL_law_784, eL_law_785, eL_law_786, eL_law_787, eL_law_788, eL_law_789, eL_law_792, eL_law_795, eL_law_796, kd_0, kd_60, an_60, rd_60, x1, a1, k1, d1, Nat.reduceLeDiff, Nat.reduceEqDiff, Nat.reduceAdd, if_true, if_false, b2i_T, b2i_F, and_self, and_false, false_and, true_and, and_true, true_or, or_true, false_or, or_false, or_self, not_true_eq_false, not_false_eq_true, eq_self, List.cons_append, List.nil_append]
  refine sx_call_mono hop (fun r A1 Z1 h1 => ?_)
  obtain ⟨v, rfl⟩ := okQ_ex h1
  simp only [eL_law_774, eL_law_775, eL_law_776, eL_law_777, eL_law_778, eL_law_779, eL_law_780, eL_law_783, eL_law_784, eL_law_785, eL_law_786, eL_law_787, eL_law_788, eL_law_789, eL_law_792, eL_law_795, eL_law_796, kd_39, kd_60, an_60, rd_60, x1, a1, k1, d1, Nat.reduceLeDiff, Nat.reduceEqDiff, Nat.reduceAdd, if_true, if_false, b2i_T, b2i_F, and_self, and_false, false_and, true_and, and_true, true_or, or_true, false_or, or_false, or_self, not_true_eq_false, not_false_eq_true, eq_self, List.cons_append, List.nil_append]
  refine sx_call_mono h1 (fun r2 A2 Z2 h2 => ?_)
  obtain ⟨rfl, -, h3⟩ := h2
  simp only [eL_law_774, eL_law_775, eL_law_776, eL_law_777, eL_law_778, eL_law_779, eL_law_780, eL_law_783, eL_law_784, eL_law_785, eL_law_786, eL_law_787, eL_law_788, eL_law_789, eL_law_792, eL_law_795, eL_law_796, Nat.reduceLeDiff, Nat.reduceEqDiff, Nat.reduceAdd, if_true, if_false, b2i_T, b2i_F, and_self, and_false, false_and, true_and, and_true, true_or, or_true, false_or, or_false, or_self, not_true_eq_false, not_false_eq_true, eq_self, List.cons_append, List.nil_append]
  exact hQ A2 Z2 h3

theorem lw_c23 (hi : i + 6 ≤ G.1) (hG : G.1 ≤ 3072) (hop : okOp G c A Z mX3_delay mX4_delay [.int (G.2 (i + 1)), .int (G.2 (i + 2)), .int (G.2 (i + 3))]) (hQ : ∀ A' Z', Rel (c + 1) A' Z' → sx_ev G mL_law 1309 [some (.ref 60), some (.ref 0), some (.ref 39), some (.int (nI i))] [] A' Z' Q) : sx_ev G mL_law 797 [some (.ref 60), some (.ref 0), some (.ref 39), some (.int (nI i))] [] A Z Q := by
  have x1 : nI i + 1 = nI (i + 1) := nI_add i 1
  have a1 : ¬ nI (i + 1) < 0 := nI_pos (by omega)
  have k1 : (nI (i + 1)).toNatClampNeg = i + 1 := nI_clamp (by omega)
  have d1 : ¬ G.1 ≤ i + 1 := by omega
  have x2 : nI i + 2 = nI (i + 2) := nI_add i 2
  have a2 : ¬ nI (i + 2) < 0 := nI_pos (by omega)
  have k2 : (nI (i + 2)).toNatClampNeg = i + 2 := nI_clamp (by omega)
  have d2 : ¬ G.1 ≤ i + 2 := by omega
  have x3 : nI i + 3 = nI (i + 3) := nI_add i 3
  have a3 : ¬ nI (i + 3) < 0 := nI_pos (by omega)
  have k3 : (nI (i + 3)).toNatClampNeg = i + 3 := nI_clamp (by omega)
  have d3 : ¬ G.1 ≤ i + 3 := by omega
  unfold okOp at hop
  simp only [eL_law_797, eL_law_798, eL_law_799, eL_law_800, eL_law_801, eL_law_802, eL_law_803, eL_law_804, eL_law_805, eL_law_806, eL_law_807, eL_law_808, eL_law_809, eL_law_810, eL_law_811, eL_law_812, eL_law_813, eL_law_816, eL_law_817, eL_law_818, eL_law_819, eL_law_820, eL_law_821, eL_law_822, eL_law_823, eL_law_824, eL_law_825, eL_law_826, eL_law_827, eL_law_828, eL_law_829, eL_law_830, eL_law_831, eL_law_832, eL_law_835, eL_law_838, eL_law_839, kd_0, kd_60, an_60, rd_60, x1, a1, k1, d1, x2, a2, k2, d2, x3, a3, k3, d3, Nat.reduceLeDiff, Nat.reduceEqDiff, Nat.reduceAdd, if_true, if_false, b2i_T, b2i_F, and_self, and_false, false_and, true_and, and_true, true_or, or_true, false_or, or_false, or_self, not_true_eq_false, not_false_eq_true, eq_self, List.cons_append, List.nil_append]
  refine sx_call_mono hop (fun r A1 Z1 h1 => ?_)
  obtain ⟨v, rfl⟩ := okQ_ex h1
  simp only [eL_law_797, eL_law_798, eL_law_799, eL_law_800, eL_law_801, eL_law_802, eL_law_803, eL_law_804, eL_law_805, eL_law_806, eL_law_807, eL_law_808, eL_law_809, eL_law_810, eL_law_811, eL_law_812, eL_law_813, eL_law_816, eL_law_817, eL_law_818, eL_law_819, eL_law_820, eL_law_821, eL_law_822, eL_law_823, eL_law_824, eL_law_825, eL_law_826, eL_law_827, eL_law_828, eL_law_829, eL_law_830, eL_law_831, eL_law_832, eL_law_835, eL_law_838, eL_law_839, kd_39, kd_60, an_60, rd_60, x1, a1, k1, d1, x2, a2, k2, d2, x3, a3, k3, d3, Nat.reduceLeDiff, Nat.reduceEqDiff, Nat.reduceAdd, if_true, if_false, b2i_T, b2i_F, and_self, and_false, false_and, true_and, and_true, true_or, or_true, false_or, or_false, or_self, not_true_eq_false, not_false_eq_true, eq_self, List.cons_append, List.nil_append]
  refine sx_call_mono h1 (fun r2 A2 Z2 h2 => ?_)
  obtain ⟨rfl, -, h3⟩ := h2
  simp only [eL_law_797, eL_law_798, eL_law_799, eL_law_800, eL_law_801, eL_law_802, eL_law_803, eL_law_804, eL_law_805, eL_law_806, eL_law_807, eL_law_808, eL_law_809, eL_law_810, eL_law_811, eL_law_812, eL_law_813, eL_law_816, eL_law_817, eL_law_818, eL_law_819, eL_law_820, eL_law_821, eL_law_822, eL_law_823, eL_law_824, eL_law_825, eL_law_826, eL_law_827, eL_law_828, eL_law_829, eL_law_830, eL_law_831, eL_law_832, eL_law_835, eL_law_838, eL_law_839, Nat.reduceLeDiff, Nat.reduceEqDiff, Nat.reduceAdd, if_true, if_false, b2i_T, b2i_F, and_self, and_false, false_and, true_and, and_true, true_or, or_true, false_or, or_false, or_self, not_true_eq_false, not_false_eq_true, eq_self, List.cons_append, List.nil_append]
  exact hQ A2 Z2 h3

theorem lw_c24 (hi : i + 6 ≤ G.1) (hG : G.1 ≤ 3072) (hop : okOp G c A Z mX3_fewest mX4_fewest [.int (G.2 (i + 1))]) (hQ : ∀ A' Z', Rel (c + 1) A' Z' → sx_ev G mL_law 1309 [some (.ref 60), some (.ref 0), some (.ref 39), some (.int (nI i))] [] A' Z' Q) : sx_ev G mL_law 840 [some (.ref 60), some (.ref 0), some (.ref 39), some (.int (nI i))] [] A Z Q := by
  have x1 : nI i + 1 = nI (i + 1) := nI_add i 1
  have a1 : ¬ nI (i + 1) < 0 := nI_pos (by omega)
  have k1 : (nI (i + 1)).toNatClampNeg = i + 1 := nI_clamp (by omega)
  have d1 : ¬ G.1 ≤ i + 1 := by omega
  unfold okOp at hop
  simp only [eL_law_840, eL_law_841, eL_law_842, eL_law_843, eL_law_844, eL_law_845, eL_law_846, eL_law_849, eL_law_850, eL_law_851, eL_law_852, eL_law_853, eL_law_854, eL_law_855, eL_law_858, eL_law_861, eL_law_862, kd_0, kd_60, an_60, rd_60, x1, a1, k1, d1, Nat.reduceLeDiff, Nat.reduceEqDiff, Nat.reduceAdd, if_true, if_false, b2i_T, b2i_F, and_self, and_false, false_and, true_and, and_true, true_or, or_true, false_or, or_false, or_self, not_true_eq_false, not_false_eq_true, eq_self, List.cons_append, List.nil_append]
  refine sx_call_mono hop (fun r A1 Z1 h1 => ?_)
  obtain ⟨v, rfl⟩ := okQ_ex h1
  simp only [eL_law_840, eL_law_841, eL_law_842, eL_law_843, eL_law_844, eL_law_845, eL_law_846, eL_law_849, eL_law_850, eL_law_851, eL_law_852, eL_law_853, eL_law_854, eL_law_855, eL_law_858, eL_law_861, eL_law_862, kd_39, kd_60, an_60, rd_60, x1, a1, k1, d1, Nat.reduceLeDiff, Nat.reduceEqDiff, Nat.reduceAdd, if_true, if_false, b2i_T, b2i_F, and_self, and_false, false_and, true_and, and_true, true_or, or_true, false_or, or_false, or_self, not_true_eq_false, not_false_eq_true, eq_self, List.cons_append, List.nil_append]
  refine sx_call_mono h1 (fun r2 A2 Z2 h2 => ?_)
  obtain ⟨rfl, -, h3⟩ := h2
  simp only [eL_law_840, eL_law_841, eL_law_842, eL_law_843, eL_law_844, eL_law_845, eL_law_846, eL_law_849, eL_law_850, eL_law_851, eL_law_852, eL_law_853, eL_law_854, eL_law_855, eL_law_858, eL_law_861, eL_law_862, Nat.reduceLeDiff, Nat.reduceEqDiff, Nat.reduceAdd, if_true, if_false, b2i_T, b2i_F, and_self, and_false, false_and, true_and, and_true, true_or, or_true, false_or, or_false, or_self, not_true_eq_false, not_false_eq_true, eq_self, List.cons_append, List.nil_append]
  exact hQ A2 Z2 h3

theorem lw_c25 (hi : i + 6 ≤ G.1) (hG : G.1 ≤ 3072) (hop : okOp G c A Z mX3_helps mX4_helps [.int (G.2 (i + 1)), .int (G.2 (i + 2)), .int (G.2 (i + 3))]) (hQ : ∀ A' Z', Rel (c + 1) A' Z' → sx_ev G mL_law 1309 [some (.ref 60), some (.ref 0), some (.ref 39), some (.int (nI i))] [] A' Z' Q) : sx_ev G mL_law 863 [some (.ref 60), some (.ref 0), some (.ref 39), some (.int (nI i))] [] A Z Q := by
  have x1 : nI i + 1 = nI (i + 1) := nI_add i 1
  have a1 : ¬ nI (i + 1) < 0 := nI_pos (by omega)
  have k1 : (nI (i + 1)).toNatClampNeg = i + 1 := nI_clamp (by omega)
  have d1 : ¬ G.1 ≤ i + 1 := by omega
  have x2 : nI i + 2 = nI (i + 2) := nI_add i 2
  have a2 : ¬ nI (i + 2) < 0 := nI_pos (by omega)
  have k2 : (nI (i + 2)).toNatClampNeg = i + 2 := nI_clamp (by omega)
  have d2 : ¬ G.1 ≤ i + 2 := by omega
  have x3 : nI i + 3 = nI (i + 3) := nI_add i 3
  have a3 : ¬ nI (i + 3) < 0 := nI_pos (by omega)
  have k3 : (nI (i + 3)).toNatClampNeg = i + 3 := nI_clamp (by omega)
  have d3 : ¬ G.1 ≤ i + 3 := by omega
  unfold okOp at hop
  simp only [eL_law_863, eL_law_864, eL_law_865, eL_law_866, eL_law_867, eL_law_868, eL_law_869, eL_law_870, eL_law_871, eL_law_872, eL_law_873, eL_law_874, eL_law_875, eL_law_876, eL_law_877, eL_law_878, eL_law_879, eL_law_882, eL_law_883, eL_law_884, eL_law_885, eL_law_886, eL_law_887, eL_law_888, eL_law_889, eL_law_890, eL_law_891, eL_law_892, eL_law_893, eL_law_894, eL_law_895, eL_law_896, eL_law_897, eL_law_898, eL_law_901, eL_law_904, eL_law_905, kd_0, kd_60, an_60, rd_60, x1, a1, k1, d1, x2, a2, k2, d2, x3, a3, k3, d3, Nat.reduceLeDiff, Nat.reduceEqDiff, Nat.reduceAdd, if_true, if_false, b2i_T, b2i_F, and_self, and_false, false_and, true_and, and_true, true_or, or_true, false_or, or_false, or_self, not_true_eq_false, not_false_eq_true, eq_self, List.cons_append, List.nil_append]
  refine sx_call_mono hop (fun r A1 Z1 h1 => ?_)
  obtain ⟨v, rfl⟩ := okQ_ex h1
  simp only [eL_law_863, eL_law_864, eL_law_865, eL_law_866, eL_law_867, eL_law_868, eL_law_869, eL_law_870, eL_law_871, eL_law_872, eL_law_873, eL_law_874, eL_law_875, eL_law_876, eL_law_877, eL_law_878, eL_law_879, eL_law_882, eL_law_883, eL_law_884, eL_law_885, eL_law_886, eL_law_887, eL_law_888, eL_law_889, eL_law_890, eL_law_891, eL_law_892, eL_law_893, eL_law_894, eL_law_895, eL_law_896, eL_law_897, eL_law_898, eL_law_901, eL_law_904, eL_law_905, kd_39, kd_60, an_60, rd_60, x1, a1, k1, d1, x2, a2, k2, d2, x3, a3, k3, d3, Nat.reduceLeDiff, Nat.reduceEqDiff, Nat.reduceAdd, if_true, if_false, b2i_T, b2i_F, and_self, and_false, false_and, true_and, and_true, true_or, or_true, false_or, or_false, or_self, not_true_eq_false, not_false_eq_true, eq_self, List.cons_append, List.nil_append]
  refine sx_call_mono h1 (fun r2 A2 Z2 h2 => ?_)
  obtain ⟨rfl, -, h3⟩ := h2
  simp only [eL_law_863, eL_law_864, eL_law_865, eL_law_866, eL_law_867, eL_law_868, eL_law_869, eL_law_870, eL_law_871, eL_law_872, eL_law_873, eL_law_874, eL_law_875, eL_law_876, eL_law_877, eL_law_878, eL_law_879, eL_law_882, eL_law_883, eL_law_884, eL_law_885, eL_law_886, eL_law_887, eL_law_888, eL_law_889, eL_law_890, eL_law_891, eL_law_892, eL_law_893, eL_law_894, eL_law_895, eL_law_896, eL_law_897, eL_law_898, eL_law_901, eL_law_904, eL_law_905, Nat.reduceLeDiff, Nat.reduceEqDiff, Nat.reduceAdd, if_true, if_false, b2i_T, b2i_F, and_self, and_false, false_and, true_and, and_true, true_or, or_true, false_or, or_false, or_self, not_true_eq_false, not_false_eq_true, eq_self, List.cons_append, List.nil_append]
  exact hQ A2 Z2 h3

theorem lw_c26 (hi : i + 6 ≤ G.1) (hG : G.1 ≤ 3072) (hop : okOp G c A Z mX3_feed mX4_feed [.int (G.2 (i + 1)), .int (G.2 (i + 2))]) (hQ : ∀ A' Z', Rel (c + 1) A' Z' → sx_ev G mL_law 1309 [some (.ref 60), some (.ref 0), some (.ref 39), some (.int (nI i))] [] A' Z' Q) : sx_ev G mL_law 906 [some (.ref 60), some (.ref 0), some (.ref 39), some (.int (nI i))] [] A Z Q := by
  have x1 : nI i + 1 = nI (i + 1) := nI_add i 1
  have a1 : ¬ nI (i + 1) < 0 := nI_pos (by omega)
  have k1 : (nI (i + 1)).toNatClampNeg = i + 1 := nI_clamp (by omega)
  have d1 : ¬ G.1 ≤ i + 1 := by omega
  have x2 : nI i + 2 = nI (i + 2) := nI_add i 2
  have a2 : ¬ nI (i + 2) < 0 := nI_pos (by omega)
  have k2 : (nI (i + 2)).toNatClampNeg = i + 2 := nI_clamp (by omega)
  have d2 : ¬ G.1 ≤ i + 2 := by omega
  unfold okOp at hop
  simp only [eL_law_906, eL_law_907, eL_law_908, eL_law_909, eL_law_910, eL_law_911, eL_law_912, eL_law_913, eL_law_914, eL_law_915, eL_law_916, eL_law_917, eL_law_920, eL_law_921, eL_law_922, eL_law_923, eL_law_924, eL_law_925, eL_law_926, eL_law_927, eL_law_928, eL_law_929, eL_law_930, eL_law_931, eL_law_934, eL_law_937, eL_law_938, kd_0, kd_60, an_60, rd_60, x1, a1, k1, d1, x2, a2, k2, d2, Nat.reduceLeDiff, Nat.reduceEqDiff, Nat.reduceAdd, if_true, if_false, b2i_T, b2i_F, and_self, and_false, false_and, true_and, and_true, true_or, or_true, false_or, or_false, or_self, not_true_eq_false, not_false_eq_true, eq_self, List.cons_append, List.nil_append]
  refine sx_call_mono hop (fun r A1 Z1 h1 => ?_)
  obtain ⟨v, rfl⟩ := okQ_ex h1
  simp only [eL_law_906, eL_law_907, eL_law_908, eL_law_909, eL_law_910, eL_law_911, eL_law_912, eL_law_913, eL_law_914, eL_law_915, eL_law_916, eL_law_917, eL_law_920, eL_law_921, eL_law_922, eL_law_923, eL_law_924, eL_law_925, eL_law_926, eL_law_927, eL_law_928, eL_law_929, eL_law_930, eL_law_931, eL_law_934, eL_law_937, eL_law_938, kd_39, kd_60, an_60, rd_60, x1, a1, k1, d1, x2, a2, k2, d2, Nat.reduceLeDiff, Nat.reduceEqDiff, Nat.reduceAdd, if_true, if_false, b2i_T, b2i_F, and_self, and_false, false_and, true_and, and_true, true_or, or_true, false_or, or_false, or_self, not_true_eq_false, not_false_eq_true, eq_self, List.cons_append, List.nil_append]
  refine sx_call_mono h1 (fun r2 A2 Z2 h2 => ?_)
  obtain ⟨rfl, -, h3⟩ := h2
  simp only [eL_law_906, eL_law_907, eL_law_908, eL_law_909, eL_law_910, eL_law_911, eL_law_912, eL_law_913, eL_law_914, eL_law_915, eL_law_916, eL_law_917, eL_law_920, eL_law_921, eL_law_922, eL_law_923, eL_law_924, eL_law_925, eL_law_926, eL_law_927, eL_law_928, eL_law_929, eL_law_930, eL_law_931, eL_law_934, eL_law_937, eL_law_938, Nat.reduceLeDiff, Nat.reduceEqDiff, Nat.reduceAdd, if_true, if_false, b2i_T, b2i_F, and_self, and_false, false_and, true_and, and_true, true_or, or_true, false_or, or_false, or_self, not_true_eq_false, not_false_eq_true, eq_self, List.cons_append, List.nil_append]
  exact hQ A2 Z2 h3

theorem lw_c27 (hi : i + 6 ≤ G.1) (hG : G.1 ≤ 3072) (hop : okOp G c A Z mX3_wipe mX4_wipe []) (hQ : ∀ A' Z', Rel (c + 1) A' Z' → sx_ev G mL_law 1309 [some (.ref 60), some (.ref 0), some (.ref 39), some (.int (nI i))] [] A' Z' Q) : sx_ev G mL_law 939 [some (.ref 60), some (.ref 0), some (.ref 39), some (.int (nI i))] [] A Z Q := by
  unfold okOp at hop
  simp only [eL_law_939, eL_law_940, eL_law_943, eL_law_944, eL_law_947, eL_law_950, eL_law_951, kd_0, kd_60, an_60, rd_60, Nat.reduceLeDiff, Nat.reduceEqDiff, Nat.reduceAdd, if_true, if_false, b2i_T, b2i_F, and_self, and_false, false_and, true_and, and_true, true_or, or_true, false_or, or_false, or_self, not_true_eq_false, not_false_eq_true, eq_self, List.cons_append, List.nil_append]
  refine sx_call_mono hop (fun r A1 Z1 h1 => ?_)
  obtain ⟨v, rfl⟩ := okQ_ex h1
  simp only [eL_law_939, eL_law_940, eL_law_943, eL_law_944, eL_law_947, eL_law_950, eL_law_951, kd_39, kd_60, an_60, rd_60, Nat.reduceLeDiff, Nat.reduceEqDiff, Nat.reduceAdd, if_true, if_false, b2i_T, b2i_F, and_self, and_false, false_and, true_and, and_true, true_or, or_true, false_or, or_false, or_self, not_true_eq_false, not_false_eq_true, eq_self, List.cons_append, List.nil_append]
  refine sx_call_mono h1 (fun r2 A2 Z2 h2 => ?_)
  obtain ⟨rfl, -, h3⟩ := h2
  simp only [eL_law_939, eL_law_940, eL_law_943, eL_law_944, eL_law_947, eL_law_950, eL_law_951, Nat.reduceLeDiff, Nat.reduceEqDiff, Nat.reduceAdd, if_true, if_false, b2i_T, b2i_F, and_self, and_false, false_and, true_and, and_true, true_or, or_true, false_or, or_false, or_self, not_true_eq_false, not_false_eq_true, eq_self, List.cons_append, List.nil_append]
  exact hQ A2 Z2 h3

theorem lw_c28 (hi : i + 6 ≤ G.1) (hG : G.1 ≤ 3072) (hop : okOp G c A Z mX3_park mX4_park []) (hQ : ∀ A' Z', Rel (c + 1) A' Z' → sx_ev G mL_law 1309 [some (.ref 60), some (.ref 0), some (.ref 39), some (.int (nI i))] [] A' Z' Q) : sx_ev G mL_law 952 [some (.ref 60), some (.ref 0), some (.ref 39), some (.int (nI i))] [] A Z Q := by
  unfold okOp at hop
  simp only [eL_law_952, eL_law_953, eL_law_956, eL_law_957, eL_law_960, eL_law_963, eL_law_964, kd_0, kd_60, an_60, rd_60, Nat.reduceLeDiff, Nat.reduceEqDiff, Nat.reduceAdd, if_true, if_false, b2i_T, b2i_F, and_self, and_false, false_and, true_and, and_true, true_or, or_true, false_or, or_false, or_self, not_true_eq_false, not_false_eq_true, eq_self, List.cons_append, List.nil_append]
  refine sx_call_mono hop (fun r A1 Z1 h1 => ?_)
  obtain ⟨v, rfl⟩ := okQ_ex h1
  simp only [eL_law_952, eL_law_953, eL_law_956, eL_law_957, eL_law_960, eL_law_963, eL_law_964, kd_39, kd_60, an_60, rd_60, Nat.reduceLeDiff, Nat.reduceEqDiff, Nat.reduceAdd, if_true, if_false, b2i_T, b2i_F, and_self, and_false, false_and, true_and, and_true, true_or, or_true, false_or, or_false, or_self, not_true_eq_false, not_false_eq_true, eq_self, List.cons_append, List.nil_append]
  refine sx_call_mono h1 (fun r2 A2 Z2 h2 => ?_)
  obtain ⟨rfl, -, h3⟩ := h2
  simp only [eL_law_952, eL_law_953, eL_law_956, eL_law_957, eL_law_960, eL_law_963, eL_law_964, Nat.reduceLeDiff, Nat.reduceEqDiff, Nat.reduceAdd, if_true, if_false, b2i_T, b2i_F, and_self, and_false, false_and, true_and, and_true, true_or, or_true, false_or, or_false, or_self, not_true_eq_false, not_false_eq_true, eq_self, List.cons_append, List.nil_append]
  exact hQ A2 Z2 h3

theorem lw_c29 (hi : i + 6 ≤ G.1) (hG : G.1 ≤ 3072) (hop : okOp G c A Z mX3_sheet mX4_sheet [.int (G.2 (i + 1)), .int (G.2 (i + 2)), .int (G.2 (i + 3))]) (hQ : ∀ A' Z', Rel (c + 1) A' Z' → sx_ev G mL_law 1309 [some (.ref 60), some (.ref 0), some (.ref 39), some (.int (nI i))] [] A' Z' Q) : sx_ev G mL_law 965 [some (.ref 60), some (.ref 0), some (.ref 39), some (.int (nI i))] [] A Z Q := by
  have x1 : nI i + 1 = nI (i + 1) := nI_add i 1
  have a1 : ¬ nI (i + 1) < 0 := nI_pos (by omega)
  have k1 : (nI (i + 1)).toNatClampNeg = i + 1 := nI_clamp (by omega)
  have d1 : ¬ G.1 ≤ i + 1 := by omega
  have x2 : nI i + 2 = nI (i + 2) := nI_add i 2
  have a2 : ¬ nI (i + 2) < 0 := nI_pos (by omega)
  have k2 : (nI (i + 2)).toNatClampNeg = i + 2 := nI_clamp (by omega)
  have d2 : ¬ G.1 ≤ i + 2 := by omega
  have x3 : nI i + 3 = nI (i + 3) := nI_add i 3
  have a3 : ¬ nI (i + 3) < 0 := nI_pos (by omega)
  have k3 : (nI (i + 3)).toNatClampNeg = i + 3 := nI_clamp (by omega)
  have d3 : ¬ G.1 ≤ i + 3 := by omega
  unfold okOp at hop
  simp only [eL_law_965, eL_law_966, eL_law_967, eL_law_968, eL_law_969, eL_law_970, eL_law_971, eL_law_972, eL_law_973, eL_law_974, eL_law_975, eL_law_976, eL_law_977, eL_law_978, eL_law_979, eL_law_980, eL_law_981, eL_law_984, eL_law_985, eL_law_986, eL_law_987, eL_law_988, eL_law_989, eL_law_990, eL_law_991, eL_law_992, eL_law_993, eL_law_994, eL_law_995, eL_law_996, eL_law_997, eL_law_998, eL_law_999, eL_law_1000, eL_law_1003, eL_law_1006, eL_law_1007, kd_0, kd_60, an_60, rd_60, x1, a1, k1, d1, x2, a2, k2, d2, x3, a3, k3, d3, Nat.reduceLeDiff, Nat.reduceEqDiff, Nat.reduceAdd, if_true, if_false, b2i_T, b2i_F, and_self, and_false, false_and, true_and, and_true, true_or, or_true, false_or, or_false, or_self, not_true_eq_false, not_false_eq_true, eq_self, List.cons_append, List.nil_append]
  refine sx_call_mono hop (fun r A1 Z1 h1 => ?_)
  obtain ⟨v, rfl⟩ := okQ_ex h1
  simp only [eL_law_965, eL_law_966, eL_law_967, eL_law_968, eL_law_969, eL_law_970, eL_law_971, eL_law_972, eL_law_973, eL_law_974, eL_law_975, eL_law_976, eL_law_977, eL_law_978, eL_law_979, eL_law_980, eL_law_981, eL_law_984, eL_law_985, eL_law_986, eL_law_987, eL_law_988, eL_law_989, eL_law_990, eL_law_991, eL_law_992, eL_law_993, eL_law_994, eL_law_995, eL_law_996, eL_law_997, eL_law_998, eL_law_999, eL_law_1000, eL_law_1003, eL_law_1006, eL_law_1007, kd_39, kd_60, an_60, rd_60, x1, a1, k1, d1, x2, a2, k2, d2, x3, a3, k3, d3, Nat.reduceLeDiff, Nat.reduceEqDiff, Nat.reduceAdd, if_true, if_false, b2i_T, b2i_F, and_self, and_false, false_and, true_and, and_true, true_or, or_true, false_or, or_false, or_self, not_true_eq_false, not_false_eq_true, eq_self, List.cons_append, List.nil_append]
  refine sx_call_mono h1 (fun r2 A2 Z2 h2 => ?_)
  obtain ⟨rfl, -, h3⟩ := h2
  simp only [eL_law_965, eL_law_966, eL_law_967, eL_law_968, eL_law_969, eL_law_970, eL_law_971, eL_law_972, eL_law_973, eL_law_974, eL_law_975, eL_law_976, eL_law_977, eL_law_978, eL_law_979, eL_law_980, eL_law_981, eL_law_984, eL_law_985, eL_law_986, eL_law_987, eL_law_988, eL_law_989, eL_law_990, eL_law_991, eL_law_992, eL_law_993, eL_law_994, eL_law_995, eL_law_996, eL_law_997, eL_law_998, eL_law_999, eL_law_1000, eL_law_1003, eL_law_1006, eL_law_1007, Nat.reduceLeDiff, Nat.reduceEqDiff, Nat.reduceAdd, if_true, if_false, b2i_T, b2i_F, and_self, and_false, false_and, true_and, and_true, true_or, or_true, false_or, or_false, or_self, not_true_eq_false, not_false_eq_true, eq_self, List.cons_append, List.nil_append]
  exact hQ A2 Z2 h3

theorem lw_c30 (hi : i + 6 ≤ G.1) (hG : G.1 ≤ 3072) (hop : okOpL G c A Z mX3_write mX4_write [.int (G.2 (i + 1)), .int (G.2 (i + 2)), .long ((G.2 (i + 3)).toInt64 <<< (Int32.toInt64 32 &&& 63) ||| (G.2 (i + 4)).toInt64 &&& 4294967295)]) (hQ : ∀ A' Z', Rel (c + 1) A' Z' → sx_ev G mL_law 1309 [some (.ref 60), some (.ref 0), some (.ref 39), some (.int (nI i))] [] A' Z' Q) : sx_ev G mL_law 1008 [some (.ref 60), some (.ref 0), some (.ref 39), some (.int (nI i))] [] A Z Q := by
  have x1 : nI i + 1 = nI (i + 1) := nI_add i 1
  have a1 : ¬ nI (i + 1) < 0 := nI_pos (by omega)
  have k1 : (nI (i + 1)).toNatClampNeg = i + 1 := nI_clamp (by omega)
  have d1 : ¬ G.1 ≤ i + 1 := by omega
  have x2 : nI i + 2 = nI (i + 2) := nI_add i 2
  have a2 : ¬ nI (i + 2) < 0 := nI_pos (by omega)
  have k2 : (nI (i + 2)).toNatClampNeg = i + 2 := nI_clamp (by omega)
  have d2 : ¬ G.1 ≤ i + 2 := by omega
  have x3 : nI i + 3 = nI (i + 3) := nI_add i 3
  have a3 : ¬ nI (i + 3) < 0 := nI_pos (by omega)
  have k3 : (nI (i + 3)).toNatClampNeg = i + 3 := nI_clamp (by omega)
  have d3 : ¬ G.1 ≤ i + 3 := by omega
  have x4 : nI i + 4 = nI (i + 4) := nI_add i 4
  have a4 : ¬ nI (i + 4) < 0 := nI_pos (by omega)
  have k4 : (nI (i + 4)).toNatClampNeg = i + 4 := nI_clamp (by omega)
  have d4 : ¬ G.1 ≤ i + 4 := by omega
  unfold okOpL at hop
  simp only [eL_law_1008, eL_law_1009, eL_law_1010, eL_law_1011, eL_law_1012, eL_law_1013, eL_law_1014, eL_law_1015, eL_law_1016, eL_law_1017, eL_law_1018, eL_law_1019, eL_law_1020, eL_law_1021, eL_law_1022, eL_law_1023, eL_law_1024, eL_law_1025, eL_law_1027, eL_law_1028, eL_law_1029, eL_law_1030, eL_law_1031, eL_law_1032, eL_law_1033, eL_law_1034, eL_law_1037, eL_law_1038, eL_law_1039, eL_law_1042, eL_law_1043, eL_law_1044, eL_law_1045, eL_law_1046, eL_law_1047, eL_law_1048, eL_law_1049, eL_law_1050, eL_law_1051, eL_law_1052, eL_law_1053, eL_law_1054, eL_law_1055, eL_law_1056, eL_law_1057, eL_law_1058, eL_law_1059, eL_law_1061, eL_law_1062, eL_law_1063, eL_law_1064, eL_law_1065, eL_law_1066, eL_law_1067, eL_law_1068, eL_law_1071, eL_law_1072, eL_law_1073, eL_law_1076, eL_law_1077, eL_law_1080, eL_law_1081, kd_0, kd_60, an_60, rd_60, x1, a1, k1, d1, x2, a2, k2, d2, x3, a3, k3, d3, x4, a4, k4, d4, Nat.reduceLeDiff, Nat.reduceEqDiff, Nat.reduceAdd, if_true, if_false, b2i_T, b2i_F, and_self, and_false, false_and, true_and, and_true, true_or, or_true, false_or, or_false, or_self, not_true_eq_false, not_false_eq_true, eq_self, List.cons_append, List.nil_append]
  refine sx_call_mono hop (fun r A1 Z1 h1 => ?_)
  obtain ⟨v, rfl⟩ := okQL_ex h1
  simp only [eL_law_1008, eL_law_1009, eL_law_1010, eL_law_1011, eL_law_1012, eL_law_1013, eL_law_1014, eL_law_1015, eL_law_1016, eL_law_1017, eL_law_1018, eL_law_1019, eL_law_1020, eL_law_1021, eL_law_1022, eL_law_1023, eL_law_1024, eL_law_1025, eL_law_1027, eL_law_1028, eL_law_1029, eL_law_1030, eL_law_1031, eL_law_1032, eL_law_1033, eL_law_1034, eL_law_1037, eL_law_1038, eL_law_1039, eL_law_1042, eL_law_1043, eL_law_1044, eL_law_1045, eL_law_1046, eL_law_1047, eL_law_1048, eL_law_1049, eL_law_1050, eL_law_1051, eL_law_1052, eL_law_1053, eL_law_1054, eL_law_1055, eL_law_1056, eL_law_1057, eL_law_1058, eL_law_1059, eL_law_1061, eL_law_1062, eL_law_1063, eL_law_1064, eL_law_1065, eL_law_1066, eL_law_1067, eL_law_1068, eL_law_1071, eL_law_1072, eL_law_1073, eL_law_1076, eL_law_1077, eL_law_1080, eL_law_1081, kd_39, kd_60, an_60, rd_60, x1, a1, k1, d1, x2, a2, k2, d2, x3, a3, k3, d3, x4, a4, k4, d4, Nat.reduceLeDiff, Nat.reduceEqDiff, Nat.reduceAdd, if_true, if_false, b2i_T, b2i_F, and_self, and_false, false_and, true_and, and_true, true_or, or_true, false_or, or_false, or_self, not_true_eq_false, not_false_eq_true, eq_self, List.cons_append, List.nil_append]
  refine sx_call_mono h1 (fun r2 A2 Z2 h2 => ?_)
  obtain ⟨rfl, -, h3⟩ := h2
  simp only [eL_law_1008, eL_law_1009, eL_law_1010, eL_law_1011, eL_law_1012, eL_law_1013, eL_law_1014, eL_law_1015, eL_law_1016, eL_law_1017, eL_law_1018, eL_law_1019, eL_law_1020, eL_law_1021, eL_law_1022, eL_law_1023, eL_law_1024, eL_law_1025, eL_law_1027, eL_law_1028, eL_law_1029, eL_law_1030, eL_law_1031, eL_law_1032, eL_law_1033, eL_law_1034, eL_law_1037, eL_law_1038, eL_law_1039, eL_law_1042, eL_law_1043, eL_law_1044, eL_law_1045, eL_law_1046, eL_law_1047, eL_law_1048, eL_law_1049, eL_law_1050, eL_law_1051, eL_law_1052, eL_law_1053, eL_law_1054, eL_law_1055, eL_law_1056, eL_law_1057, eL_law_1058, eL_law_1059, eL_law_1061, eL_law_1062, eL_law_1063, eL_law_1064, eL_law_1065, eL_law_1066, eL_law_1067, eL_law_1068, eL_law_1071, eL_law_1072, eL_law_1073, eL_law_1076, eL_law_1077, eL_law_1080, eL_law_1081, lgc_0, Nat.reduceLeDiff, Nat.reduceEqDiff, Nat.reduceAdd, if_true, if_false, b2i_T, b2i_F, and_self, and_false, false_and, true_and, and_true, true_or, or_true, false_or, or_false, or_self, not_true_eq_false, not_false_eq_true, eq_self, List.cons_append, List.nil_append]
  exact hQ A2 Z2 h3

theorem lw_c31 (hi : i + 6 ≤ G.1) (hG : G.1 ≤ 3072) (hop : okOp G c A Z mX3_copy mX4_copy [.int (G.2 (i + 1)), .int (G.2 (i + 2)), .int (G.2 (i + 3)), .int (G.2 (i + 4)), .int (G.2 (i + 5))]) (hQ : ∀ A' Z', Rel (c + 1) A' Z' → sx_ev G mL_law 1309 [some (.ref 60), some (.ref 0), some (.ref 39), some (.int (nI i))] [] A' Z' Q) : sx_ev G mL_law 1082 [some (.ref 60), some (.ref 0), some (.ref 39), some (.int (nI i))] [] A Z Q := by
  have x1 : nI i + 1 = nI (i + 1) := nI_add i 1
  have a1 : ¬ nI (i + 1) < 0 := nI_pos (by omega)
  have k1 : (nI (i + 1)).toNatClampNeg = i + 1 := nI_clamp (by omega)
  have d1 : ¬ G.1 ≤ i + 1 := by omega
  have x2 : nI i + 2 = nI (i + 2) := nI_add i 2
  have a2 : ¬ nI (i + 2) < 0 := nI_pos (by omega)
  have k2 : (nI (i + 2)).toNatClampNeg = i + 2 := nI_clamp (by omega)
  have d2 : ¬ G.1 ≤ i + 2 := by omega
  have x3 : nI i + 3 = nI (i + 3) := nI_add i 3
  have a3 : ¬ nI (i + 3) < 0 := nI_pos (by omega)
  have k3 : (nI (i + 3)).toNatClampNeg = i + 3 := nI_clamp (by omega)
  have d3 : ¬ G.1 ≤ i + 3 := by omega
  have x4 : nI i + 4 = nI (i + 4) := nI_add i 4
  have a4 : ¬ nI (i + 4) < 0 := nI_pos (by omega)
  have k4 : (nI (i + 4)).toNatClampNeg = i + 4 := nI_clamp (by omega)
  have d4 : ¬ G.1 ≤ i + 4 := by omega
  have x5 : nI i + 5 = nI (i + 5) := nI_add i 5
  have a5 : ¬ nI (i + 5) < 0 := nI_pos (by omega)
  have k5 : (nI (i + 5)).toNatClampNeg = i + 5 := nI_clamp (by omega)
  have d5 : ¬ G.1 ≤ i + 5 := by omega
  unfold okOp at hop
  simp only [eL_law_1082, eL_law_1083, eL_law_1084, eL_law_1085, eL_law_1086, eL_law_1087, eL_law_1088, eL_law_1089, eL_law_1090, eL_law_1091, eL_law_1092, eL_law_1093, eL_law_1094, eL_law_1095, eL_law_1096, eL_law_1097, eL_law_1098, eL_law_1099, eL_law_1100, eL_law_1101, eL_law_1102, eL_law_1103, eL_law_1104, eL_law_1105, eL_law_1106, eL_law_1107, eL_law_1108, eL_law_1111, eL_law_1112, eL_law_1113, eL_law_1114, eL_law_1115, eL_law_1116, eL_law_1117, eL_law_1118, eL_law_1119, eL_law_1120, eL_law_1121, eL_law_1122, eL_law_1123, eL_law_1124, eL_law_1125, eL_law_1126, eL_law_1127, eL_law_1128, eL_law_1129, eL_law_1130, eL_law_1131, eL_law_1132, eL_law_1133, eL_law_1134, eL_law_1135, eL_law_1136, eL_law_1137, eL_law_1140, eL_law_1143, eL_law_1144, kd_0, kd_60, an_60, rd_60, x1, a1, k1, d1, x2, a2, k2, d2, x3, a3, k3, d3, x4, a4, k4, d4, x5, a5, k5, d5, Nat.reduceLeDiff, Nat.reduceEqDiff, Nat.reduceAdd, if_true, if_false, b2i_T, b2i_F, and_self, and_false, false_and, true_and, and_true, true_or, or_true, false_or, or_false, or_self, not_true_eq_false, not_false_eq_true, eq_self, List.cons_append, List.nil_append]
  refine sx_call_mono hop (fun r A1 Z1 h1 => ?_)
  obtain ⟨v, rfl⟩ := okQ_ex h1
  simp only [eL_law_1082, eL_law_1083, eL_law_1084, eL_law_1085, eL_law_1086, eL_law_1087, eL_law_1088, eL_law_1089, eL_law_1090, eL_law_1091, eL_law_1092, eL_law_1093, eL_law_1094, eL_law_1095, eL_law_1096, eL_law_1097, eL_law_1098, eL_law_1099, eL_law_1100, eL_law_1101, eL_law_1102, eL_law_1103, eL_law_1104, eL_law_1105, eL_law_1106, eL_law_1107, eL_law_1108, eL_law_1111, eL_law_1112, eL_law_1113, eL_law_1114, eL_law_1115, eL_law_1116, eL_law_1117, eL_law_1118, eL_law_1119, eL_law_1120, eL_law_1121, eL_law_1122, eL_law_1123, eL_law_1124, eL_law_1125, eL_law_1126, eL_law_1127, eL_law_1128, eL_law_1129, eL_law_1130, eL_law_1131, eL_law_1132, eL_law_1133, eL_law_1134, eL_law_1135, eL_law_1136, eL_law_1137, eL_law_1140, eL_law_1143, eL_law_1144, kd_39, kd_60, an_60, rd_60, x1, a1, k1, d1, x2, a2, k2, d2, x3, a3, k3, d3, x4, a4, k4, d4, x5, a5, k5, d5, Nat.reduceLeDiff, Nat.reduceEqDiff, Nat.reduceAdd, if_true, if_false, b2i_T, b2i_F, and_self, and_false, false_and, true_and, and_true, true_or, or_true, false_or, or_false, or_self, not_true_eq_false, not_false_eq_true, eq_self, List.cons_append, List.nil_append]
  refine sx_call_mono h1 (fun r2 A2 Z2 h2 => ?_)
  obtain ⟨rfl, -, h3⟩ := h2
  simp only [eL_law_1082, eL_law_1083, eL_law_1084, eL_law_1085, eL_law_1086, eL_law_1087, eL_law_1088, eL_law_1089, eL_law_1090, eL_law_1091, eL_law_1092, eL_law_1093, eL_law_1094, eL_law_1095, eL_law_1096, eL_law_1097, eL_law_1098, eL_law_1099, eL_law_1100, eL_law_1101, eL_law_1102, eL_law_1103, eL_law_1104, eL_law_1105, eL_law_1106, eL_law_1107, eL_law_1108, eL_law_1111, eL_law_1112, eL_law_1113, eL_law_1114, eL_law_1115, eL_law_1116, eL_law_1117, eL_law_1118, eL_law_1119, eL_law_1120, eL_law_1121, eL_law_1122, eL_law_1123, eL_law_1124, eL_law_1125, eL_law_1126, eL_law_1127, eL_law_1128, eL_law_1129, eL_law_1130, eL_law_1131, eL_law_1132, eL_law_1133, eL_law_1134, eL_law_1135, eL_law_1136, eL_law_1137, eL_law_1140, eL_law_1143, eL_law_1144, Nat.reduceLeDiff, Nat.reduceEqDiff, Nat.reduceAdd, if_true, if_false, b2i_T, b2i_F, and_self, and_false, false_and, true_and, and_true, true_or, or_true, false_or, or_false, or_self, not_true_eq_false, not_false_eq_true, eq_self, List.cons_append, List.nil_append]
  exact hQ A2 Z2 h3

theorem lw_c32 (hi : i + 6 ≤ G.1) (hG : G.1 ≤ 3072) (hop : okOp G c A Z mX3_lays mX4_lays [.int (G.2 (i + 1))]) (hQ : ∀ A' Z', Rel (c + 1) A' Z' → sx_ev G mL_law 1309 [some (.ref 60), some (.ref 0), some (.ref 39), some (.int (nI i))] [] A' Z' Q) : sx_ev G mL_law 1145 [some (.ref 60), some (.ref 0), some (.ref 39), some (.int (nI i))] [] A Z Q := by
  have x1 : nI i + 1 = nI (i + 1) := nI_add i 1
  have a1 : ¬ nI (i + 1) < 0 := nI_pos (by omega)
  have k1 : (nI (i + 1)).toNatClampNeg = i + 1 := nI_clamp (by omega)
  have d1 : ¬ G.1 ≤ i + 1 := by omega
  unfold okOp at hop
  simp only [eL_law_1145, eL_law_1146, eL_law_1147, eL_law_1148, eL_law_1149, eL_law_1150, eL_law_1151, eL_law_1154, eL_law_1155, eL_law_1156, eL_law_1157, eL_law_1158, eL_law_1159, eL_law_1160, eL_law_1163, eL_law_1166, eL_law_1167, kd_0, kd_60, an_60, rd_60, x1, a1, k1, d1, Nat.reduceLeDiff, Nat.reduceEqDiff, Nat.reduceAdd, if_true, if_false, b2i_T, b2i_F, and_self, and_false, false_and, true_and, and_true, true_or, or_true, false_or, or_false, or_self, not_true_eq_false, not_false_eq_true, eq_self, List.cons_append, List.nil_append]
  refine sx_call_mono hop (fun r A1 Z1 h1 => ?_)
  obtain ⟨v, rfl⟩ := okQ_ex h1
  simp only [eL_law_1145, eL_law_1146, eL_law_1147, eL_law_1148, eL_law_1149, eL_law_1150, eL_law_1151, eL_law_1154, eL_law_1155, eL_law_1156, eL_law_1157, eL_law_1158, eL_law_1159, eL_law_1160, eL_law_1163, eL_law_1166, eL_law_1167, kd_39, kd_60, an_60, rd_60, x1, a1, k1, d1, Nat.reduceLeDiff, Nat.reduceEqDiff, Nat.reduceAdd, if_true, if_false, b2i_T, b2i_F, and_self, and_false, false_and, true_and, and_true, true_or, or_true, false_or, or_false, or_self, not_true_eq_false, not_false_eq_true, eq_self, List.cons_append, List.nil_append]
  refine sx_call_mono h1 (fun r2 A2 Z2 h2 => ?_)
  obtain ⟨rfl, -, h3⟩ := h2
  simp only [eL_law_1145, eL_law_1146, eL_law_1147, eL_law_1148, eL_law_1149, eL_law_1150, eL_law_1151, eL_law_1154, eL_law_1155, eL_law_1156, eL_law_1157, eL_law_1158, eL_law_1159, eL_law_1160, eL_law_1163, eL_law_1166, eL_law_1167, Nat.reduceLeDiff, Nat.reduceEqDiff, Nat.reduceAdd, if_true, if_false, b2i_T, b2i_F, and_self, and_false, false_and, true_and, and_true, true_or, or_true, false_or, or_false, or_self, not_true_eq_false, not_false_eq_true, eq_self, List.cons_append, List.nil_append]
  exact hQ A2 Z2 h3

theorem lw_c33 (hi : i + 6 ≤ G.1) (hG : G.1 ≤ 3072) (hop : okOp G c A Z mX3_book mX4_book [.int (G.2 (i + 1))]) (hQ : ∀ A' Z', Rel (c + 1) A' Z' → sx_ev G mL_law 1309 [some (.ref 60), some (.ref 0), some (.ref 39), some (.int (nI i))] [] A' Z' Q) : sx_ev G mL_law 1168 [some (.ref 60), some (.ref 0), some (.ref 39), some (.int (nI i))] [] A Z Q := by
  have x1 : nI i + 1 = nI (i + 1) := nI_add i 1
  have a1 : ¬ nI (i + 1) < 0 := nI_pos (by omega)
  have k1 : (nI (i + 1)).toNatClampNeg = i + 1 := nI_clamp (by omega)
  have d1 : ¬ G.1 ≤ i + 1 := by omega
  unfold okOp at hop
  simp only [eL_law_1168, eL_law_1169, eL_law_1170, eL_law_1171, eL_law_1172, eL_law_1173, eL_law_1174, eL_law_1177, eL_law_1178, eL_law_1179, eL_law_1180, eL_law_1181, eL_law_1182, eL_law_1183, eL_law_1186, eL_law_1189, eL_law_1190, kd_0, kd_60, an_60, rd_60, x1, a1, k1, d1, Nat.reduceLeDiff, Nat.reduceEqDiff, Nat.reduceAdd, if_true, if_false, b2i_T, b2i_F, and_self, and_false, false_and, true_and, and_true, true_or, or_true, false_or, or_false, or_self, not_true_eq_false, not_false_eq_true, eq_self, List.cons_append, List.nil_append]
  refine sx_call_mono hop (fun r A1 Z1 h1 => ?_)
  obtain ⟨v, rfl⟩ := okQ_ex h1
  simp only [eL_law_1168, eL_law_1169, eL_law_1170, eL_law_1171, eL_law_1172, eL_law_1173, eL_law_1174, eL_law_1177, eL_law_1178, eL_law_1179, eL_law_1180, eL_law_1181, eL_law_1182, eL_law_1183, eL_law_1186, eL_law_1189, eL_law_1190, kd_39, kd_60, an_60, rd_60, x1, a1, k1, d1, Nat.reduceLeDiff, Nat.reduceEqDiff, Nat.reduceAdd, if_true, if_false, b2i_T, b2i_F, and_self, and_false, false_and, true_and, and_true, true_or, or_true, false_or, or_false, or_self, not_true_eq_false, not_false_eq_true, eq_self, List.cons_append, List.nil_append]
  refine sx_call_mono h1 (fun r2 A2 Z2 h2 => ?_)
  obtain ⟨rfl, -, h3⟩ := h2
  simp only [eL_law_1168, eL_law_1169, eL_law_1170, eL_law_1171, eL_law_1172, eL_law_1173, eL_law_1174, eL_law_1177, eL_law_1178, eL_law_1179, eL_law_1180, eL_law_1181, eL_law_1182, eL_law_1183, eL_law_1186, eL_law_1189, eL_law_1190, Nat.reduceLeDiff, Nat.reduceEqDiff, Nat.reduceAdd, if_true, if_false, b2i_T, b2i_F, and_self, and_false, false_and, true_and, and_true, true_or, or_true, false_or, or_false, or_self, not_true_eq_false, not_false_eq_true, eq_self, List.cons_append, List.nil_append]
  exact hQ A2 Z2 h3

theorem lw_c34 (hi : i + 6 ≤ G.1) (hG : G.1 ≤ 3072) (hop : okOp G c A Z mX3_read mX4_read [.int (G.2 (i + 1)), .int (G.2 (i + 2))]) (hQ : ∀ A' Z', Rel (c + 1) A' Z' → sx_ev G mL_law 1309 [some (.ref 60), some (.ref 0), some (.ref 39), some (.int (nI i))] [] A' Z' Q) : sx_ev G mL_law 1191 [some (.ref 60), some (.ref 0), some (.ref 39), some (.int (nI i))] [] A Z Q := by
  have x1 : nI i + 1 = nI (i + 1) := nI_add i 1
  have a1 : ¬ nI (i + 1) < 0 := nI_pos (by omega)
  have k1 : (nI (i + 1)).toNatClampNeg = i + 1 := nI_clamp (by omega)
  have d1 : ¬ G.1 ≤ i + 1 := by omega
  have x2 : nI i + 2 = nI (i + 2) := nI_add i 2
  have a2 : ¬ nI (i + 2) < 0 := nI_pos (by omega)
  have k2 : (nI (i + 2)).toNatClampNeg = i + 2 := nI_clamp (by omega)
  have d2 : ¬ G.1 ≤ i + 2 := by omega
  unfold okOp at hop
  simp only [eL_law_1191, eL_law_1192, eL_law_1193, eL_law_1194, eL_law_1195, eL_law_1196, eL_law_1197, eL_law_1198, eL_law_1199, eL_law_1200, eL_law_1201, eL_law_1202, eL_law_1205, eL_law_1206, eL_law_1207, eL_law_1208, eL_law_1209, eL_law_1210, eL_law_1211, eL_law_1212, eL_law_1213, eL_law_1214, eL_law_1215, eL_law_1216, eL_law_1219, eL_law_1222, eL_law_1223, kd_0, kd_60, an_60, rd_60, x1, a1, k1, d1, x2, a2, k2, d2, Nat.reduceLeDiff, Nat.reduceEqDiff, Nat.reduceAdd, if_true, if_false, b2i_T, b2i_F, and_self, and_false, false_and, true_and, and_true, true_or, or_true, false_or, or_false, or_self, not_true_eq_false, not_false_eq_true, eq_self, List.cons_append, List.nil_append]
  refine sx_call_mono hop (fun r A1 Z1 h1 => ?_)
  obtain ⟨v, rfl⟩ := okQ_ex h1
  simp only [eL_law_1191, eL_law_1192, eL_law_1193, eL_law_1194, eL_law_1195, eL_law_1196, eL_law_1197, eL_law_1198, eL_law_1199, eL_law_1200, eL_law_1201, eL_law_1202, eL_law_1205, eL_law_1206, eL_law_1207, eL_law_1208, eL_law_1209, eL_law_1210, eL_law_1211, eL_law_1212, eL_law_1213, eL_law_1214, eL_law_1215, eL_law_1216, eL_law_1219, eL_law_1222, eL_law_1223, kd_39, kd_60, an_60, rd_60, x1, a1, k1, d1, x2, a2, k2, d2, Nat.reduceLeDiff, Nat.reduceEqDiff, Nat.reduceAdd, if_true, if_false, b2i_T, b2i_F, and_self, and_false, false_and, true_and, and_true, true_or, or_true, false_or, or_false, or_self, not_true_eq_false, not_false_eq_true, eq_self, List.cons_append, List.nil_append]
  refine sx_call_mono h1 (fun r2 A2 Z2 h2 => ?_)
  obtain ⟨rfl, -, h3⟩ := h2
  simp only [eL_law_1191, eL_law_1192, eL_law_1193, eL_law_1194, eL_law_1195, eL_law_1196, eL_law_1197, eL_law_1198, eL_law_1199, eL_law_1200, eL_law_1201, eL_law_1202, eL_law_1205, eL_law_1206, eL_law_1207, eL_law_1208, eL_law_1209, eL_law_1210, eL_law_1211, eL_law_1212, eL_law_1213, eL_law_1214, eL_law_1215, eL_law_1216, eL_law_1219, eL_law_1222, eL_law_1223, Nat.reduceLeDiff, Nat.reduceEqDiff, Nat.reduceAdd, if_true, if_false, b2i_T, b2i_F, and_self, and_false, false_and, true_and, and_true, true_or, or_true, false_or, or_false, or_self, not_true_eq_false, not_false_eq_true, eq_self, List.cons_append, List.nil_append]
  exact hQ A2 Z2 h3

theorem lw_c35 (hi : i + 6 ≤ G.1) (hG : G.1 ≤ 3072) (hop : okOp G c A Z mX3_image mX4_image []) (hQ : ∀ A' Z', Rel (c + 1) A' Z' → sx_ev G mL_law 1309 [some (.ref 60), some (.ref 0), some (.ref 39), some (.int (nI i))] [] A' Z' Q) : sx_ev G mL_law 1224 [some (.ref 60), some (.ref 0), some (.ref 39), some (.int (nI i))] [] A Z Q := by
  unfold okOp at hop
  simp only [eL_law_1224, eL_law_1225, eL_law_1228, eL_law_1229, eL_law_1232, eL_law_1235, eL_law_1236, kd_0, kd_60, an_60, rd_60, Nat.reduceLeDiff, Nat.reduceEqDiff, Nat.reduceAdd, if_true, if_false, b2i_T, b2i_F, and_self, and_false, false_and, true_and, and_true, true_or, or_true, false_or, or_false, or_self, not_true_eq_false, not_false_eq_true, eq_self, List.cons_append, List.nil_append]
  refine sx_call_mono hop (fun r A1 Z1 h1 => ?_)
  obtain ⟨v, rfl⟩ := okQ_ex h1
  simp only [eL_law_1224, eL_law_1225, eL_law_1228, eL_law_1229, eL_law_1232, eL_law_1235, eL_law_1236, kd_39, kd_60, an_60, rd_60, Nat.reduceLeDiff, Nat.reduceEqDiff, Nat.reduceAdd, if_true, if_false, b2i_T, b2i_F, and_self, and_false, false_and, true_and, and_true, true_or, or_true, false_or, or_false, or_self, not_true_eq_false, not_false_eq_true, eq_self, List.cons_append, List.nil_append]
  refine sx_call_mono h1 (fun r2 A2 Z2 h2 => ?_)
  obtain ⟨rfl, -, h3⟩ := h2
  simp only [eL_law_1224, eL_law_1225, eL_law_1228, eL_law_1229, eL_law_1232, eL_law_1235, eL_law_1236, Nat.reduceLeDiff, Nat.reduceEqDiff, Nat.reduceAdd, if_true, if_false, b2i_T, b2i_F, and_self, and_false, false_and, true_and, and_true, true_or, or_true, false_or, or_false, or_self, not_true_eq_false, not_false_eq_true, eq_self, List.cons_append, List.nil_append]
  exact hQ A2 Z2 h3

theorem lw_c36 (hi : i + 6 ≤ G.1) (hG : G.1 ≤ 3072) (hop : okOp G c A Z mX3_undo mX4_undo []) (hQ : ∀ A' Z', Rel (c + 1) A' Z' → sx_ev G mL_law 1309 [some (.ref 60), some (.ref 0), some (.ref 39), some (.int (nI i))] [] A' Z' Q) : sx_ev G mL_law 1237 [some (.ref 60), some (.ref 0), some (.ref 39), some (.int (nI i))] [] A Z Q := by
  unfold okOp at hop
  simp only [eL_law_1237, eL_law_1238, eL_law_1241, eL_law_1242, eL_law_1245, eL_law_1248, eL_law_1249, kd_0, kd_60, an_60, rd_60, Nat.reduceLeDiff, Nat.reduceEqDiff, Nat.reduceAdd, if_true, if_false, b2i_T, b2i_F, and_self, and_false, false_and, true_and, and_true, true_or, or_true, false_or, or_false, or_self, not_true_eq_false, not_false_eq_true, eq_self, List.cons_append, List.nil_append]
  refine sx_call_mono hop (fun r A1 Z1 h1 => ?_)
  obtain ⟨v, rfl⟩ := okQ_ex h1
  simp only [eL_law_1237, eL_law_1238, eL_law_1241, eL_law_1242, eL_law_1245, eL_law_1248, eL_law_1249, kd_39, kd_60, an_60, rd_60, Nat.reduceLeDiff, Nat.reduceEqDiff, Nat.reduceAdd, if_true, if_false, b2i_T, b2i_F, and_self, and_false, false_and, true_and, and_true, true_or, or_true, false_or, or_false, or_self, not_true_eq_false, not_false_eq_true, eq_self, List.cons_append, List.nil_append]
  refine sx_call_mono h1 (fun r2 A2 Z2 h2 => ?_)
  obtain ⟨rfl, -, h3⟩ := h2
  simp only [eL_law_1237, eL_law_1238, eL_law_1241, eL_law_1242, eL_law_1245, eL_law_1248, eL_law_1249, Nat.reduceLeDiff, Nat.reduceEqDiff, Nat.reduceAdd, if_true, if_false, b2i_T, b2i_F, and_self, and_false, false_and, true_and, and_true, true_or, or_true, false_or, or_false, or_self, not_true_eq_false, not_false_eq_true, eq_self, List.cons_append, List.nil_append]
  exact hQ A2 Z2 h3

theorem lw_c37 (hi : i + 6 ≤ G.1) (hG : G.1 ≤ 3072) (hop : okOp G c A Z mX3_tear mX4_tear []) (hQ : ∀ A' Z', Rel (c + 1) A' Z' → sx_ev G mL_law 1309 [some (.ref 60), some (.ref 0), some (.ref 39), some (.int (nI i))] [] A' Z' Q) : sx_ev G mL_law 1250 [some (.ref 60), some (.ref 0), some (.ref 39), some (.int (nI i))] [] A Z Q := by
  unfold okOp at hop
  simp only [eL_law_1250, eL_law_1251, eL_law_1254, eL_law_1255, eL_law_1258, eL_law_1261, eL_law_1262, kd_0, kd_60, an_60, rd_60, Nat.reduceLeDiff, Nat.reduceEqDiff, Nat.reduceAdd, if_true, if_false, b2i_T, b2i_F, and_self, and_false, false_and, true_and, and_true, true_or, or_true, false_or, or_false, or_self, not_true_eq_false, not_false_eq_true, eq_self, List.cons_append, List.nil_append]
  refine sx_call_mono hop (fun r A1 Z1 h1 => ?_)
  obtain ⟨v, rfl⟩ := okQ_ex h1
  simp only [eL_law_1250, eL_law_1251, eL_law_1254, eL_law_1255, eL_law_1258, eL_law_1261, eL_law_1262, kd_39, kd_60, an_60, rd_60, Nat.reduceLeDiff, Nat.reduceEqDiff, Nat.reduceAdd, if_true, if_false, b2i_T, b2i_F, and_self, and_false, false_and, true_and, and_true, true_or, or_true, false_or, or_false, or_self, not_true_eq_false, not_false_eq_true, eq_self, List.cons_append, List.nil_append]
  refine sx_call_mono h1 (fun r2 A2 Z2 h2 => ?_)
  obtain ⟨rfl, -, h3⟩ := h2
  simp only [eL_law_1250, eL_law_1251, eL_law_1254, eL_law_1255, eL_law_1258, eL_law_1261, eL_law_1262, Nat.reduceLeDiff, Nat.reduceEqDiff, Nat.reduceAdd, if_true, if_false, b2i_T, b2i_F, and_self, and_false, false_and, true_and, and_true, true_or, or_true, false_or, or_false, or_self, not_true_eq_false, not_false_eq_true, eq_self, List.cons_append, List.nil_append]
  exact hQ A2 Z2 h3

theorem lw_c38 (hi : i + 6 ≤ G.1) (hG : G.1 ≤ 3072) (hop : okOp G c A Z mX3_count mX4_count [.int (G.2 (i + 1))]) (hQ : ∀ A' Z', Rel (c + 1) A' Z' → sx_ev G mL_law 1309 [some (.ref 60), some (.ref 0), some (.ref 39), some (.int (nI i))] [] A' Z' Q) : sx_ev G mL_law 1263 [some (.ref 60), some (.ref 0), some (.ref 39), some (.int (nI i))] [] A Z Q := by
  have x1 : nI i + 1 = nI (i + 1) := nI_add i 1
  have a1 : ¬ nI (i + 1) < 0 := nI_pos (by omega)
  have k1 : (nI (i + 1)).toNatClampNeg = i + 1 := nI_clamp (by omega)
  have d1 : ¬ G.1 ≤ i + 1 := by omega
  unfold okOp at hop
  simp only [eL_law_1263, eL_law_1264, eL_law_1265, eL_law_1266, eL_law_1267, eL_law_1268, eL_law_1269, eL_law_1272, eL_law_1273, eL_law_1274, eL_law_1275, eL_law_1276, eL_law_1277, eL_law_1278, eL_law_1281, eL_law_1284, eL_law_1285, kd_0, kd_60, an_60, rd_60, x1, a1, k1, d1, Nat.reduceLeDiff, Nat.reduceEqDiff, Nat.reduceAdd, if_true, if_false, b2i_T, b2i_F, and_self, and_false, false_and, true_and, and_true, true_or, or_true, false_or, or_false, or_self, not_true_eq_false, not_false_eq_true, eq_self, List.cons_append, List.nil_append]
  refine sx_call_mono hop (fun r A1 Z1 h1 => ?_)
  obtain ⟨v, rfl⟩ := okQ_ex h1
  simp only [eL_law_1263, eL_law_1264, eL_law_1265, eL_law_1266, eL_law_1267, eL_law_1268, eL_law_1269, eL_law_1272, eL_law_1273, eL_law_1274, eL_law_1275, eL_law_1276, eL_law_1277, eL_law_1278, eL_law_1281, eL_law_1284, eL_law_1285, kd_39, kd_60, an_60, rd_60, x1, a1, k1, d1, Nat.reduceLeDiff, Nat.reduceEqDiff, Nat.reduceAdd, if_true, if_false, b2i_T, b2i_F, and_self, and_false, false_and, true_and, and_true, true_or, or_true, false_or, or_false, or_self, not_true_eq_false, not_false_eq_true, eq_self, List.cons_append, List.nil_append]
  refine sx_call_mono h1 (fun r2 A2 Z2 h2 => ?_)
  obtain ⟨rfl, -, h3⟩ := h2
  simp only [eL_law_1263, eL_law_1264, eL_law_1265, eL_law_1266, eL_law_1267, eL_law_1268, eL_law_1269, eL_law_1272, eL_law_1273, eL_law_1274, eL_law_1275, eL_law_1276, eL_law_1277, eL_law_1278, eL_law_1281, eL_law_1284, eL_law_1285, Nat.reduceLeDiff, Nat.reduceEqDiff, Nat.reduceAdd, if_true, if_false, b2i_T, b2i_F, and_self, and_false, false_and, true_and, and_true, true_or, or_true, false_or, or_false, or_self, not_true_eq_false, not_false_eq_true, eq_self, List.cons_append, List.nil_append]
  exact hQ A2 Z2 h3

theorem lw_c39 (hi : i + 6 ≤ G.1) (hG : G.1 ≤ 3072) (hop : okOp G c A Z mX3_status mX4_status [.int (G.2 (i + 1))]) (hQ : ∀ A' Z', Rel (c + 1) A' Z' → sx_ev G mL_law 1309 [some (.ref 60), some (.ref 0), some (.ref 39), some (.int (nI i))] [] A' Z' Q) : sx_ev G mL_law 1286 [some (.ref 60), some (.ref 0), some (.ref 39), some (.int (nI i))] [] A Z Q := by
  have x1 : nI i + 1 = nI (i + 1) := nI_add i 1
  have a1 : ¬ nI (i + 1) < 0 := nI_pos (by omega)
  have k1 : (nI (i + 1)).toNatClampNeg = i + 1 := nI_clamp (by omega)
  have d1 : ¬ G.1 ≤ i + 1 := by omega
  unfold okOp at hop
  simp only [eL_law_1286, eL_law_1287, eL_law_1288, eL_law_1289, eL_law_1290, eL_law_1291, eL_law_1292, eL_law_1295, eL_law_1296, eL_law_1297, eL_law_1298, eL_law_1299, eL_law_1300, eL_law_1301, eL_law_1304, eL_law_1307, eL_law_1308, kd_0, kd_60, an_60, rd_60, x1, a1, k1, d1, Nat.reduceLeDiff, Nat.reduceEqDiff, Nat.reduceAdd, if_true, if_false, b2i_T, b2i_F, and_self, and_false, false_and, true_and, and_true, true_or, or_true, false_or, or_false, or_self, not_true_eq_false, not_false_eq_true, eq_self, List.cons_append, List.nil_append]
  refine sx_call_mono hop (fun r A1 Z1 h1 => ?_)
  obtain ⟨v, rfl⟩ := okQ_ex h1
  simp only [eL_law_1286, eL_law_1287, eL_law_1288, eL_law_1289, eL_law_1290, eL_law_1291, eL_law_1292, eL_law_1295, eL_law_1296, eL_law_1297, eL_law_1298, eL_law_1299, eL_law_1300, eL_law_1301, eL_law_1304, eL_law_1307, eL_law_1308, kd_39, kd_60, an_60, rd_60, x1, a1, k1, d1, Nat.reduceLeDiff, Nat.reduceEqDiff, Nat.reduceAdd, if_true, if_false, b2i_T, b2i_F, and_self, and_false, false_and, true_and, and_true, true_or, or_true, false_or, or_false, or_self, not_true_eq_false, not_false_eq_true, eq_self, List.cons_append, List.nil_append]
  refine sx_call_mono h1 (fun r2 A2 Z2 h2 => ?_)
  obtain ⟨rfl, -, h3⟩ := h2
  simp only [eL_law_1286, eL_law_1287, eL_law_1288, eL_law_1289, eL_law_1290, eL_law_1291, eL_law_1292, eL_law_1295, eL_law_1296, eL_law_1297, eL_law_1298, eL_law_1299, eL_law_1300, eL_law_1301, eL_law_1304, eL_law_1307, eL_law_1308, Nat.reduceLeDiff, Nat.reduceEqDiff, Nat.reduceAdd, if_true, if_false, b2i_T, b2i_F, and_self, and_false, false_and, true_and, and_true, true_or, or_true, false_or, or_false, or_self, not_true_eq_false, not_false_eq_true, eq_self, List.cons_append, List.nil_append]
  exact hQ A2 Z2 h3

theorem lw_round (hc : c ≤ 512) (hi : i + 6 ≤ G.1) (hG : G.1 ≤ 3072) (h : Rel c A Z) (hQ : ∀ A' Z', Rel (c + 1) A' Z' → sx_ev G mL_law 1309 [some (.ref 60), some (.ref 0), some (.ref 39), some (.int (nI i))] [] A' Z' Q) : sx_ev G mL_law 27 [some (.ref 60), some (.ref 0), some (.ref 39), some (.int (nI i))] [] A Z Q := by
  have a0 : ¬ nI i < 0 := nI_pos (by omega)
  have k0 : (nI i).toNatClampNeg = i := nI_clamp (by omega)
  have d0 : ¬ G.1 ≤ i := by omega
  have hdef := hQ A Z (h.up (Nat.le_succ c))
  simp only [eL_law_19, eL_law_20, eL_law_21, eL_law_23, eL_law_24, eL_law_27, eL_law_28, eL_law_29, eL_law_30, eL_law_32, kd_60, an_60, rd_60, a0, k0, d0, Nat.reduceLeDiff, Nat.reduceEqDiff, Nat.reduceAdd, if_true, if_false, b2i_T, b2i_F, and_self, and_false, false_and, true_and, and_true, true_or, or_true, false_or, or_false, or_self, not_true_eq_false, not_false_eq_true, eq_self, List.cons_append, List.nil_append]
  rw [eL_law_33]
  exact ite_i (lw_c0 hi hG (op_person h) hQ) (ite_i (lw_c1 hi hG (op_of h) hQ) (ite_i (lw_c2 hi hG (op_heart h) hQ) (ite_i (lw_c3 hi hG (op_set h) hQ) (ite_i (lw_c4 hi hG (op_turn h) hQ) (ite_i (lw_c5 hi hG (op_as h) hQ) (ite_i (lw_c6 hi hG (op_news h) hQ) (ite_i (lw_c7 hi hG (op_load h) hQ) (ite_i (lw_c8 hi hG (op_at h) hQ) (ite_i (lw_c9 hi hG (op_hang h) hQ) (ite_i (lw_c10 hi hG (op_take hc h) hQ) (ite_i (lw_c11 hi hG (op_bag h) hQ) (ite_i (lw_c12 hi hG (op_minutes h) hQ) (ite_i (lw_c13 hi hG (op_now h) hQ) (ite_i (lw_c14 hi hG (op_on h) hQ) (ite_i (lw_c15 hi hG (op_tilt h) hQ) (ite_i (lw_c16 hi hG (op_level h) hQ) (ite_i (lw_c17 hi hG (op_mixed h) hQ) (ite_i (lw_c18 hi hG (op_match h) hQ) (ite_i (lw_c19 hi hG (op_seats h) hQ) (ite_i (lw_c20 hi hG (op_weights h) hQ) (ite_i (lw_c21 hi hG (op_sorrow h) hQ) (ite_i (lw_c22 hi hG (op_kind hc h) hQ) (ite_i (lw_c23 hi hG (op_delay h) hQ) (ite_i (lw_c24 hi hG (op_fewest h) hQ) (ite_i (lw_c25 hi hG (op_helps h) hQ) (ite_i (lw_c26 hi hG (op_feed h) hQ) (ite_i (lw_c27 hi hG (op_wipe h) hQ) (ite_i (lw_c28 hi hG (op_park h) hQ) (ite_i (lw_c29 hi hG (op_sheet h) hQ) (ite_i (lw_c30 hi hG (op_write h) hQ) (ite_i (lw_c31 hi hG (op_copy h) hQ) (ite_i (lw_c32 hi hG (op_lays h) hQ) (ite_i (lw_c33 hi hG (op_book h) hQ) (ite_i (lw_c34 hi hG (op_read h) hQ) (ite_i (lw_c35 hi hG (op_image h) hQ) (ite_i (lw_c36 hi hG (op_undo h) hQ) (ite_i (lw_c37 hi hG (op_tear h) hQ) (ite_i (lw_c38 hi hG (op_count h) hQ) (ite_i (lw_c39 hi hG (op_status h) hQ) (hdef))))))))))))))))))))))))))))))))))))))))
theorem lw_loop (hG : G.1 ≤ 3072) : ∀ (k c : Nat) (A : sx_A) (Z : sx_Z), c + k = 512 → Rel c A Z → sx_ev G mL_law 18 [some (.ref 60), some (.ref 0), some (.ref 39), some (.int (nI (6 * c)))] [] A Z (fun r _ _ => r = [.int 1]) := by
  have hcond : ∀ c, c ≤ 512 → ((nI G.1 - 6 < nI (6 * c)) ↔ G.1 < 6 * c + 6) := by
    intro c hc
    have e1 : (nI G.1 - 6).toInt = (G.1 : Int) - 6 := pk_sub_toInt (a := G.1) (b := 6) (by omega) (by omega)
    rw [Int32.lt_iff_toInt_lt, e1, nI_toInt (by omega)]
    omega
  intro k
  induction k with
  | zero =>
    intro c A Z hk h
    rw [eL_law_18]
    have g1 : Int32.ofNat G.1 - 6 < nI (6 * c) := (hcond c (by omega)).mpr (by omega)
    simp only [eL_law_19, eL_law_20, eL_law_21, eL_law_23, eL_law_24, eL_law_1315, eL_law_1316, kd_60, an_60, g1, Nat.reduceLeDiff, Nat.reduceEqDiff, Nat.reduceAdd, if_true, if_false, b2i_T, b2i_F, and_self, and_false, false_and, true_and, and_true, true_or, or_true, false_or, or_false, or_self, not_true_eq_false, not_false_eq_true, eq_self, List.cons_append, List.nil_append]
  | succ k ih =>
    intro c A Z hk h
    rw [eL_law_18]
    by_cases e : G.1 < 6 * c + 6
    · have g1 : Int32.ofNat G.1 - 6 < nI (6 * c) := (hcond c (by omega)).mpr e
      simp only [eL_law_19, eL_law_20, eL_law_21, eL_law_23, eL_law_24, eL_law_1315, eL_law_1316, kd_60, an_60, g1, Nat.reduceLeDiff, Nat.reduceEqDiff, Nat.reduceAdd, if_true, if_false, b2i_T, b2i_F, and_self, and_false, false_and, true_and, and_true, true_or, or_true, false_or, or_false, or_self, not_true_eq_false, not_false_eq_true, eq_self, List.cons_append, List.nil_append]
    · have g1 : ¬ Int32.ofNat G.1 - 6 < nI (6 * c) := fun z => e ((hcond c (by omega)).mp z)
      simp only [eL_law_19, eL_law_20, eL_law_21, eL_law_23, eL_law_24, kd_60, an_60, g1, Nat.reduceLeDiff, Nat.reduceEqDiff, Nat.reduceAdd, if_true, if_false, b2i_T, b2i_F, and_self, and_false, false_and, true_and, and_true, true_or, or_true, false_or, or_false, or_self, not_true_eq_false, not_false_eq_true, eq_self, List.cons_append, List.nil_append]
      refine lw_round (c := c) (by omega) (by omega) hG h (fun A' Z' h' => ?_)
      have h4 := ih (c + 1) A' Z' (by omega) h'
      have e6 : nI (6 * c) + 6 = nI (6 * (c + 1)) := nI_add (6 * c) 6
      simp only [eL_law_1309, eL_law_1312, e6]
      exact h4
end LAW
/-- the ints as the two objects are made -/
def sx_A0 : sx_A := fun k => if k = 1 ∨ k = 7 ∨ k = 13 ∨ k = 19 then (fun j => if j = 7 then 10 else 0) else if k = 40 then upd (fun _ => 0) 2 10 else fun _ => 0
def sx_Z0 : sx_Z := fun _ _ => 0
theorem Rel_0 : Rel 0 sx_A0 sx_Z0 := by
  have sh : ∀ k, k < 4 → r_S (sx_A0 (30 + 2 * k)) (sx_A0 46) (sx_A0 47) k (sx_Z0 (30 + 2 * k + 1)) (sx_Z0 48) := by
    intro k hk
    have e : sx_A0 (30 + 2 * k) = fun _ => 0 := by
      unfold sx_A0
      rw [if_neg (by omega), if_neg (by omega)]
    rw [e]
    exact ⟨⟨0, by omega, rfl, rfl, fun j hj => absurd hj (by omega)⟩, rfl, Or.inl rfl⟩
  exact ⟨⟨0, ⟨by omega, rfl, rfl⟩, ⟨rfl, rfl, 10, by omega, rfl⟩, ⟨rfl, rfl, ⟨0, by omega, rfl⟩, 0, by omega, rfl⟩, fun p hp => absurd hp (by omega)⟩, ⟨rfl, Or.inl rfl⟩, ⟨0, by omega, rfl, rfl, fun j hj => absurd hj (by omega)⟩, ⟨sh 0 (by omega), sh 1 (by omega), sh 2 (by omega), sh 3 (by omega)⟩, fun j _ => rfl⟩
/-- the law's body, over the pure machine -/
theorem law_pure (G : sx_G) (hG : G.1 ≤ 3072) : sx_ev G mL_law 16 [some (.ref 60), some (.ref 0), some (.ref 39), none] [] sx_A0 sx_Z0 (fun r _ _ => r = [.int 1]) := by
  rw [eL_law_16, eL_law_17]
  exact lw_loop hG 512 0 sx_A0 sx_Z0 (by omega) Rel_0
