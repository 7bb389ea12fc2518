/-! ===== SCHOOL, the call ===== -/
theorem PaS.gd {sc : Sg} (h : PaS sc) : Gd sc := by
  obtain ⟨⟨a1, a2, a3⟩, b, c, d⟩ := h
  have e0 : pop (sc.1 5) = 0 := by rw [a3]; rfl
  refine ⟨c, ?_, by omega, by omega, by omega, by omega, d, fun v hv hs => ?_⟩
  · rw [a3]
    exact Nat.two_pow_pos _
  · rw [a3, Nat.zero_testBit] at hs
    cases hs
theorem cl_s {i : Nat} (hi : i < 4) (W : Wd) : zR 193 16 [.ref 267, .int (nI i)] [] W = zR 193 16 [.ref 267, .int (nI (i + 1))] [] (sI W 275 (16 + i) (nI 0)) := by
  have b : 16 + i < 24 := by omega
  rw [zR_W [16]]
  simp (disch := omega) only [tt_193, T_193, mx_193, Nat.reduceLT, Nat.reduceLeDiff, Nat.reduceEqDiff, Nat.reduceAdd, Nat.reduceMul, Nat.reduceSub, Nat.reducePow, Nat.reduceMod, Nat.reduceDiv, Nat.reduceBEq, ↓reduceIte, reduceCtorEq, and_true, true_and, and_false, false_and, and_self, zW_eq, zin, zop, zst, fw_ite, fw_K, fw_R, fw_F, fw_C, zBW_s, nth, stL, okL, nlg, ct, ctv, cI, cL, pu, tkC, iniL, pad, eL, Value.category, swK, bz_0, bz_n0, bz_n1, bI_bz, bI_0, bI_t, bI_f, List.headD_cons, decide_true, decide_false, Bool.true_and, Bool.and_true, Bool.false_and, Bool.and_false, Bool.and_self, Bool.not_true, Bool.not_false, Bool.or_false, Bool.false_or, Bool.true_or, Bool.or_true, Bool.or_self, Bool.false_eq_true, rf_45, rf_47, rf_49, rf_50, rf_51, rf_58, rf_63, rf_65, rf_267, rf45, rf50, rf58, rf63, rf267, ob_45, ob_49, ob_50, ob_58, ob_63, ob_267, ln_46, ln_46n, ln_46m, ln_47, ln_47n, ln_48, ln_48n, ln_51, ln_56, ln_57, ln_59, ln_60, ln_61, ln_62, ln_64, ln_64n, ln_65, ln_268, ln_269, ln_270, ln_270n, ln_271, ln_271n, ln_272, ln_272n, ln_272m, ln_273, ln_274, ln_275, ln_276, ln_277, ln_278, ln_278n, ln_279, ln_280, ln_281, ln_282, ln_283, ln_283n, ln_284, ln_285, ln_286, ln_286n, ln_287, ln_287n, ln_288, ln_289, ln_289n, gF_sF, gF_sG, gF_sI, gF_sJ, gF_sP, gF_sR, gF_sL, gG_sF, gG_sG, gG_sI, gG_sJ, gG_sP, gG_sR, gG_sL, gI_sF, gI_sG, gI_sI, gI_sJ, gI_sP, gI_sR, gI_sL, gJ_sF, gJ_sG, gJ_sI, gJ_sJ, gJ_sP, gJ_sR, gJ_sL, gP_sF, gP_sG, gP_sI, gP_sJ, gP_sP, gP_sR, gP_sL, inB_n, inC_n, iX_n, nI_add, pk_mul, pk_sub, n_and, n_or, n_xor, n_one, n_ush, n_shr, n_div, n_rem, n_ltm, m_ltn, m_ltm, n_eqm, m_eqn, m_eqm, n_lt, n_eq, n_eq0, n_addm, n_i2l, m_i2l, n_l2i, lN_add, lN_mul, lN_sub, l_div, l_rem, l_eq0, lc_lt, lc_gt, lc_eq, l_lt, l_eq, l_ltm, ml_ltn, ml_ltm, l_eqm, ml_eqn, ml_eqm, ls_1, ls_2, ls_3, ls_4, ls_5, ls_6, ls_7, ls_8, ls_10, ls_11, ls_12, ls_13, ls_14, ls_15, ls_16, ls_17, ob_0, ob_9, rf_0, rf_9, hi, b]
theorem cl_e (W : Wd) : zR 193 16 [.ref 267, .int (nI 4)] [] W = some (none, W) := by
  rw [zR_W [16]]
  simp (disch := omega) only [tt_193, T_193, mx_193, Nat.reduceLT, Nat.reduceLeDiff, Nat.reduceEqDiff, Nat.reduceAdd, Nat.reduceMul, Nat.reduceSub, Nat.reducePow, Nat.reduceMod, Nat.reduceDiv, Nat.reduceBEq, ↓reduceIte, reduceCtorEq, and_true, true_and, and_false, false_and, and_self, zW_eq, zin, zop, zst, fw_ite, fw_K, fw_R, fw_F, fw_C, zBW_s, nth, stL, okL, nlg, ct, ctv, cI, cL, pu, tkC, iniL, pad, eL, Value.category, swK, bz_0, bz_n0, bz_n1, bI_bz, bI_0, bI_t, bI_f, List.headD_cons, decide_true, decide_false, Bool.true_and, Bool.and_true, Bool.false_and, Bool.and_false, Bool.and_self, Bool.not_true, Bool.not_false, Bool.or_false, Bool.false_or, Bool.true_or, Bool.or_true, Bool.or_self, Bool.false_eq_true, rf_45, rf_47, rf_49, rf_50, rf_51, rf_58, rf_63, rf_65, rf_267, rf45, rf50, rf58, rf63, rf267, ob_45, ob_49, ob_50, ob_58, ob_63, ob_267, ln_46, ln_46n, ln_46m, ln_47, ln_47n, ln_48, ln_48n, ln_51, ln_56, ln_57, ln_59, ln_60, ln_61, ln_62, ln_64, ln_64n, ln_65, ln_268, ln_269, ln_270, ln_270n, ln_271, ln_271n, ln_272, ln_272n, ln_272m, ln_273, ln_274, ln_275, ln_276, ln_277, ln_278, ln_278n, ln_279, ln_280, ln_281, ln_282, ln_283, ln_283n, ln_284, ln_285, ln_286, ln_286n, ln_287, ln_287n, ln_288, ln_289, ln_289n, gF_sF, gF_sG, gF_sI, gF_sJ, gF_sP, gF_sR, gF_sL, gG_sF, gG_sG, gG_sI, gG_sJ, gG_sP, gG_sR, gG_sL, gI_sF, gI_sG, gI_sI, gI_sJ, gI_sP, gI_sR, gI_sL, gJ_sF, gJ_sG, gJ_sI, gJ_sJ, gJ_sP, gJ_sR, gJ_sL, gP_sF, gP_sG, gP_sI, gP_sJ, gP_sP, gP_sR, gP_sL, inB_n, inC_n, iX_n, nI_add, pk_mul, pk_sub, n_and, n_or, n_xor, n_one, n_ush, n_shr, n_div, n_rem, n_ltm, m_ltn, m_ltm, n_eqm, m_eqn, m_eqm, n_lt, n_eq, n_eq0, n_addm, n_i2l, m_i2l, n_l2i, lN_add, lN_mul, lN_sub, l_div, l_rem, l_eq0, lc_lt, lc_gt, lc_eq, l_lt, l_eq, l_ltm, ml_ltn, ml_ltm, l_eqm, ml_eqn, ml_eqm, ls_1, ls_2, ls_3, ls_4, ls_5, ls_6, ls_7, ls_8, ls_10, ls_11, ls_12, ls_13, ls_14, ls_15, ls_16, ls_17, ob_0, ob_9, rf_0, rf_9, Nat.lt_irrefl]
def clW (w : Wd) : Wd := sI (sI (sI (sI (sI (sI w 273 4 (nI 0)) 274 4 (nI 0)) 275 16 (nI 0)) 275 17 (nI 0)) 275 18 (nI 0)) 275 19 (nI 0)
theorem t_clears (w : Wd) : zE 193 [.ref 267] w = some (none, clW w) := by
  have hq : zR 193 16 [.ref 267, .int (nI 0)] [] (sI (sI w 273 4 (nI 0)) 274 4 (nI 0)) = some (none, clW w) := (cl_s (i := 0) (by decide) _).trans ((cl_s (i := 1) (by decide) _).trans ((cl_s (i := 2) (by decide) _).trans ((cl_s (i := 3) (by decide) _).trans (cl_e _))))
  rw [zE_W [16]]
  simp (disch := omega) only [tt_193, T_193, mx_193, Nat.reduceLT, Nat.reduceLeDiff, Nat.reduceEqDiff, Nat.reduceAdd, Nat.reduceMul, Nat.reduceSub, Nat.reducePow, Nat.reduceMod, Nat.reduceDiv, Nat.reduceBEq, ↓reduceIte, reduceCtorEq, and_true, true_and, and_false, false_and, and_self, zW_eq, zin, zop, zst, fw_ite, fw_K, fw_R, fw_F, fw_C, zBW_s, nth, stL, okL, nlg, ct, ctv, cI, cL, pu, tkC, iniL, pad, eL, Value.category, swK, bz_0, bz_n0, bz_n1, bI_bz, bI_0, bI_t, bI_f, List.headD_cons, decide_true, decide_false, Bool.true_and, Bool.and_true, Bool.false_and, Bool.and_false, Bool.and_self, Bool.not_true, Bool.not_false, Bool.or_false, Bool.false_or, Bool.true_or, Bool.or_true, Bool.or_self, Bool.false_eq_true, rf_45, rf_47, rf_49, rf_50, rf_51, rf_58, rf_63, rf_65, rf_267, rf45, rf50, rf58, rf63, rf267, ob_45, ob_49, ob_50, ob_58, ob_63, ob_267, ln_46, ln_46n, ln_46m, ln_47, ln_47n, ln_48, ln_48n, ln_51, ln_56, ln_57, ln_59, ln_60, ln_61, ln_62, ln_64, ln_64n, ln_65, ln_268, ln_269, ln_270, ln_270n, ln_271, ln_271n, ln_272, ln_272n, ln_272m, ln_273, ln_274, ln_275, ln_276, ln_277, ln_278, ln_278n, ln_279, ln_280, ln_281, ln_282, ln_283, ln_283n, ln_284, ln_285, ln_286, ln_286n, ln_287, ln_287n, ln_288, ln_289, ln_289n, gF_sF, gF_sG, gF_sI, gF_sJ, gF_sP, gF_sR, gF_sL, gG_sF, gG_sG, gG_sI, gG_sJ, gG_sP, gG_sR, gG_sL, gI_sF, gI_sG, gI_sI, gI_sJ, gI_sP, gI_sR, gI_sL, gJ_sF, gJ_sG, gJ_sI, gJ_sJ, gJ_sP, gJ_sR, gJ_sL, gP_sF, gP_sG, gP_sI, gP_sJ, gP_sP, gP_sR, gP_sL, inB_n, inC_n, iX_n, nI_add, pk_mul, pk_sub, n_and, n_or, n_xor, n_one, n_ush, n_shr, n_div, n_rem, n_ltm, m_ltn, m_ltm, n_eqm, m_eqn, m_eqm, n_lt, n_eq, n_eq0, n_addm, n_i2l, m_i2l, n_l2i, lN_add, lN_mul, lN_sub, l_div, l_rem, l_eq0, lc_lt, lc_gt, lc_eq, l_lt, l_eq, l_ltm, ml_ltn, ml_ltm, l_eqm, ml_eqn, ml_eqm, ls_1, ls_2, ls_3, ls_4, ls_5, ls_6, ls_7, ls_8, ls_10, ls_11, ls_12, ls_13, ls_14, ls_15, ls_16, ls_17, ob_0, ob_9, rf_0, rf_9, hq]
theorem clW_Q (w : Wd) : SfQ w (clW w) := (((((SfQ.sI _ _ _ _ (by omega)).tr (SfQ.sI _ _ _ _ (by omega))).tr (SfQ.sI _ _ _ _ (by omega))).tr (SfQ.sI _ _ _ _ (by omega))).tr (SfQ.sI _ _ _ _ (by omega))).tr (SfQ.sI _ _ _ _ (by omega))
theorem clW_em (w : Wd) : MoQ 4 emS (clW w) := by
  unfold clW
  refine ⟨?_, ?_, fun v hv => absurd hv (Nat.not_lt_zero _), ?_, ?_, ?_, ?_, fun v hv => absurd hv (Nat.not_lt_zero _)⟩
  · simp only [gI_sI]; rfl
  · simp only [gI_sI]; rfl
  · simp only [gI_sI]; rfl
  · simp only [gI_sI]; rfl
  · simp only [gI_sI]; rfl
  · simp only [gI_sI]; rfl
theorem t_begins {T : Nat → Int32} {n : Nat} {w : Wd} (hn : n ≤ 1600) (h6 : gF w 267 6 = nI n) (hT : ∀ i, i < n → gI w 272 i = T i) : ∃ w', zE 189 [.ref 267] w = some (none, w') ∧ RmS T n (tkN T n 0) w' ∧ SfB w w' := by
  have f0 : SfB w (sF (sF (sF w 267 12 (nI 0)) 267 13 (mI 1)) 267 7 (nI 0)) := ((SfB.sF _ 12 _ (by decide)).tr (SfB.sF _ 13 _ (by decide))).tr (SfB.sF _ 7 _ (by decide))
  have rT : RmT T n (sF (sF (sF w 267 12 (nI 0)) 267 13 (mI 1)) 267 7 (nI 0)) := ⟨hn, (f0.2.1 6 (by omega)).trans h6, hT⟩
  have g12 : gF (sF (sF (sF w 267 12 (nI 0)) 267 13 (mI 1)) 267 7 (nI 0)) 267 12 = nI 0 := by
    rw [gF_sF, if_neg (by omega), gF_sF, if_neg (by omega), gF_sF, if_pos ⟨rfl, rfl⟩]
  obtain ⟨w', e1, e2, e3⟩ := t_next rT (Nat.zero_le n) (by rw [gF_sF, if_pos ⟨rfl, rfl⟩])
  refine ⟨w', ?_, ⟨rT.fr e3, e2, (e3.2.1 12 (by decide) (by decide) (by decide) (by decide)).trans g12, 0, Nat.zero_le n, rfl⟩, f0.tr e3.B⟩
  rw [zE_W []]
  simp (disch := omega) only [tt_189, T_189, mx_189, Nat.reduceLT, Nat.reduceLeDiff, Nat.reduceEqDiff, Nat.reduceAdd, Nat.reduceMul, Nat.reduceSub, Nat.reducePow, Nat.reduceMod, Nat.reduceDiv, Nat.reduceBEq, ↓reduceIte, reduceCtorEq, and_true, true_and, and_false, false_and, and_self, zW_eq, zin, zop, zst, fw_ite, fw_K, fw_R, fw_F, fw_C, zBW_s, nth, stL, okL, nlg, ct, ctv, cI, cL, pu, tkC, iniL, pad, eL, Value.category, swK, bz_0, bz_n0, bz_n1, bI_bz, bI_0, bI_t, bI_f, List.headD_cons, decide_true, decide_false, Bool.true_and, Bool.and_true, Bool.false_and, Bool.and_false, Bool.and_self, Bool.not_true, Bool.not_false, Bool.or_false, Bool.false_or, Bool.true_or, Bool.or_true, Bool.or_self, Bool.false_eq_true, rf_45, rf_47, rf_49, rf_50, rf_51, rf_58, rf_63, rf_65, rf_267, rf45, rf50, rf58, rf63, rf267, ob_45, ob_49, ob_50, ob_58, ob_63, ob_267, ln_46, ln_46n, ln_46m, ln_47, ln_47n, ln_48, ln_48n, ln_51, ln_56, ln_57, ln_59, ln_60, ln_61, ln_62, ln_64, ln_64n, ln_65, ln_268, ln_269, ln_270, ln_270n, ln_271, ln_271n, ln_272, ln_272n, ln_272m, ln_273, ln_274, ln_275, ln_276, ln_277, ln_278, ln_278n, ln_279, ln_280, ln_281, ln_282, ln_283, ln_283n, ln_284, ln_285, ln_286, ln_286n, ln_287, ln_287n, ln_288, ln_289, ln_289n, gF_sF, gF_sG, gF_sI, gF_sJ, gF_sP, gF_sR, gF_sL, gG_sF, gG_sG, gG_sI, gG_sJ, gG_sP, gG_sR, gG_sL, gI_sF, gI_sG, gI_sI, gI_sJ, gI_sP, gI_sR, gI_sL, gJ_sF, gJ_sG, gJ_sI, gJ_sJ, gJ_sP, gJ_sR, gJ_sL, gP_sF, gP_sG, gP_sI, gP_sJ, gP_sP, gP_sR, gP_sL, inB_n, inC_n, iX_n, nI_add, pk_mul, pk_sub, n_and, n_or, n_xor, n_one, n_ush, n_shr, n_div, n_rem, n_ltm, m_ltn, m_ltm, n_eqm, m_eqn, m_eqm, n_lt, n_eq, n_eq0, n_addm, n_i2l, m_i2l, n_l2i, lN_add, lN_mul, lN_sub, l_div, l_rem, l_eq0, lc_lt, lc_gt, lc_eq, l_lt, l_eq, l_ltm, ml_ltn, ml_ltm, l_eqm, ml_eqn, ml_eqm, ls_1, ls_2, ls_3, ls_4, ls_5, ls_6, ls_7, ls_8, ls_10, ls_11, ls_12, ls_13, ls_14, ls_15, ls_16, ls_17, ob_0, ob_9, rf_0, rf_9, e1]
theorem o_0 {W : Wd} (h : gF W 267 12 = nI 0) : zE 190 [.ref 267] W = some (none, sF (sF (sF W 267 6 (nI 0)) 267 14 (nI 0)) 267 15 (mI 1)) := by
  rw [zE_W []]
  simp (disch := omega) only [tt_190, T_190, mx_190, Nat.reduceLT, Nat.reduceLeDiff, Nat.reduceEqDiff, Nat.reduceAdd, Nat.reduceMul, Nat.reduceSub, Nat.reducePow, Nat.reduceMod, Nat.reduceDiv, Nat.reduceBEq, ↓reduceIte, reduceCtorEq, and_true, true_and, and_false, false_and, and_self, zW_eq, zin, zop, zst, fw_ite, fw_K, fw_R, fw_F, fw_C, zBW_s, nth, stL, okL, nlg, ct, ctv, cI, cL, pu, tkC, iniL, pad, eL, Value.category, swK, bz_0, bz_n0, bz_n1, bI_bz, bI_0, bI_t, bI_f, List.headD_cons, decide_true, decide_false, Bool.true_and, Bool.and_true, Bool.false_and, Bool.and_false, Bool.and_self, Bool.not_true, Bool.not_false, Bool.or_false, Bool.false_or, Bool.true_or, Bool.or_true, Bool.or_self, Bool.false_eq_true, rf_45, rf_47, rf_49, rf_50, rf_51, rf_58, rf_63, rf_65, rf_267, rf45, rf50, rf58, rf63, rf267, ob_45, ob_49, ob_50, ob_58, ob_63, ob_267, ln_46, ln_46n, ln_46m, ln_47, ln_47n, ln_48, ln_48n, ln_51, ln_56, ln_57, ln_59, ln_60, ln_61, ln_62, ln_64, ln_64n, ln_65, ln_268, ln_269, ln_270, ln_270n, ln_271, ln_271n, ln_272, ln_272n, ln_272m, ln_273, ln_274, ln_275, ln_276, ln_277, ln_278, ln_278n, ln_279, ln_280, ln_281, ln_282, ln_283, ln_283n, ln_284, ln_285, ln_286, ln_286n, ln_287, ln_287n, ln_288, ln_289, ln_289n, gF_sF, gF_sG, gF_sI, gF_sJ, gF_sP, gF_sR, gF_sL, gG_sF, gG_sG, gG_sI, gG_sJ, gG_sP, gG_sR, gG_sL, gI_sF, gI_sG, gI_sI, gI_sJ, gI_sP, gI_sR, gI_sL, gJ_sF, gJ_sG, gJ_sI, gJ_sJ, gJ_sP, gJ_sR, gJ_sL, gP_sF, gP_sG, gP_sI, gP_sJ, gP_sP, gP_sR, gP_sL, inB_n, inC_n, iX_n, nI_add, pk_mul, pk_sub, n_and, n_or, n_xor, n_one, n_ush, n_shr, n_div, n_rem, n_ltm, m_ltn, m_ltm, n_eqm, m_eqn, m_eqm, n_lt, n_eq, n_eq0, n_addm, n_i2l, m_i2l, n_l2i, lN_add, lN_mul, lN_sub, l_div, l_rem, l_eq0, lc_lt, lc_gt, lc_eq, l_lt, l_eq, l_ltm, ml_ltn, ml_ltm, l_eqm, ml_eqn, ml_eqm, ls_1, ls_2, ls_3, ls_4, ls_5, ls_6, ls_7, ls_8, ls_10, ls_11, ls_12, ls_13, ls_14, ls_15, ls_16, ls_17, ob_0, ob_9, rf_0, rf_9, h]
theorem o_f {f p : Nat} {W : Wd} (h : RmF f p W) : zE 190 [.ref 267] W = some (none, sF (sF (sF W 267 6 (nI 0)) 267 14 (nI f)) 267 15 (nI p)) := by
  obtain ⟨n0, n31⟩ := h.n0
  have g := h.2.1
  have g13 := h.2.2
  rw [zE_W []]
  simp (disch := omega) only [tt_190, T_190, mx_190, Nat.reduceLT, Nat.reduceLeDiff, Nat.reduceEqDiff, Nat.reduceAdd, Nat.reduceMul, Nat.reduceSub, Nat.reducePow, Nat.reduceMod, Nat.reduceDiv, Nat.reduceBEq, ↓reduceIte, reduceCtorEq, and_true, true_and, and_false, false_and, and_self, zW_eq, zin, zop, zst, fw_ite, fw_K, fw_R, fw_F, fw_C, zBW_s, nth, stL, okL, nlg, ct, ctv, cI, cL, pu, tkC, iniL, pad, eL, Value.category, swK, bz_0, bz_n0, bz_n1, bI_bz, bI_0, bI_t, bI_f, List.headD_cons, decide_true, decide_false, Bool.true_and, Bool.and_true, Bool.false_and, Bool.and_false, Bool.and_self, Bool.not_true, Bool.not_false, Bool.or_false, Bool.false_or, Bool.true_or, Bool.or_true, Bool.or_self, Bool.false_eq_true, rf_45, rf_47, rf_49, rf_50, rf_51, rf_58, rf_63, rf_65, rf_267, rf45, rf50, rf58, rf63, rf267, ob_45, ob_49, ob_50, ob_58, ob_63, ob_267, ln_46, ln_46n, ln_46m, ln_47, ln_47n, ln_48, ln_48n, ln_51, ln_56, ln_57, ln_59, ln_60, ln_61, ln_62, ln_64, ln_64n, ln_65, ln_268, ln_269, ln_270, ln_270n, ln_271, ln_271n, ln_272, ln_272n, ln_272m, ln_273, ln_274, ln_275, ln_276, ln_277, ln_278, ln_278n, ln_279, ln_280, ln_281, ln_282, ln_283, ln_283n, ln_284, ln_285, ln_286, ln_286n, ln_287, ln_287n, ln_288, ln_289, ln_289n, gF_sF, gF_sG, gF_sI, gF_sJ, gF_sP, gF_sR, gF_sL, gG_sF, gG_sG, gG_sI, gG_sJ, gG_sP, gG_sR, gG_sL, gI_sF, gI_sG, gI_sI, gI_sJ, gI_sP, gI_sR, gI_sL, gJ_sF, gJ_sG, gJ_sI, gJ_sJ, gJ_sP, gJ_sR, gJ_sL, gP_sF, gP_sG, gP_sI, gP_sJ, gP_sP, gP_sR, gP_sL, inB_n, inC_n, iX_n, nI_add, pk_mul, pk_sub, n_and, n_or, n_xor, n_one, n_ush, n_shr, n_div, n_rem, n_ltm, m_ltn, m_ltm, n_eqm, m_eqn, m_eqm, n_lt, n_eq, n_eq0, n_addm, n_i2l, m_i2l, n_l2i, lN_add, lN_mul, lN_sub, l_div, l_rem, l_eq0, lc_lt, lc_gt, lc_eq, l_lt, l_eq, l_ltm, ml_ltn, ml_ltm, l_eqm, ml_eqn, ml_eqm, ls_1, ls_2, ls_3, ls_4, ls_5, ls_6, ls_7, ls_8, ls_10, ls_11, ls_12, ls_13, ls_14, ls_15, ls_16, ls_17, ob_0, ob_9, rf_0, rf_9, g, g13, n0]
set_option maxHeartbeats 4000000 in
set_option maxRecDepth 8192 in
theorem t_mschool {T : Nat → Int32} {n : Nat} {w : Wd} (hn : n ≤ 1600) (h6 : gF w 267 6 = nI n) (hT : ∀ i, i < n → gI w 272 i = T i) : (∃ f p W, pAll T n 17 emS (tkN T n 0) = .inl (f, p) ∧ SfQ (sF w 267 0 (nI 0)) W ∧ zE 194 [.ref 267] w = some (some (.int (mI 4)), sF (sF (sF W 267 6 (nI 0)) 267 14 (nI f)) 267 15 (nI p))) ∨ ∃ sc W, pAll T n 17 emS (tkN T n 0) = .inr sc ∧ PaS sc ∧ SfQ (sF w 267 0 (nI 0)) W ∧ MoQ 4 sc W ∧ zE 194 [.ref 267] w = some (some (.int (nI (sc.1 0))), wCs 4 0 (sF (sF (sF W 267 6 (nI 0)) 267 14 (nI 0)) 267 15 (mI 1))) := by
  have c1 := t_clears (sF w 267 0 (nI 0))
  have fc := clW_Q (sF w 267 0 (nI 0))
  have q0 := clW_em (sF w 267 0 (nI 0))
  generalize clW (sF w 267 0 (nI 0)) = w1 at *
  have h61 : gF w1 267 6 = nI n := (fc.2.1 6 (by omega)).trans (by rw [gF_sF, if_neg (by omega)]; exact h6)
  have hT1 : ∀ i, i < n → gI w1 272 i = T i := fun i hi => ((fc.1.1 272 (by omega)).2.2.1 i).trans (hT i hi)
  obtain ⟨w2, b1, b2, b3⟩ := t_begins hn h61 hT1
  obtain ⟨W, d1, d2, d3⟩ := s_loop (w := sF w 267 0 (nI 0)) 17 emS (tkN T n 0) w2 rfl b2 (q0.frB b3) ⟨⟨rfl, rfl, rfl⟩, Or.inl ⟨rfl, rfl, rfl⟩, Nat.zero_le _, fun v hv => absurd hv (Nat.not_lt_zero _)⟩ (fc.tr b3.Q)
  have h13 : zE 194 [.ref 267] w = zR 194 88 [.ref 267] [] W := by
    rw [← d1, zE_W [13]]
    simp (disch := omega) only [tt_194, T_194, mx_194, Nat.reduceLT, Nat.reduceLeDiff, Nat.reduceEqDiff, Nat.reduceAdd, Nat.reduceMul, Nat.reduceSub, Nat.reducePow, Nat.reduceMod, Nat.reduceDiv, Nat.reduceBEq, ↓reduceIte, reduceCtorEq, and_true, true_and, and_false, false_and, and_self, zW_eq, zin, zop, zst, fw_ite, fw_K, fw_R, fw_F, fw_C, zBW_s, nth, stL, okL, nlg, ct, ctv, cI, cL, pu, tkC, iniL, pad, eL, Value.category, swK, bz_0, bz_n0, bz_n1, bI_bz, bI_0, bI_t, bI_f, List.headD_cons, decide_true, decide_false, Bool.true_and, Bool.and_true, Bool.false_and, Bool.and_false, Bool.and_self, Bool.not_true, Bool.not_false, Bool.or_false, Bool.false_or, Bool.true_or, Bool.or_true, Bool.or_self, Bool.false_eq_true, rf_45, rf_47, rf_49, rf_50, rf_51, rf_58, rf_63, rf_65, rf_267, rf45, rf50, rf58, rf63, rf267, ob_45, ob_49, ob_50, ob_58, ob_63, ob_267, ln_46, ln_46n, ln_46m, ln_47, ln_47n, ln_48, ln_48n, ln_51, ln_56, ln_57, ln_59, ln_60, ln_61, ln_62, ln_64, ln_64n, ln_65, ln_268, ln_269, ln_270, ln_270n, ln_271, ln_271n, ln_272, ln_272n, ln_272m, ln_273, ln_274, ln_275, ln_276, ln_277, ln_278, ln_278n, ln_279, ln_280, ln_281, ln_282, ln_283, ln_283n, ln_284, ln_285, ln_286, ln_286n, ln_287, ln_287n, ln_288, ln_289, ln_289n, gF_sF, gF_sG, gF_sI, gF_sJ, gF_sP, gF_sR, gF_sL, gG_sF, gG_sG, gG_sI, gG_sJ, gG_sP, gG_sR, gG_sL, gI_sF, gI_sG, gI_sI, gI_sJ, gI_sP, gI_sR, gI_sL, gJ_sF, gJ_sG, gJ_sI, gJ_sJ, gJ_sP, gJ_sR, gJ_sL, gP_sF, gP_sG, gP_sI, gP_sJ, gP_sP, gP_sR, gP_sL, inB_n, inC_n, iX_n, nI_add, pk_mul, pk_sub, n_and, n_or, n_xor, n_one, n_ush, n_shr, n_div, n_rem, n_ltm, m_ltn, m_ltm, n_eqm, m_eqn, m_eqm, n_lt, n_eq, n_eq0, n_addm, n_i2l, m_i2l, n_l2i, lN_add, lN_mul, lN_sub, l_div, l_rem, l_eq0, lc_lt, lc_gt, lc_eq, l_lt, l_eq, l_ltm, ml_ltn, ml_ltm, l_eqm, ml_eqn, ml_eqm, ls_1, ls_2, ls_3, ls_4, ls_5, ls_6, ls_7, ls_8, ls_10, ls_11, ls_12, ls_13, ls_14, ls_15, ls_16, ls_17, ob_0, ob_9, rf_0, rf_9, c1, b1]
  rcases d3 with ⟨f, p, k1, k2⟩ | ⟨sc, k1, k2, k3, k4⟩
  · refine Or.inl ⟨f, p, W, k1, d2, ?_⟩
    have o := o_f k2
    have g := k2.2.1
    obtain ⟨n0, n31⟩ := k2.n0
    rw [h13, zR_W []]
    simp (disch := omega) only [tt_194, T_194, mx_194, Nat.reduceLT, Nat.reduceLeDiff, Nat.reduceEqDiff, Nat.reduceAdd, Nat.reduceMul, Nat.reduceSub, Nat.reducePow, Nat.reduceMod, Nat.reduceDiv, Nat.reduceBEq, ↓reduceIte, reduceCtorEq, and_true, true_and, and_false, false_and, and_self, zW_eq, zin, zop, zst, fw_ite, fw_K, fw_R, fw_F, fw_C, zBW_s, nth, stL, okL, nlg, ct, ctv, cI, cL, pu, tkC, iniL, pad, eL, Value.category, swK, bz_0, bz_n0, bz_n1, bI_bz, bI_0, bI_t, bI_f, List.headD_cons, decide_true, decide_false, Bool.true_and, Bool.and_true, Bool.false_and, Bool.and_false, Bool.and_self, Bool.not_true, Bool.not_false, Bool.or_false, Bool.false_or, Bool.true_or, Bool.or_true, Bool.or_self, Bool.false_eq_true, rf_45, rf_47, rf_49, rf_50, rf_51, rf_58, rf_63, rf_65, rf_267, rf45, rf50, rf58, rf63, rf267, ob_45, ob_49, ob_50, ob_58, ob_63, ob_267, ln_46, ln_46n, ln_46m, ln_47, ln_47n, ln_48, ln_48n, ln_51, ln_56, ln_57, ln_59, ln_60, ln_61, ln_62, ln_64, ln_64n, ln_65, ln_268, ln_269, ln_270, ln_270n, ln_271, ln_271n, ln_272, ln_272n, ln_272m, ln_273, ln_274, ln_275, ln_276, ln_277, ln_278, ln_278n, ln_279, ln_280, ln_281, ln_282, ln_283, ln_283n, ln_284, ln_285, ln_286, ln_286n, ln_287, ln_287n, ln_288, ln_289, ln_289n, gF_sF, gF_sG, gF_sI, gF_sJ, gF_sP, gF_sR, gF_sL, gG_sF, gG_sG, gG_sI, gG_sJ, gG_sP, gG_sR, gG_sL, gI_sF, gI_sG, gI_sI, gI_sJ, gI_sP, gI_sR, gI_sL, gJ_sF, gJ_sG, gJ_sI, gJ_sJ, gJ_sP, gJ_sR, gJ_sL, gP_sF, gP_sG, gP_sI, gP_sJ, gP_sP, gP_sR, gP_sL, inB_n, inC_n, iX_n, nI_add, pk_mul, pk_sub, n_and, n_or, n_xor, n_one, n_ush, n_shr, n_div, n_rem, n_ltm, m_ltn, m_ltm, n_eqm, m_eqn, m_eqm, n_lt, n_eq, n_eq0, n_addm, n_i2l, m_i2l, n_l2i, lN_add, lN_mul, lN_sub, l_div, l_rem, l_eq0, lc_lt, lc_gt, lc_eq, l_lt, l_eq, l_ltm, ml_ltn, ml_ltm, l_eqm, ml_eqn, ml_eqm, ls_1, ls_2, ls_3, ls_4, ls_5, ls_6, ls_7, ls_8, ls_10, ls_11, ls_12, ls_13, ls_14, ls_15, ls_16, ls_17, ob_0, ob_9, rf_0, rf_9, o, g, n0]
  · refine Or.inr ⟨sc, W, k1, k4, d2, k3, ?_⟩
    have o := o_0 k2
    have k3' : MoQ 4 sc (sF (sF (sF W 267 6 (nI 0)) 267 14 (nI 0)) 267 15 (mI 1)) := k3
    have cs := t_copySchool (a := 4) (b := 0) (sF (sF (sF W 267 6 (nI 0)) 267 14 (nI 0)) 267 15 (mI 1)) (by decide) (by decide) (by decide)
    have l0 : gI (wCs 4 0 (sF (sF (sF W 267 6 (nI 0)) 267 14 (nI 0)) 267 15 (mI 1))) 273 0 = nI (sc.1 0) := (MoQ.cp (b := 0) k3' k4.gd).1
    rw [h13, zR_W []]
    simp (disch := omega) only [tt_194, T_194, mx_194, Nat.reduceLT, Nat.reduceLeDiff, Nat.reduceEqDiff, Nat.reduceAdd, Nat.reduceMul, Nat.reduceSub, Nat.reducePow, Nat.reduceMod, Nat.reduceDiv, Nat.reduceBEq, ↓reduceIte, reduceCtorEq, and_true, true_and, and_false, false_and, and_self, zW_eq, zin, zop, zst, fw_ite, fw_K, fw_R, fw_F, fw_C, zBW_s, nth, stL, okL, nlg, ct, ctv, cI, cL, pu, tkC, iniL, pad, eL, Value.category, swK, bz_0, bz_n0, bz_n1, bI_bz, bI_0, bI_t, bI_f, List.headD_cons, decide_true, decide_false, Bool.true_and, Bool.and_true, Bool.false_and, Bool.and_false, Bool.and_self, Bool.not_true, Bool.not_false, Bool.or_false, Bool.false_or, Bool.true_or, Bool.or_true, Bool.or_self, Bool.false_eq_true, rf_45, rf_47, rf_49, rf_50, rf_51, rf_58, rf_63, rf_65, rf_267, rf45, rf50, rf58, rf63, rf267, ob_45, ob_49, ob_50, ob_58, ob_63, ob_267, ln_46, ln_46n, ln_46m, ln_47, ln_47n, ln_48, ln_48n, ln_51, ln_56, ln_57, ln_59, ln_60, ln_61, ln_62, ln_64, ln_64n, ln_65, ln_268, ln_269, ln_270, ln_270n, ln_271, ln_271n, ln_272, ln_272n, ln_272m, ln_273, ln_274, ln_275, ln_276, ln_277, ln_278, ln_278n, ln_279, ln_280, ln_281, ln_282, ln_283, ln_283n, ln_284, ln_285, ln_286, ln_286n, ln_287, ln_287n, ln_288, ln_289, ln_289n, gF_sF, gF_sG, gF_sI, gF_sJ, gF_sP, gF_sR, gF_sL, gG_sF, gG_sG, gG_sI, gG_sJ, gG_sP, gG_sR, gG_sL, gI_sF, gI_sG, gI_sI, gI_sJ, gI_sP, gI_sR, gI_sL, gJ_sF, gJ_sG, gJ_sI, gJ_sJ, gJ_sP, gJ_sR, gJ_sL, gP_sF, gP_sG, gP_sI, gP_sJ, gP_sP, gP_sR, gP_sL, inB_n, inC_n, iX_n, nI_add, pk_mul, pk_sub, n_and, n_or, n_xor, n_one, n_ush, n_shr, n_div, n_rem, n_ltm, m_ltn, m_ltm, n_eqm, m_eqn, m_eqm, n_lt, n_eq, n_eq0, n_addm, n_i2l, m_i2l, n_l2i, lN_add, lN_mul, lN_sub, l_div, l_rem, l_eq0, lc_lt, lc_gt, lc_eq, l_lt, l_eq, l_ltm, ml_ltn, ml_ltm, l_eqm, ml_eqn, ml_eqm, ls_1, ls_2, ls_3, ls_4, ls_5, ls_6, ls_7, ls_8, ls_10, ls_11, ls_12, ls_13, ls_14, ls_15, ls_16, ls_17, ob_0, ob_9, rf_0, rf_9, o, k2, cs, l0]
set_option maxHeartbeats 4000000 in
set_option maxRecDepth 8192 in
theorem t_cschool {T : Nat → Int32} {n : Nat} {w : Wd} (hn : n ≤ 1600) (h1 : gF w 45 1 = nI n) (hT : ∀ i, i < n → gI w 46 i = T i) : (∃ f p W, pAll T n 17 emS (tkN T n 0) = .inl (f, p) ∧ SmO fr49 w W ∧ zE 102 [.ref 45] w = some (some (.int (mI 4)), sF (sF (sF W 45 2 (nI f)) 45 3 (nI p)) 45 1 (nI 0))) ∨ ∃ sc W W', pAll T n 17 emS (tkN T n 0) = .inr sc ∧ PaS sc ∧ SmO fr49 w W ∧ ClS 0 sc W' ∧ SmO (fun c => c < 9) (sF (sF (sF W 45 2 (nI 0)) 45 3 (mI 1)) 45 1 (nI 0)) W' ∧ zE 102 [.ref 45] w = some (some (.int (nI (sc.1 0))), W') := by
  obtain ⟨b, W, a1, a2, a3, a4⟩ := t_tell hn hT
  rcases a3 with ⟨f, p, k1, k2⟩ | ⟨sc, k1, k2, k3, k4, k5⟩
  · have hb : b = false := by
      cases b with
      | false => rfl
      | true =>
        obtain ⟨sc, z⟩ := a4.mp rfl
        rw [k1] at z
        cases z
    subst hb
    have u1 := k2.2.1
    have u2 := k2.2.2
    refine Or.inl ⟨f, p, W, k1, a2, ?_⟩
    rw [zE_W []]
    simp (disch := omega) only [tt_102, T_102, mx_102, Nat.reduceLT, Nat.reduceLeDiff, Nat.reduceEqDiff, Nat.reduceAdd, Nat.reduceMul, Nat.reduceSub, Nat.reducePow, Nat.reduceMod, Nat.reduceDiv, Nat.reduceBEq, ↓reduceIte, reduceCtorEq, and_true, true_and, and_false, false_and, and_self, zW_eq, zin, zop, zst, fw_ite, fw_K, fw_R, fw_F, fw_C, zBW_s, nth, stL, okL, nlg, ct, ctv, cI, cL, pu, tkC, iniL, pad, eL, Value.category, swK, bz_0, bz_n0, bz_n1, bI_bz, bI_0, bI_t, bI_f, List.headD_cons, decide_true, decide_false, Bool.true_and, Bool.and_true, Bool.false_and, Bool.and_false, Bool.and_self, Bool.not_true, Bool.not_false, Bool.or_false, Bool.false_or, Bool.true_or, Bool.or_true, Bool.or_self, Bool.false_eq_true, rf_45, rf_47, rf_49, rf_50, rf_51, rf_58, rf_63, rf_65, rf_267, rf45, rf50, rf58, rf63, rf267, ob_45, ob_49, ob_50, ob_58, ob_63, ob_267, ln_46, ln_46n, ln_46m, ln_47, ln_47n, ln_48, ln_48n, ln_51, ln_56, ln_57, ln_59, ln_60, ln_61, ln_62, ln_64, ln_64n, ln_65, ln_268, ln_269, ln_270, ln_270n, ln_271, ln_271n, ln_272, ln_272n, ln_272m, ln_273, ln_274, ln_275, ln_276, ln_277, ln_278, ln_278n, ln_279, ln_280, ln_281, ln_282, ln_283, ln_283n, ln_284, ln_285, ln_286, ln_286n, ln_287, ln_287n, ln_288, ln_289, ln_289n, gF_sF, gF_sG, gF_sI, gF_sJ, gF_sP, gF_sR, gF_sL, gG_sF, gG_sG, gG_sI, gG_sJ, gG_sP, gG_sR, gG_sL, gI_sF, gI_sG, gI_sI, gI_sJ, gI_sP, gI_sR, gI_sL, gJ_sF, gJ_sG, gJ_sI, gJ_sJ, gJ_sP, gJ_sR, gJ_sL, gP_sF, gP_sG, gP_sI, gP_sJ, gP_sP, gP_sR, gP_sL, inB_n, inC_n, iX_n, nI_add, pk_mul, pk_sub, n_and, n_or, n_xor, n_one, n_ush, n_shr, n_div, n_rem, n_ltm, m_ltn, m_ltm, n_eqm, m_eqn, m_eqm, n_lt, n_eq, n_eq0, n_addm, n_i2l, m_i2l, n_l2i, lN_add, lN_mul, lN_sub, l_div, l_rem, l_eq0, lc_lt, lc_gt, lc_eq, l_lt, l_eq, l_ltm, ml_ltn, ml_ltm, l_eqm, ml_eqn, ml_eqm, ls_1, ls_2, ls_3, ls_4, ls_5, ls_6, ls_7, ls_8, ls_10, ls_11, ls_12, ls_13, ls_14, ls_15, ls_16, ls_17, ob_0, ob_9, rf_0, rf_9, h1, a1, u1, u2]
  · have hb : b = true := a4.mpr ⟨sc, k1⟩
    subst hb
    obtain ⟨W', hw, f1, f2, f3⟩ := t_take (k := 0) (k' := 9) (w := sF (sF (sF W 45 2 (nI 0)) 45 3 (mI 1)) 45 1 (nI 0)) sc_0 sc_9 (by decide)
    have c9 : ClS 9 sc (sF (sF (sF W 45 2 (nI 0)) 45 3 (mI 1)) 45 1 (nI 0)) := k2.fr (B := fun c => c = 45) (((SmO.sF (A := fun c => c = 45) rfl).tr (SmO.sF (A := fun c => c = 45) rfl)).tr (SmO.sF (A := fun c => c = 45) rfl)) (fun c c1 c2 => by omega)
    have c0 := c9.tk k3.gd sc_0 f1 f2
    have l0 : gF W' 0 0 = nI (sc.1 0) := c0.2.1 0 (by decide)
    refine Or.inr ⟨sc, W, W', k1, k3, a2, c0, f3.wk (fun c hc => by omega), ?_⟩
    rw [zE_W []]
    simp (disch := omega) only [tt_102, T_102, mx_102, Nat.reduceLT, Nat.reduceLeDiff, Nat.reduceEqDiff, Nat.reduceAdd, Nat.reduceMul, Nat.reduceSub, Nat.reducePow, Nat.reduceMod, Nat.reduceDiv, Nat.reduceBEq, ↓reduceIte, reduceCtorEq, and_true, true_and, and_false, false_and, and_self, zW_eq, zin, zop, zst, fw_ite, fw_K, fw_R, fw_F, fw_C, zBW_s, nth, stL, okL, nlg, ct, ctv, cI, cL, pu, tkC, iniL, pad, eL, Value.category, swK, bz_0, bz_n0, bz_n1, bI_bz, bI_0, bI_t, bI_f, List.headD_cons, decide_true, decide_false, Bool.true_and, Bool.and_true, Bool.false_and, Bool.and_false, Bool.and_self, Bool.not_true, Bool.not_false, Bool.or_false, Bool.false_or, Bool.true_or, Bool.or_true, Bool.or_self, Bool.false_eq_true, rf_45, rf_47, rf_49, rf_50, rf_51, rf_58, rf_63, rf_65, rf_267, rf45, rf50, rf58, rf63, rf267, ob_45, ob_49, ob_50, ob_58, ob_63, ob_267, ln_46, ln_46n, ln_46m, ln_47, ln_47n, ln_48, ln_48n, ln_51, ln_56, ln_57, ln_59, ln_60, ln_61, ln_62, ln_64, ln_64n, ln_65, ln_268, ln_269, ln_270, ln_270n, ln_271, ln_271n, ln_272, ln_272n, ln_272m, ln_273, ln_274, ln_275, ln_276, ln_277, ln_278, ln_278n, ln_279, ln_280, ln_281, ln_282, ln_283, ln_283n, ln_284, ln_285, ln_286, ln_286n, ln_287, ln_287n, ln_288, ln_289, ln_289n, gF_sF, gF_sG, gF_sI, gF_sJ, gF_sP, gF_sR, gF_sL, gG_sF, gG_sG, gG_sI, gG_sJ, gG_sP, gG_sR, gG_sL, gI_sF, gI_sG, gI_sI, gI_sJ, gI_sP, gI_sR, gI_sL, gJ_sF, gJ_sG, gJ_sI, gJ_sJ, gJ_sP, gJ_sR, gJ_sL, gP_sF, gP_sG, gP_sI, gP_sJ, gP_sP, gP_sR, gP_sL, inB_n, inC_n, iX_n, nI_add, pk_mul, pk_sub, n_and, n_or, n_xor, n_one, n_ush, n_shr, n_div, n_rem, n_ltm, m_ltn, m_ltm, n_eqm, m_eqn, m_eqm, n_lt, n_eq, n_eq0, n_addm, n_i2l, m_i2l, n_l2i, lN_add, lN_mul, lN_sub, l_div, l_rem, l_eq0, lc_lt, lc_gt, lc_eq, l_lt, l_eq, l_ltm, ml_ltn, ml_ltm, l_eqm, ml_eqn, ml_eqm, ls_1, ls_2, ls_3, ls_4, ls_5, ls_6, ls_7, ls_8, ls_10, ls_11, ls_12, ls_13, ls_14, ls_15, ls_16, ls_17, ob_0, ob_9, rf_0, rf_9, h1, a1, k4, k5, hw, l0]
theorem ClA.tel {A : Ab} {w W : Wd} (h : ClA A w) (hS : SmO fr49 w W) (x y : Int32) : ClA ((0, A.1.2), (x, y), A.2.2) (sF (sF (sF W 45 2 x) 45 3 y) 45 1 (nI 0)) := by
  have h1 : ClA A W := h.scr (hS.wk (fun c hc => by unfold fr49 at hc; unfold scrC; omega)) (h.2.2.2.2.2.2.same (hS.2 (by unfold fr49; omega)))
  obtain ⟨⟨a1, a2⟩, ⟨b1, b2⟩, c, d, e, f, g⟩ := h1
  have hq : SmO (fun c => c = 45) W (sF (sF (sF W 45 2 x) 45 3 y) 45 1 (nI 0)) := ((SmO.sF (A := fun c => c = 45) rfl).tr (SmO.sF (A := fun c => c = 45) rfl)).tr (SmO.sF (A := fun c => c = 45) rfl)
  refine ⟨⟨?_, fun i hi => absurd hi (Nat.not_lt_zero _)⟩, ⟨?_, ?_⟩, c.fr hq (fun c c1 c2 => by omega), fun k hk => (d k hk).fr hk hq (by decide) (fun c c1 c2 => by omega), fun s hs => (e s hs).fr hs hq (fun c c1 c2 => by omega), f.fr hq (by decide) (fun c c1 c2 => by omega), g.same (hq.2 (by decide))⟩
  · rw [gF_sF, if_pos ⟨rfl, rfl⟩]
  · rw [gF_sF, if_neg (by omega), gF_sF, if_neg (by omega), gF_sF, if_pos ⟨rfl, rfl⟩]
  · rw [gF_sF, if_neg (by omega), gF_sF, if_pos ⟨rfl, rfl⟩]
theorem SfQ.K {w w' : Wd} (s : SfQ w w') : MoKeep w w' := ⟨⟨s.2.1 6 (by omega), s.2.1 14 (by omega), s.2.1 15 (by omega), s.2.1 28 (by omega)⟩, fun i => ⟨(s.1.1 272 (by omega)).2.2.1 i, (s.1.1 268 (by omega)).2.2.1 i, (s.1.1 269 (by omega)).2.2.1 i, (s.1.1 278 (by omega)).2.2.1 i, (s.1.1 270 (by omega)).2.2.2 i⟩, fun i hi => s.2.2.1 i hi, fun i hi => s.2.2.2.2 i hi, fun i _ h2 => s.2.2.2.1 i h2, fun i _ _ => (s.1.1 277 (by omega)).2.2.1 i⟩
theorem SfQ.T {sc : Sg} {w w' : Wd} (s : SfQ w w') (g : sc.1 4 ≤ 14) (h : MoT sc w) : MoT sc w' := ⟨(s.2.2.1 0 (by decide)).1.trans h.1, (s.2.2.1 0 (by decide)).2.trans h.2.1, fun v hv => ⟨(s.2.2.2.2 _ (by omega)).trans (h.2.2 v hv).1, (s.2.2.2.2 _ (by omega)).trans (h.2.2 v hv).2.1, (s.2.2.2.2 _ (by omega)).trans (h.2.2 v hv).2.2⟩⟩
theorem SfQ.B0 {sc : Sg} {w w' : Wd} (s : SfQ w w') (h : MoB 0 sc w) : MoB 0 sc w' := h.fr (fun j hj => s.2.2.2.1 _ (by omega)) (fun v _ => (s.1.1 277 (by omega)).2.2.1 _)
theorem ImM.sF {k : Nat} {o : Option Sg} {w : Wd} (h : ImM k o w) (j : Nat) (x : Int32) : ImM k o (sF w 267 j x) := by
  cases o with
  | none => exact h
  | some s => exact h
theorem MoA.scl {A : Ab} {w1 W : Wd} (h : MoA A w1) (g : GdA A) (s : SfQ (sF w1 267 0 (nI 0)) W) : MoA A W := by
  have hT : MoT A.2.2.1 (sF w1 267 0 (nI 0)) := h.2.2.1.1
  have hB : MoB 0 A.2.2.1 (sF w1 267 0 (nI 0)) := h.2.2.1.2
  exact keep0 h g ((MoKeep.sF w1 0 (nI 0) (by decide)).tr s.K) (s.T g.2.2.1.1 hT) (s.B0 hB)
theorem pr_school {A : Ab} {w : Wd} (h : Rel A w) : Pair 102 194 [] A w := by
  have hn := h.2.2.1
  rcases t_cschool hn h.1.1.1 h.1.1.2 with ⟨f, p, W, k1, s1, e1⟩ | ⟨sc, W, W', k1, k2, s1, c0, s2, e1⟩
  · have hM1 : MoA A _ := cls_fr (as := []) trivial h.wp e1 h.2.1
    have hC := h.1.tel s1 (nI f) (nI p)
    generalize sF (sF (sF W 45 2 (nI f)) 45 3 (nI p)) 45 1 (nI 0) = w1 at e1 hM1 hC
    rcases t_mschool hn hM1.1.1 hM1.1.2 with ⟨f2, p2, W2, m1, m2, e2⟩ | ⟨sc2, W2, m1, m2, m3, m4, e2⟩
    · rw [k1] at m1
      cases m1
      refine Pair.of (A' := ((0, A.1.2), (nI f, nI p), A.2.2)) (by simp) h.1 h.wp e1 hC e2 ?_ ⟨Nat.zero_le _, fun i hi => absurd hi (Nat.not_lt_zero _), h.2.2.2.2⟩
      obtain ⟨a, b, c, d, e, f9⟩ := hM1.scl h.2.2 m2
      refine ⟨⟨?_, fun i hi => absurd hi (Nat.not_lt_zero _)⟩, ⟨?_, ?_⟩, c, fun k hk => (((d k hk).sF _ _).sF _ _).sF _ _, fun s hs => (e s hs).fr (fun _ => rfl) (fun _ => rfl) (fun _ => rfl), ?_⟩
      · rw [gF_sF, if_neg (by omega), gF_sF, if_neg (by omega), gF_sF, if_pos ⟨rfl, rfl⟩]
      · rw [gF_sF, if_neg (by omega), gF_sF, if_pos ⟨rfl, rfl⟩]
      · rw [gF_sF, if_pos ⟨rfl, rfl⟩]
      · rw [gF_sF, if_neg (by omega), gF_sF, if_neg (by omega), gF_sF, if_neg (by omega)]
        exact f9
    · rw [k1] at m1
      cases m1
  · have hM1 : MoA A _ := cls_fr (as := []) trivial h.wp e1 h.2.1
    have hC : ClA ((0, A.1.2), (nI 0, mI 1), sc, A.2.2.2) W' := (h.1.tel s1 (nI 0) (mI 1)).sch s2 c0
    have g := k2.gd
    rcases t_mschool hn hM1.1.1 hM1.1.2 with ⟨f2, p2, W2, m1, m2, e2⟩ | ⟨sc2, W2, m1, m2, m3, m4, e2⟩
    · rw [k1] at m1
      cases m1
    · rw [k1] at m1
      cases m1
      refine Pair.of (A' := ((0, A.1.2), (nI 0, mI 1), sc, A.2.2.2)) (by simp) h.1 h.wp e1 hC e2 ?_ ⟨Nat.zero_le _, fun i hi => absurd hi (Nat.not_lt_zero _), g, h.2.2.2.2.2⟩
      obtain ⟨a, b, c, d, e, f9⟩ := hM1.scl h.2.2 m3
      have q5 : MoQ 4 sc (sF (sF (sF W2 267 6 (nI 0)) 267 14 (nI 0)) 267 15 (mI 1)) := m4
      refine ⟨⟨?_, fun i hi => absurd hi (Nat.not_lt_zero _)⟩, ⟨?_, ?_⟩, MoQ_0.mp (q5.cp g), fun k hk => ?_, fun s hs => (e s hs).fr (fun i => (wCs_o (by omega) i).trans rfl) (fun i => (wCs_o (by omega) i).trans rfl) (fun i => rfl), ?_⟩
      · show gF (sF (sF (sF W2 267 6 (nI 0)) 267 14 (nI 0)) 267 15 (mI 1)) 267 6 = nI 0
        rw [gF_sF, if_neg (by omega), gF_sF, if_neg (by omega), gF_sF, if_pos ⟨rfl, rfl⟩]
      · show gF (sF (sF (sF W2 267 6 (nI 0)) 267 14 (nI 0)) 267 15 (mI 1)) 267 14 = nI 0
        rw [gF_sF, if_neg (by omega), gF_sF, if_pos ⟨rfl, rfl⟩]
      · show gF (sF (sF (sF W2 267 6 (nI 0)) 267 14 (nI 0)) 267 15 (mI 1)) 267 15 = mI 1
        rw [gF_sF, if_pos ⟨rfl, rfl⟩]
      · have h4 := (((d k hk).sF 6 (nI 0)).sF 14 (nI 0)).sF 15 (mI 1)
        show ImM k (A.2.2.2.1 k) _
        cases ho : A.2.2.2.1 k with
        | none =>
          rw [ho] at h4
          exact (wCs_o (by omega) k).trans h4
        | some s2 =>
          rw [ho] at h4
          exact ⟨(wCs_o (by omega) k).trans h4.1, h4.2.ne 4 (h.2.2.2.2.2.1 k s2 hk ho) (by omega)⟩
      · show gF (sF (sF (sF W2 267 6 (nI 0)) 267 14 (nI 0)) 267 15 (mI 1)) 267 28 = mI 1
        rw [gF_sF, if_neg (by omega), gF_sF, if_neg (by omega), gF_sF, if_neg (by omega)]
        exact f9
