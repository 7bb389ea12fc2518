/-! ===== the reference's school ===== -/
theorem sk_dist : ∀ i, i < 8 → ∀ j, j < 8 → skN.getD i 0 = skN.getD j 0 → (∀ t, t < skN.getD i 0 → (skB.getD i []).getD t 0 = (skB.getD j []).getD t 0) → i = j := by decide +kernel
theorem wdE_u {T : Nat → Int32} {k a e i j : Nat} (hi : i < 8) (hj : j < 8) (h1 : wdE T k a e i = true) (h2 : wdE T k a e j = true) : i = j := by
  have q1 := of_decide_eq_true h1
  have q2 := of_decide_eq_true h2
  refine sk_dist i hi j hj (q1.2.1.symm.trans q2.2.1) (fun t ht => ?_)
  have ht2 : t < e - a := by rw [q1.2.1]; exact ht
  rw [← q1.2.2 t ht2]
  exact q2.2.2 t ht2
theorem lwN_6 {T : Nat → Int32} {tk : Nat × Nat × Nat} : lwN T tk = some 6 ↔ wdE T tk.1 tk.2.1 tk.2.2 6 = true := by
  have hf : ∀ i, i < 6 → wdE T tk.1 tk.2.1 tk.2.2 6 = true → ¬ wdE T tk.1 tk.2.1 tk.2.2 i = true := fun i hi h6 h => by
    have := wdE_u (i := i) (j := 6) (by omega) (by decide) h h6
    omega
  constructor
  · intro h
    unfold lwN at h
    by_cases z : wdE T tk.1 tk.2.1 tk.2.2 6 = true
    · exact z
    · rw [if_neg z] at h
      repeat' split at h
      all_goals simp at h
  · intro h
    unfold lwN
    rw [if_neg (hf 0 (by decide) h), if_neg (hf 1 (by decide) h), if_neg (hf 2 (by decide) h), if_neg (hf 3 (by decide) h), if_neg (hf 4 (by decide) h), if_neg (hf 5 (by decide) h), if_pos h]
theorem MoQ.lin {sc : Sg} {w : Wd} (h : MoQ 4 sc w) : MoQ 4 (linS sc) (sI w 273 4 (nI (sc.1 0 + 1))) := by
  obtain ⟨h1, h2, h3, p1, p2, p3, p4, p5⟩ := h
  refine ⟨?_, ?_, fun v hv => ⟨?_, ?_, ?_⟩, ?_, ?_, ?_, ?_, fun v hv hs => ?_⟩
  · rw [gI_sI, if_pos ⟨rfl, rfl⟩]; rfl
  · rw [gI_sI, if_neg (by omega)]; exact h2
  · rw [gI_sI, if_neg (by omega)]; exact (h3 v hv).1
  · rw [gI_sI, if_neg (by omega)]; exact (h3 v hv).2.1
  · rw [gI_sI, if_neg (by omega)]; exact (h3 v hv).2.2
  · rw [gI_sI, if_neg (by omega)]; exact p1
  · rw [gI_sI, if_neg (by omega)]; exact p2
  · rw [gI_sI, if_neg (by omega)]; exact p3
  · rw [gI_sI, if_neg (by omega)]; exact p4
  · rw [gI_sI, if_neg (by omega)]; exact p5 v hv hs
theorem MoQ.tol {sc : Sg} {w : Wd} (h : MoQ 4 sc w) (v : Nat) : MoQ 4 (tolS sc v) (sI w 275 16 (nI v)) := by
  obtain ⟨h1, h2, h3, p1, p2, p3, p4, p5⟩ := h
  refine ⟨?_, ?_, fun v hv => ⟨?_, ?_, ?_⟩, ?_, ?_, ?_, ?_, fun v hv hs => ?_⟩
  · rw [gI_sI, if_neg (by omega)]; exact h1
  · rw [gI_sI, if_neg (by omega)]; exact h2
  · rw [gI_sI, if_neg (by omega)]; exact (h3 v hv).1
  · rw [gI_sI, if_neg (by omega)]; exact (h3 v hv).2.1
  · rw [gI_sI, if_neg (by omega)]; exact (h3 v hv).2.2
  · rw [gI_sI, if_pos (by omega)]; rfl
  · rw [gI_sI, if_neg (by omega)]; exact p2
  · rw [gI_sI, if_neg (by omega)]; exact p3
  · rw [gI_sI, if_neg (by omega)]; exact p4
  · rw [gI_sI, if_neg (by omega)]; exact p5 v hv hs
theorem RmS.gd {T : Nat → Int32} {n : Nat} {tk : Nat × Nat × Nat} {w : Wd} (h : RmS T n tk w) : zE 181 [.ref 267] w = some (some (.int (nI 1)), w) := by
  have g0 := h.2.2.1
  rw [zE_W []]
  simp (disch := omega) only [tt_181, T_181, mx_181, Nat.reduceLT, Nat.reduceLeDiff, Nat.reduceEqDiff, Nat.reduceAdd, Nat.reduceMul, Nat.reduceSub, Nat.reducePow, Nat.reduceMod, Nat.reduceDiv, Nat.reduceBEq, ↓reduceIte, reduceCtorEq, and_true, true_and, and_false, false_and, and_self, zW_eq, zin, zop, zst, fw_ite, fw_K, fw_R, fw_F, fw_C, zBW_s, nth, stL, okL, nlg, ct, ctv, cI, cL, pu, tkC, iniL, pad, eL, Value.category, swK, bz_0, bz_n0, bz_n1, bI_bz, bI_0, bI_t, bI_f, List.headD_cons, decide_true, decide_false, Bool.true_and, Bool.and_true, Bool.false_and, Bool.and_false, Bool.and_self, Bool.not_true, Bool.not_false, Bool.or_false, Bool.false_or, Bool.true_or, Bool.or_true, Bool.or_self, Bool.false_eq_true, rf_45, rf_47, rf_49, rf_50, rf_51, rf_58, rf_63, rf_65, rf_267, rf45, rf50, rf58, rf63, rf267, ob_45, ob_49, ob_50, ob_58, ob_63, ob_267, ln_46, ln_46n, ln_46m, ln_47, ln_47n, ln_48, ln_48n, ln_51, ln_56, ln_57, ln_59, ln_60, ln_61, ln_62, ln_64, ln_64n, ln_65, ln_268, ln_269, ln_270, ln_270n, ln_271, ln_271n, ln_272, ln_272n, ln_272m, ln_273, ln_274, ln_275, ln_276, ln_277, ln_278, ln_278n, ln_279, ln_280, ln_281, ln_282, ln_283, ln_283n, ln_284, ln_285, ln_286, ln_286n, ln_287, ln_287n, ln_288, ln_289, ln_289n, gF_sF, gF_sG, gF_sI, gF_sJ, gF_sP, gF_sR, gF_sL, gG_sF, gG_sG, gG_sI, gG_sJ, gG_sP, gG_sR, gG_sL, gI_sF, gI_sG, gI_sI, gI_sJ, gI_sP, gI_sR, gI_sL, gJ_sF, gJ_sG, gJ_sI, gJ_sJ, gJ_sP, gJ_sR, gJ_sL, gP_sF, gP_sG, gP_sI, gP_sJ, gP_sP, gP_sR, gP_sL, inB_n, inC_n, iX_n, nI_add, pk_mul, pk_sub, n_and, n_or, n_xor, n_one, n_ush, n_shr, n_div, n_rem, n_ltm, m_ltn, m_ltm, n_eqm, m_eqn, m_eqm, n_lt, n_eq, n_eq0, n_addm, n_i2l, m_i2l, n_l2i, lN_add, lN_mul, lN_sub, l_div, l_rem, l_eq0, lc_lt, lc_gt, lc_eq, l_lt, l_eq, l_ltm, ml_ltn, ml_ltm, l_eqm, ml_eqn, ml_eqm, ls_1, ls_2, ls_3, ls_4, ls_5, ls_6, ls_7, ls_8, ls_10, ls_11, ls_12, ls_13, ls_14, ls_15, ls_16, ls_17, ob_0, ob_9, rf_0, rf_9, g0]
theorem RmF.gd {f p : Nat} {w : Wd} (h : RmF f p w) : zE 181 [.ref 267] w = some (some (.int (nI 0)), w) := by
  obtain ⟨n0, n31⟩ := h.n0
  have g := h.2.1
  rw [zE_W []]
  simp (disch := omega) only [tt_181, T_181, mx_181, Nat.reduceLT, Nat.reduceLeDiff, Nat.reduceEqDiff, Nat.reduceAdd, Nat.reduceMul, Nat.reduceSub, Nat.reducePow, Nat.reduceMod, Nat.reduceDiv, Nat.reduceBEq, ↓reduceIte, reduceCtorEq, and_true, true_and, and_false, false_and, and_self, zW_eq, zin, zop, zst, fw_ite, fw_K, fw_R, fw_F, fw_C, zBW_s, nth, stL, okL, nlg, ct, ctv, cI, cL, pu, tkC, iniL, pad, eL, Value.category, swK, bz_0, bz_n0, bz_n1, bI_bz, bI_0, bI_t, bI_f, List.headD_cons, decide_true, decide_false, Bool.true_and, Bool.and_true, Bool.false_and, Bool.and_false, Bool.and_self, Bool.not_true, Bool.not_false, Bool.or_false, Bool.false_or, Bool.true_or, Bool.or_true, Bool.or_self, Bool.false_eq_true, rf_45, rf_47, rf_49, rf_50, rf_51, rf_58, rf_63, rf_65, rf_267, rf45, rf50, rf58, rf63, rf267, ob_45, ob_49, ob_50, ob_58, ob_63, ob_267, ln_46, ln_46n, ln_46m, ln_47, ln_47n, ln_48, ln_48n, ln_51, ln_56, ln_57, ln_59, ln_60, ln_61, ln_62, ln_64, ln_64n, ln_65, ln_268, ln_269, ln_270, ln_270n, ln_271, ln_271n, ln_272, ln_272n, ln_272m, ln_273, ln_274, ln_275, ln_276, ln_277, ln_278, ln_278n, ln_279, ln_280, ln_281, ln_282, ln_283, ln_283n, ln_284, ln_285, ln_286, ln_286n, ln_287, ln_287n, ln_288, ln_289, ln_289n, gF_sF, gF_sG, gF_sI, gF_sJ, gF_sP, gF_sR, gF_sL, gG_sF, gG_sG, gG_sI, gG_sJ, gG_sP, gG_sR, gG_sL, gI_sF, gI_sG, gI_sI, gI_sJ, gI_sP, gI_sR, gI_sL, gJ_sF, gJ_sG, gJ_sI, gJ_sJ, gJ_sP, gJ_sR, gJ_sL, gP_sF, gP_sG, gP_sI, gP_sJ, gP_sP, gP_sR, gP_sL, inB_n, inC_n, iX_n, nI_add, pk_mul, pk_sub, n_and, n_or, n_xor, n_one, n_ush, n_shr, n_div, n_rem, n_ltm, m_ltn, m_ltm, n_eqm, m_eqn, m_eqm, n_lt, n_eq, n_eq0, n_addm, n_i2l, m_i2l, n_l2i, lN_add, lN_mul, lN_sub, l_div, l_rem, l_eq0, lc_lt, lc_gt, lc_eq, l_lt, l_eq, l_ltm, ml_ltn, ml_ltm, l_eqm, ml_eqn, ml_eqm, ls_1, ls_2, ls_3, ls_4, ls_5, ls_6, ls_7, ls_8, ls_10, ls_11, ls_12, ls_13, ls_14, ls_15, ls_16, ls_17, ob_0, ob_9, rf_0, rf_9, g, n0]
set_option maxRecDepth 8192 in
set_option maxHeartbeats 4000000 in
/-- the end of a turn, from the line's end on: the line's count goes up, then the turn is over or the next begins -/
theorem s_tail {T : Nat → Int32} {n : Nat} {sc : Sg} {tk : Nat × Nat × Nat} {W : Wd} (h : RmS T n tk W) (hq : MoQ 4 sc W) (hl : sc.1 0 ≤ 16) : ∃ W', zR 194 64 [.ref 267] [] W = zR 194 13 [.ref 267] [] W' ∧ SfQ W W' ∧ ((tk.1 = 3 ∧ RmS T n (tkN T n tk.2.2) W' ∧ MoQ 4 (linS sc) W') ∨ (¬ tk.1 = 3 ∧ RmF 1 tk.2.1 W')) := by
  have gd := h.gd
  obtain ⟨W1, e1, e2, e3⟩ := h.en
  have q1 := hq.frB e2
  have l1 : gI W1 273 4 = nI (sc.1 0) := q1.1
  refine ⟨sI W1 273 4 (nI (sc.1 0 + 1)), ?_, e2.Q.tr (SfQ.sI _ _ _ _ (by omega)), ?_⟩
  · rw [zR_W [13]]
    simp (disch := omega) only [tt_194, T_194, mx_194, Nat.reduceLT, Nat.reduceLeDiff, Nat.reduceEqDiff, Nat.reduceAdd, Nat.reduceMul, Nat.reduceSub, Nat.reducePow, Nat.reduceMod, Nat.reduceDiv, Nat.reduceBEq, ↓reduceIte, reduceCtorEq, and_true, true_and, and_false, false_and, and_self, zW_eq, zin, zop, zst, fw_ite, fw_K, fw_R, fw_F, fw_C, zBW_s, nth, stL, okL, nlg, ct, ctv, cI, cL, pu, tkC, iniL, pad, eL, Value.category, swK, bz_0, bz_n0, bz_n1, bI_bz, bI_0, bI_t, bI_f, List.headD_cons, decide_true, decide_false, Bool.true_and, Bool.and_true, Bool.false_and, Bool.and_false, Bool.and_self, Bool.not_true, Bool.not_false, Bool.or_false, Bool.false_or, Bool.true_or, Bool.or_true, Bool.or_self, Bool.false_eq_true, rf_45, rf_47, rf_49, rf_50, rf_51, rf_58, rf_63, rf_65, rf_267, rf45, rf50, rf58, rf63, rf267, ob_45, ob_49, ob_50, ob_58, ob_63, ob_267, ln_46, ln_46n, ln_46m, ln_47, ln_47n, ln_48, ln_48n, ln_51, ln_56, ln_57, ln_59, ln_60, ln_61, ln_62, ln_64, ln_64n, ln_65, ln_268, ln_269, ln_270, ln_270n, ln_271, ln_271n, ln_272, ln_272n, ln_272m, ln_273, ln_274, ln_275, ln_276, ln_277, ln_278, ln_278n, ln_279, ln_280, ln_281, ln_282, ln_283, ln_283n, ln_284, ln_285, ln_286, ln_286n, ln_287, ln_287n, ln_288, ln_289, ln_289n, gF_sF, gF_sG, gF_sI, gF_sJ, gF_sP, gF_sR, gF_sL, gG_sF, gG_sG, gG_sI, gG_sJ, gG_sP, gG_sR, gG_sL, gI_sF, gI_sG, gI_sI, gI_sJ, gI_sP, gI_sR, gI_sL, gJ_sF, gJ_sG, gJ_sI, gJ_sJ, gJ_sP, gJ_sR, gJ_sL, gP_sF, gP_sG, gP_sI, gP_sJ, gP_sP, gP_sR, gP_sL, inB_n, inC_n, iX_n, nI_add, pk_mul, pk_sub, n_and, n_or, n_xor, n_one, n_ush, n_shr, n_div, n_rem, n_ltm, m_ltn, m_ltm, n_eqm, m_eqn, m_eqm, n_lt, n_eq, n_eq0, n_addm, n_i2l, m_i2l, n_l2i, lN_add, lN_mul, lN_sub, l_div, l_rem, l_eq0, lc_lt, lc_gt, lc_eq, l_lt, l_eq, l_ltm, ml_ltn, ml_ltm, l_eqm, ml_eqn, ml_eqm, ls_1, ls_2, ls_3, ls_4, ls_5, ls_6, ls_7, ls_8, ls_10, ls_11, ls_12, ls_13, ls_14, ls_15, ls_16, ls_17, ob_0, ob_9, rf_0, rf_9, gd, e1, l1]
  · rcases e3 with ⟨a, b⟩ | ⟨a, b⟩
    · exact Or.inl ⟨a, b.sI _ _ _ (by decide), q1.lin⟩
    · exact Or.inr ⟨a, b.sI _ _ _⟩
set_option maxRecDepth 8192 in
set_option maxHeartbeats 4000000 in
theorem s_tailF {f p : Nat} {W : Wd} (h : RmF f p W) : ∃ W', zR 194 64 [.ref 267] [] W = zR 194 88 [.ref 267] [] W' ∧ SfQ W W' ∧ RmF f p W' := by
  have gd := h.gd
  have gd2 := (h.sI 273 4 (gI W 273 4 + nI 1)).gd
  refine ⟨sI W 273 4 (gI W 273 4 + nI 1), ?_, SfQ.sI _ _ _ _ (by omega), h.sI _ _ _⟩
  have e13 : zR 194 13 [.ref 267] [] (sI W 273 4 (gI W 273 4 + nI 1)) = zR 194 88 [.ref 267] [] (sI W 273 4 (gI W 273 4 + nI 1)) := by
    rw [zR_W [13, 88]]
    simp (disch := omega) only [tt_194, T_194, mx_194, Nat.reduceLT, Nat.reduceLeDiff, Nat.reduceEqDiff, Nat.reduceAdd, Nat.reduceMul, Nat.reduceSub, Nat.reducePow, Nat.reduceMod, Nat.reduceDiv, Nat.reduceBEq, ↓reduceIte, reduceCtorEq, and_true, true_and, and_false, false_and, and_self, zW_eq, zin, zop, zst, fw_ite, fw_K, fw_R, fw_F, fw_C, zBW_s, nth, stL, okL, nlg, ct, ctv, cI, cL, pu, tkC, iniL, pad, eL, Value.category, swK, bz_0, bz_n0, bz_n1, bI_bz, bI_0, bI_t, bI_f, List.headD_cons, decide_true, decide_false, Bool.true_and, Bool.and_true, Bool.false_and, Bool.and_false, Bool.and_self, Bool.not_true, Bool.not_false, Bool.or_false, Bool.false_or, Bool.true_or, Bool.or_true, Bool.or_self, Bool.false_eq_true, rf_45, rf_47, rf_49, rf_50, rf_51, rf_58, rf_63, rf_65, rf_267, rf45, rf50, rf58, rf63, rf267, ob_45, ob_49, ob_50, ob_58, ob_63, ob_267, ln_46, ln_46n, ln_46m, ln_47, ln_47n, ln_48, ln_48n, ln_51, ln_56, ln_57, ln_59, ln_60, ln_61, ln_62, ln_64, ln_64n, ln_65, ln_268, ln_269, ln_270, ln_270n, ln_271, ln_271n, ln_272, ln_272n, ln_272m, ln_273, ln_274, ln_275, ln_276, ln_277, ln_278, ln_278n, ln_279, ln_280, ln_281, ln_282, ln_283, ln_283n, ln_284, ln_285, ln_286, ln_286n, ln_287, ln_287n, ln_288, ln_289, ln_289n, gF_sF, gF_sG, gF_sI, gF_sJ, gF_sP, gF_sR, gF_sL, gG_sF, gG_sG, gG_sI, gG_sJ, gG_sP, gG_sR, gG_sL, gI_sF, gI_sG, gI_sI, gI_sJ, gI_sP, gI_sR, gI_sL, gJ_sF, gJ_sG, gJ_sI, gJ_sJ, gJ_sP, gJ_sR, gJ_sL, gP_sF, gP_sG, gP_sI, gP_sJ, gP_sP, gP_sR, gP_sL, inB_n, inC_n, iX_n, nI_add, pk_mul, pk_sub, n_and, n_or, n_xor, n_one, n_ush, n_shr, n_div, n_rem, n_ltm, m_ltn, m_ltm, n_eqm, m_eqn, m_eqm, n_lt, n_eq, n_eq0, n_addm, n_i2l, m_i2l, n_l2i, lN_add, lN_mul, lN_sub, l_div, l_rem, l_eq0, lc_lt, lc_gt, lc_eq, l_lt, l_eq, l_ltm, ml_ltn, ml_ltm, l_eqm, ml_eqn, ml_eqm, ls_1, ls_2, ls_3, ls_4, ls_5, ls_6, ls_7, ls_8, ls_10, ls_11, ls_12, ls_13, ls_14, ls_15, ls_16, ls_17, ob_0, ob_9, rf_0, rf_9, gd2]
  rw [← e13, zR_W [13]]
  simp (disch := omega) only [tt_194, T_194, mx_194, Nat.reduceLT, Nat.reduceLeDiff, Nat.reduceEqDiff, Nat.reduceAdd, Nat.reduceMul, Nat.reduceSub, Nat.reducePow, Nat.reduceMod, Nat.reduceDiv, Nat.reduceBEq, ↓reduceIte, reduceCtorEq, and_true, true_and, and_false, false_and, and_self, zW_eq, zin, zop, zst, fw_ite, fw_K, fw_R, fw_F, fw_C, zBW_s, nth, stL, okL, nlg, ct, ctv, cI, cL, pu, tkC, iniL, pad, eL, Value.category, swK, bz_0, bz_n0, bz_n1, bI_bz, bI_0, bI_t, bI_f, List.headD_cons, decide_true, decide_false, Bool.true_and, Bool.and_true, Bool.false_and, Bool.and_false, Bool.and_self, Bool.not_true, Bool.not_false, Bool.or_false, Bool.false_or, Bool.true_or, Bool.or_true, Bool.or_self, Bool.false_eq_true, rf_45, rf_47, rf_49, rf_50, rf_51, rf_58, rf_63, rf_65, rf_267, rf45, rf50, rf58, rf63, rf267, ob_45, ob_49, ob_50, ob_58, ob_63, ob_267, ln_46, ln_46n, ln_46m, ln_47, ln_47n, ln_48, ln_48n, ln_51, ln_56, ln_57, ln_59, ln_60, ln_61, ln_62, ln_64, ln_64n, ln_65, ln_268, ln_269, ln_270, ln_270n, ln_271, ln_271n, ln_272, ln_272n, ln_272m, ln_273, ln_274, ln_275, ln_276, ln_277, ln_278, ln_278n, ln_279, ln_280, ln_281, ln_282, ln_283, ln_283n, ln_284, ln_285, ln_286, ln_286n, ln_287, ln_287n, ln_288, ln_289, ln_289n, gF_sF, gF_sG, gF_sI, gF_sJ, gF_sP, gF_sR, gF_sL, gG_sF, gG_sG, gG_sI, gG_sJ, gG_sP, gG_sR, gG_sL, gI_sF, gI_sG, gI_sI, gI_sJ, gI_sP, gI_sR, gI_sL, gJ_sF, gJ_sG, gJ_sI, gJ_sJ, gJ_sP, gJ_sR, gJ_sL, gP_sF, gP_sG, gP_sI, gP_sJ, gP_sP, gP_sR, gP_sL, inB_n, inC_n, iX_n, nI_add, pk_mul, pk_sub, n_and, n_or, n_xor, n_one, n_ush, n_shr, n_div, n_rem, n_ltm, m_ltn, m_ltm, n_eqm, m_eqn, m_eqm, n_lt, n_eq, n_eq0, n_addm, n_i2l, m_i2l, n_l2i, lN_add, lN_mul, lN_sub, l_div, l_rem, l_eq0, lc_lt, lc_gt, lc_eq, l_lt, l_eq, l_ltm, ml_ltn, ml_ltm, l_eqm, ml_eqn, ml_eqm, ls_1, ls_2, ls_3, ls_4, ls_5, ls_6, ls_7, ls_8, ls_10, ls_11, ls_12, ls_13, ls_14, ls_15, ls_16, ls_17, ob_0, ob_9, rf_0, rf_9, gd]
set_option maxRecDepth 8192 in
set_option maxHeartbeats 4000000 in
theorem s_13F {f p : Nat} {W : Wd} (h : RmF f p W) : zR 194 13 [.ref 267] [] W = zR 194 88 [.ref 267] [] W := by
  have gd := h.gd
  rw [zR_W [13, 88]]
  simp (disch := omega) only [tt_194, T_194, mx_194, Nat.reduceLT, Nat.reduceLeDiff, Nat.reduceEqDiff, Nat.reduceAdd, Nat.reduceMul, Nat.reduceSub, Nat.reducePow, Nat.reduceMod, Nat.reduceDiv, Nat.reduceBEq, ↓reduceIte, reduceCtorEq, and_true, true_and, and_false, false_and, and_self, zW_eq, zin, zop, zst, fw_ite, fw_K, fw_R, fw_F, fw_C, zBW_s, nth, stL, okL, nlg, ct, ctv, cI, cL, pu, tkC, iniL, pad, eL, Value.category, swK, bz_0, bz_n0, bz_n1, bI_bz, bI_0, bI_t, bI_f, List.headD_cons, decide_true, decide_false, Bool.true_and, Bool.and_true, Bool.false_and, Bool.and_false, Bool.and_self, Bool.not_true, Bool.not_false, Bool.or_false, Bool.false_or, Bool.true_or, Bool.or_true, Bool.or_self, Bool.false_eq_true, rf_45, rf_47, rf_49, rf_50, rf_51, rf_58, rf_63, rf_65, rf_267, rf45, rf50, rf58, rf63, rf267, ob_45, ob_49, ob_50, ob_58, ob_63, ob_267, ln_46, ln_46n, ln_46m, ln_47, ln_47n, ln_48, ln_48n, ln_51, ln_56, ln_57, ln_59, ln_60, ln_61, ln_62, ln_64, ln_64n, ln_65, ln_268, ln_269, ln_270, ln_270n, ln_271, ln_271n, ln_272, ln_272n, ln_272m, ln_273, ln_274, ln_275, ln_276, ln_277, ln_278, ln_278n, ln_279, ln_280, ln_281, ln_282, ln_283, ln_283n, ln_284, ln_285, ln_286, ln_286n, ln_287, ln_287n, ln_288, ln_289, ln_289n, gF_sF, gF_sG, gF_sI, gF_sJ, gF_sP, gF_sR, gF_sL, gG_sF, gG_sG, gG_sI, gG_sJ, gG_sP, gG_sR, gG_sL, gI_sF, gI_sG, gI_sI, gI_sJ, gI_sP, gI_sR, gI_sL, gJ_sF, gJ_sG, gJ_sI, gJ_sJ, gJ_sP, gJ_sR, gJ_sL, gP_sF, gP_sG, gP_sI, gP_sJ, gP_sP, gP_sR, gP_sL, inB_n, inC_n, iX_n, nI_add, pk_mul, pk_sub, n_and, n_or, n_xor, n_one, n_ush, n_shr, n_div, n_rem, n_ltm, m_ltn, m_ltm, n_eqm, m_eqn, m_eqm, n_lt, n_eq, n_eq0, n_addm, n_i2l, m_i2l, n_l2i, lN_add, lN_mul, lN_sub, l_div, l_rem, l_eq0, lc_lt, lc_gt, lc_eq, l_lt, l_eq, l_ltm, ml_ltn, ml_ltm, l_eqm, ml_eqn, ml_eqm, ls_1, ls_2, ls_3, ls_4, ls_5, ls_6, ls_7, ls_8, ls_10, ls_11, ls_12, ls_13, ls_14, ls_15, ls_16, ls_17, ob_0, ob_9, rf_0, rf_9, gd]
/-- what telling comes to, for the reference -/
def TeM (r : (Nat × Nat) ⊕ Sg) (w' : Wd) : Prop := (∃ f p, r = .inl (f, p) ∧ RmF f p w') ∨ ∃ sc, r = .inr sc ∧ gF w' 267 12 = nI 0 ∧ MoQ 4 sc w' ∧ PaS sc
theorem pLine_0 {T : Nat → Int32} {n : Nat} {sc : Sg} {tk : Nat × Nat × Nat} (h0 : sc.1 0 = 0) (h4 : ¬ sc.1 4 = 14) : pLine T n sc tk = if wdE T tk.1 tk.2.1 tk.2.2 6 = true then pEnd T n (pTol T n sc (tkN T n tk.2.2)) else .inl (1, tk.2.1) := by
  unfold pLine
  by_cases z : wdE T tk.1 tk.2.1 tk.2.2 6 = true
  · rw [if_pos z, lwN_6.mpr z]
    dsimp only
    rw [if_pos (show (6 = 6 ↔ sc.1 0 = 0) from ⟨fun _ => h0, fun _ => rfl⟩), if_neg h4] <;> rfl
  · rw [if_neg z]
    cases hw : lwN T tk with
    | none => rfl
    | some i =>
      have hi : ¬ i = 6 := fun e => z (lwN_6.mp (by rw [hw, e]))
      dsimp only
      rw [if_neg (fun q => hi (q.mpr h0))]
theorem pLine_1 {T : Nat → Int32} {n : Nat} {sc : Sg} {tk : Nat × Nat × Nat} (h0 : ¬ sc.1 0 = 0) : pLine T n sc tk = pEnd T n (pLi T n sc tk) := by
  unfold pLine pLi
  cases hw : lwN T tk with
  | none => rfl
  | some i =>
    dsimp only
    by_cases i6 : i = 6
    · rw [if_neg (fun q => h0 (q.mp i6)), if_pos i6] <;> rfl
    · rw [if_pos (show (i = 6 ↔ sc.1 0 = 0) from ⟨fun q => absurd q i6, fun q => absurd q h0⟩), if_neg i6, if_neg i6]
      by_cases z : sc.1 4 = 14
      · rw [if_pos z, if_pos z] <;> rfl
      · rw [if_neg z, if_neg z]
set_option maxHeartbeats 4000000 in
set_option maxRecDepth 8192 in
theorem s_loop {T : Nat → Int32} {n : Nat} {w : Wd} : ∀ f sc tk W, sc.1 0 + f = 17 → RmS T n tk W → MoQ 4 sc W → PaS sc → SfQ w W → ∃ W', zR 194 13 [.ref 267] [] W = zR 194 88 [.ref 267] [] W' ∧ SfQ w W' ∧ TeM (pAll T n f sc tk) W' := by
  intro f
  induction f with
  | zero =>
    intro sc tk W hf h hq hp sf
    exfalso
    have h1 := hp.2.1
    have h2 := hp.2.2.1
    omega
  | succ f ih =>
    intro sc tk W hf h hq hp sf
    have gd := h.gd
    have g8 := h.2.1.1
    have hb := h.b
    have l0 : gI W 273 4 = nI (sc.1 0) := hq.1
    have ls : sc.1 0 ≤ 16 := by
      have h1 := hp.2.1
      have h2 := hp.2.2.1
      omega
    rw [pAll_s]
    by_cases e0 : tk.1 = 0
    · rw [if_pos e0]
      rw [e0] at g8
      refine ⟨W, ?_, sf, Or.inr ⟨sc, rfl, h.2.2.1, hq, hp⟩⟩
      rw [zR_W [13, 88]]
      simp (disch := omega) only [tt_194, T_194, mx_194, Nat.reduceLT, Nat.reduceLeDiff, Nat.reduceEqDiff, Nat.reduceAdd, Nat.reduceMul, Nat.reduceSub, Nat.reducePow, Nat.reduceMod, Nat.reduceDiv, Nat.reduceBEq, ↓reduceIte, reduceCtorEq, and_true, true_and, and_false, false_and, and_self, zW_eq, zin, zop, zst, fw_ite, fw_K, fw_R, fw_F, fw_C, zBW_s, nth, stL, okL, nlg, ct, ctv, cI, cL, pu, tkC, iniL, pad, eL, Value.category, swK, bz_0, bz_n0, bz_n1, bI_bz, bI_0, bI_t, bI_f, List.headD_cons, decide_true, decide_false, Bool.true_and, Bool.and_true, Bool.false_and, Bool.and_false, Bool.and_self, Bool.not_true, Bool.not_false, Bool.or_false, Bool.false_or, Bool.true_or, Bool.or_true, Bool.or_self, Bool.false_eq_true, rf_45, rf_47, rf_49, rf_50, rf_51, rf_58, rf_63, rf_65, rf_267, rf45, rf50, rf58, rf63, rf267, ob_45, ob_49, ob_50, ob_58, ob_63, ob_267, ln_46, ln_46n, ln_46m, ln_47, ln_47n, ln_48, ln_48n, ln_51, ln_56, ln_57, ln_59, ln_60, ln_61, ln_62, ln_64, ln_64n, ln_65, ln_268, ln_269, ln_270, ln_270n, ln_271, ln_271n, ln_272, ln_272n, ln_272m, ln_273, ln_274, ln_275, ln_276, ln_277, ln_278, ln_278n, ln_279, ln_280, ln_281, ln_282, ln_283, ln_283n, ln_284, ln_285, ln_286, ln_286n, ln_287, ln_287n, ln_288, ln_289, ln_289n, gF_sF, gF_sG, gF_sI, gF_sJ, gF_sP, gF_sR, gF_sL, gG_sF, gG_sG, gG_sI, gG_sJ, gG_sP, gG_sR, gG_sL, gI_sF, gI_sG, gI_sI, gI_sJ, gI_sP, gI_sR, gI_sL, gJ_sF, gJ_sG, gJ_sI, gJ_sJ, gJ_sP, gJ_sR, gJ_sL, gP_sF, gP_sG, gP_sI, gP_sJ, gP_sP, gP_sR, gP_sL, inB_n, inC_n, iX_n, nI_add, pk_mul, pk_sub, n_and, n_or, n_xor, n_one, n_ush, n_shr, n_div, n_rem, n_ltm, m_ltn, m_ltm, n_eqm, m_eqn, m_eqm, n_lt, n_eq, n_eq0, n_addm, n_i2l, m_i2l, n_l2i, lN_add, lN_mul, lN_sub, l_div, l_rem, l_eq0, lc_lt, lc_gt, lc_eq, l_lt, l_eq, l_ltm, ml_ltn, ml_ltm, l_eqm, ml_eqn, ml_eqm, ls_1, ls_2, ls_3, ls_4, ls_5, ls_6, ls_7, ls_8, ls_10, ls_11, ls_12, ls_13, ls_14, ls_15, ls_16, ls_17, ob_0, ob_9, rf_0, rf_9, gd, g8]
    · rw [if_neg e0]
      have t31 : tk.1 < 2 ^ 31 := by omega
      -- a turn's end
      have done : ∀ sc1 tk1 W1, RmS T n tk1 W1 → MoQ 4 sc1 W1 → sc1.1 0 = sc.1 0 → PaS (linS sc1) → SfQ w W1 → pLine T n sc tk = pEnd T n (.inr (sc1, tk1)) → zR 194 13 [.ref 267] [] W = zR 194 64 [.ref 267] [] W1 → ∃ W', zR 194 13 [.ref 267] [] W = zR 194 88 [.ref 267] [] W' ∧ SfQ w W' ∧ TeM (match pLine T n sc tk with | .inl e => .inl e | .inr (sc', tk') => pAll T n f sc' tk') W' := by
        intro sc1 tk1 W1 r1 m1 c1 p1 s1 hpl hz
        obtain ⟨W2, a1, a2, a3⟩ := s_tail r1 m1 (by omega)
        rw [hpl, hz, a1]
        rcases a3 with ⟨b1, b2, b3⟩ | ⟨b1, b2⟩
        · have e : pEnd T n (.inr (sc1, tk1)) = .inr (linS sc1, tkN T n tk1.2.2) := if_pos b1
          rw [e]
          exact ih (linS sc1) (tkN T n tk1.2.2) W2 (by show sc1.1 0 + 1 + f = 17; omega) b2 b3 p1 (s1.tr a2)
        · have e : pEnd T n (.inr (sc1, tk1)) = .inl (1, tk1.2.1) := if_neg b1
          rw [e]
          exact ⟨W2, s_13F b2, s1.tr a2, Or.inl ⟨1, _, rfl, b2⟩⟩
      have fall : ∀ g q W1, RmF g q W1 → SfQ w W1 → pLine T n sc tk = .inl (g, q) → zR 194 13 [.ref 267] [] W = zR 194 64 [.ref 267] [] W1 → ∃ W', zR 194 13 [.ref 267] [] W = zR 194 88 [.ref 267] [] W' ∧ SfQ w W' ∧ TeM (match pLine T n sc tk with | .inl e => .inl e | .inr (sc', tk') => pAll T n f sc' tk') W' := by
        intro g q W1 r1 s1 hpl hz
        obtain ⟨W2, a1, a2, a3⟩ := s_tailF r1
        rw [hpl, hz, a1]
        exact ⟨W2, rfl, s1.tr a2, Or.inl ⟨g, q, rfl, a3⟩⟩
      by_cases z : sc.1 0 = 0
      · have h4 : sc.1 4 = 0 := by
          have := hp.2.1
          omega
        have h4' : ¬ sc.1 4 = 14 := by omega
        have hpl := pLine_0 (T := T) (n := n) (tk := tk) z h4'
        rw [z] at l0
        obtain ⟨W1, a1, a2, a3⟩ := h.ask (i := 6) (by decide)
        have a1 : zE 185 [.ref 267, .long (lN 279040942)] W = some (none, W1) := a1
        rcases a3 with ⟨b1, b2⟩ | ⟨b1, b2⟩
        · rw [if_pos b1] at hpl
          obtain ⟨v, W2, c1, c2, c3⟩ := b2.nu (lo := 1) (H := 15) (by decide) (by decide)
          have c1 : zE 186 [.ref 267, .int (nI 1), .int (nI 14)] W1 = some (some (.int (nI v)), W2) := c1
          have hz : zR 194 13 [.ref 267] [] W = zR 194 64 [.ref 267] [] (sI W2 275 16 (nI v)) := by
            rw [zR_W [13, 64]]
            simp (disch := omega) only [tt_194, T_194, mx_194, Nat.reduceLT, Nat.reduceLeDiff, Nat.reduceEqDiff, Nat.reduceAdd, Nat.reduceMul, Nat.reduceSub, Nat.reducePow, Nat.reduceMod, Nat.reduceDiv, Nat.reduceBEq, ↓reduceIte, reduceCtorEq, and_true, true_and, and_false, false_and, and_self, zW_eq, zin, zop, zst, fw_ite, fw_K, fw_R, fw_F, fw_C, zBW_s, nth, stL, okL, nlg, ct, ctv, cI, cL, pu, tkC, iniL, pad, eL, Value.category, swK, bz_0, bz_n0, bz_n1, bI_bz, bI_0, bI_t, bI_f, List.headD_cons, decide_true, decide_false, Bool.true_and, Bool.and_true, Bool.false_and, Bool.and_false, Bool.and_self, Bool.not_true, Bool.not_false, Bool.or_false, Bool.false_or, Bool.true_or, Bool.or_true, Bool.or_self, Bool.false_eq_true, rf_45, rf_47, rf_49, rf_50, rf_51, rf_58, rf_63, rf_65, rf_267, rf45, rf50, rf58, rf63, rf267, ob_45, ob_49, ob_50, ob_58, ob_63, ob_267, ln_46, ln_46n, ln_46m, ln_47, ln_47n, ln_48, ln_48n, ln_51, ln_56, ln_57, ln_59, ln_60, ln_61, ln_62, ln_64, ln_64n, ln_65, ln_268, ln_269, ln_270, ln_270n, ln_271, ln_271n, ln_272, ln_272n, ln_272m, ln_273, ln_274, ln_275, ln_276, ln_277, ln_278, ln_278n, ln_279, ln_280, ln_281, ln_282, ln_283, ln_283n, ln_284, ln_285, ln_286, ln_286n, ln_287, ln_287n, ln_288, ln_289, ln_289n, gF_sF, gF_sG, gF_sI, gF_sJ, gF_sP, gF_sR, gF_sL, gG_sF, gG_sG, gG_sI, gG_sJ, gG_sP, gG_sR, gG_sL, gI_sF, gI_sG, gI_sI, gI_sJ, gI_sP, gI_sR, gI_sL, gJ_sF, gJ_sG, gJ_sI, gJ_sJ, gJ_sP, gJ_sR, gJ_sL, gP_sF, gP_sG, gP_sI, gP_sJ, gP_sP, gP_sR, gP_sL, inB_n, inC_n, iX_n, nI_add, pk_mul, pk_sub, n_and, n_or, n_xor, n_one, n_ush, n_shr, n_div, n_rem, n_ltm, m_ltn, m_ltm, n_eqm, m_eqn, m_eqm, n_lt, n_eq, n_eq0, n_addm, n_i2l, m_i2l, n_l2i, lN_add, lN_mul, lN_sub, l_div, l_rem, l_eq0, lc_lt, lc_gt, lc_eq, l_lt, l_eq, l_ltm, ml_ltn, ml_ltm, l_eqm, ml_eqn, ml_eqm, ls_1, ls_2, ls_3, ls_4, ls_5, ls_6, ls_7, ls_8, ls_10, ls_11, ls_12, ls_13, ls_14, ls_15, ls_16, ls_17, ob_0, ob_9, rf_0, rf_9, gd, g8, e0, l0, a1, c1]
          have s2 : SfQ w (sI W2 275 16 (nI v)) := ((sf.tr a2.Q).tr c2.Q).tr (SfQ.sI _ _ _ _ (by omega))
          unfold pTol at hpl
          rcases c3 with ⟨g, q, d1, d2⟩ | ⟨tk2, d1, d2⟩
          · rw [d1] at hpl
            exact fall g q _ (d2.sI _ _ _) s2 hpl hz
          · have vb := pNum_b d1
            rw [d1] at hpl
            exact done (tolS sc v) tk2 _ (d2.sI _ _ _ (by decide)) (((hq.frB a2).frB c2).tol v) rfl (hp.tol z vb.1 vb.2) s2 hpl hz
        · have nb : ¬ wdE T tk.1 tk.2.1 tk.2.2 6 = true := by rw [b1]; decide
          rw [if_neg nb] at hpl
          have c1 := b2.nu (nI 1) (nI 14)
          have hz : zR 194 13 [.ref 267] [] W = zR 194 64 [.ref 267] [] (sI W1 275 16 (nI 1)) := by
            rw [zR_W [13, 64]]
            simp (disch := omega) only [tt_194, T_194, mx_194, Nat.reduceLT, Nat.reduceLeDiff, Nat.reduceEqDiff, Nat.reduceAdd, Nat.reduceMul, Nat.reduceSub, Nat.reducePow, Nat.reduceMod, Nat.reduceDiv, Nat.reduceBEq, ↓reduceIte, reduceCtorEq, and_true, true_and, and_false, false_and, and_self, zW_eq, zin, zop, zst, fw_ite, fw_K, fw_R, fw_F, fw_C, zBW_s, nth, stL, okL, nlg, ct, ctv, cI, cL, pu, tkC, iniL, pad, eL, Value.category, swK, bz_0, bz_n0, bz_n1, bI_bz, bI_0, bI_t, bI_f, List.headD_cons, decide_true, decide_false, Bool.true_and, Bool.and_true, Bool.false_and, Bool.and_false, Bool.and_self, Bool.not_true, Bool.not_false, Bool.or_false, Bool.false_or, Bool.true_or, Bool.or_true, Bool.or_self, Bool.false_eq_true, rf_45, rf_47, rf_49, rf_50, rf_51, rf_58, rf_63, rf_65, rf_267, rf45, rf50, rf58, rf63, rf267, ob_45, ob_49, ob_50, ob_58, ob_63, ob_267, ln_46, ln_46n, ln_46m, ln_47, ln_47n, ln_48, ln_48n, ln_51, ln_56, ln_57, ln_59, ln_60, ln_61, ln_62, ln_64, ln_64n, ln_65, ln_268, ln_269, ln_270, ln_270n, ln_271, ln_271n, ln_272, ln_272n, ln_272m, ln_273, ln_274, ln_275, ln_276, ln_277, ln_278, ln_278n, ln_279, ln_280, ln_281, ln_282, ln_283, ln_283n, ln_284, ln_285, ln_286, ln_286n, ln_287, ln_287n, ln_288, ln_289, ln_289n, gF_sF, gF_sG, gF_sI, gF_sJ, gF_sP, gF_sR, gF_sL, gG_sF, gG_sG, gG_sI, gG_sJ, gG_sP, gG_sR, gG_sL, gI_sF, gI_sG, gI_sI, gI_sJ, gI_sP, gI_sR, gI_sL, gJ_sF, gJ_sG, gJ_sI, gJ_sJ, gJ_sP, gJ_sR, gJ_sL, gP_sF, gP_sG, gP_sI, gP_sJ, gP_sP, gP_sR, gP_sL, inB_n, inC_n, iX_n, nI_add, pk_mul, pk_sub, n_and, n_or, n_xor, n_one, n_ush, n_shr, n_div, n_rem, n_ltm, m_ltn, m_ltm, n_eqm, m_eqn, m_eqm, n_lt, n_eq, n_eq0, n_addm, n_i2l, m_i2l, n_l2i, lN_add, lN_mul, lN_sub, l_div, l_rem, l_eq0, lc_lt, lc_gt, lc_eq, l_lt, l_eq, l_ltm, ml_ltn, ml_ltm, l_eqm, ml_eqn, ml_eqm, ls_1, ls_2, ls_3, ls_4, ls_5, ls_6, ls_7, ls_8, ls_10, ls_11, ls_12, ls_13, ls_14, ls_15, ls_16, ls_17, ob_0, ob_9, rf_0, rf_9, gd, g8, e0, l0, a1, c1]
          exact fall 1 _ _ (b2.sI _ _ _) ((sf.tr a2.Q).tr (SfQ.sI _ _ _ _ (by omega))) hpl hz
      · have hpl := pLine_1 (T := T) (n := n) (tk := tk) z
        obtain ⟨W1, a1, a2, a3⟩ := t_line h hq hp
        have l31 : sc.1 0 < 2 ^ 31 := by omega
        have hz : zR 194 13 [.ref 267] [] W = zR 194 64 [.ref 267] [] W1 := by
          rw [zR_W [13, 64]]
          simp (disch := omega) only [tt_194, T_194, mx_194, Nat.reduceLT, Nat.reduceLeDiff, Nat.reduceEqDiff, Nat.reduceAdd, Nat.reduceMul, Nat.reduceSub, Nat.reducePow, Nat.reduceMod, Nat.reduceDiv, Nat.reduceBEq, ↓reduceIte, reduceCtorEq, and_true, true_and, and_false, false_and, and_self, zW_eq, zin, zop, zst, fw_ite, fw_K, fw_R, fw_F, fw_C, zBW_s, nth, stL, okL, nlg, ct, ctv, cI, cL, pu, tkC, iniL, pad, eL, Value.category, swK, bz_0, bz_n0, bz_n1, bI_bz, bI_0, bI_t, bI_f, List.headD_cons, decide_true, decide_false, Bool.true_and, Bool.and_true, Bool.false_and, Bool.and_false, Bool.and_self, Bool.not_true, Bool.not_false, Bool.or_false, Bool.false_or, Bool.true_or, Bool.or_true, Bool.or_self, Bool.false_eq_true, rf_45, rf_47, rf_49, rf_50, rf_51, rf_58, rf_63, rf_65, rf_267, rf45, rf50, rf58, rf63, rf267, ob_45, ob_49, ob_50, ob_58, ob_63, ob_267, ln_46, ln_46n, ln_46m, ln_47, ln_47n, ln_48, ln_48n, ln_51, ln_56, ln_57, ln_59, ln_60, ln_61, ln_62, ln_64, ln_64n, ln_65, ln_268, ln_269, ln_270, ln_270n, ln_271, ln_271n, ln_272, ln_272n, ln_272m, ln_273, ln_274, ln_275, ln_276, ln_277, ln_278, ln_278n, ln_279, ln_280, ln_281, ln_282, ln_283, ln_283n, ln_284, ln_285, ln_286, ln_286n, ln_287, ln_287n, ln_288, ln_289, ln_289n, gF_sF, gF_sG, gF_sI, gF_sJ, gF_sP, gF_sR, gF_sL, gG_sF, gG_sG, gG_sI, gG_sJ, gG_sP, gG_sR, gG_sL, gI_sF, gI_sG, gI_sI, gI_sJ, gI_sP, gI_sR, gI_sL, gJ_sF, gJ_sG, gJ_sI, gJ_sJ, gJ_sP, gJ_sR, gJ_sL, gP_sF, gP_sG, gP_sI, gP_sJ, gP_sP, gP_sR, gP_sL, inB_n, inC_n, iX_n, nI_add, pk_mul, pk_sub, n_and, n_or, n_xor, n_one, n_ush, n_shr, n_div, n_rem, n_ltm, m_ltn, m_ltm, n_eqm, m_eqn, m_eqm, n_lt, n_eq, n_eq0, n_addm, n_i2l, m_i2l, n_l2i, lN_add, lN_mul, lN_sub, l_div, l_rem, l_eq0, lc_lt, lc_gt, lc_eq, l_lt, l_eq, l_ltm, ml_ltn, ml_ltm, l_eqm, ml_eqn, ml_eqm, ls_1, ls_2, ls_3, ls_4, ls_5, ls_6, ls_7, ls_8, ls_10, ls_11, ls_12, ls_13, ls_14, ls_15, ls_16, ls_17, ob_0, ob_9, rf_0, rf_9, gd, g8, e0, l0, z, a1]
        rcases a3 with ⟨g, q, d1, d2⟩ | ⟨s, g1, g2, tk2, d1, d2, d3, d4, d5⟩
        · rw [d1] at hpl
          exact fall g q _ d2 (sf.tr a2) hpl hz
        · rw [d1] at hpl
          exact done (addS sc s g1 g2) tk2 _ d2 d3 rfl (hp.sum z d4 d5) (sf.tr a2) hpl hz
