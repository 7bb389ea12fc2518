/-! ===== the reader: a SUM more ===== -/
theorem layT_cg {F G : (Nat → Nat) → Nat → Nat} {n : Nat} (h : ∀ f u, u < n → F f u = G f u) : layT F n = layT G n := by
  induction n with
  | zero => rfl
  | succ n ih =>
    have e := ih (fun f u hu => h f u (by omega))
    show upd1 (layT F n) n (F (layT F n) n) = upd1 (layT G n) n (G (layT G n) n)
    rw [e, h _ _ (Nat.lt_succ_self n)]
/-- a SUM more -/
def addS (sc : Sg) (s f g : Nat) : Sg := (fun j => if j = 4 then sc.1 4 + 1 else sc.1 j, fun r v => if v = sc.1 4 then (if r = 0 then s else if r = 1 then f else if r = 2 then g else sc.2 r v) else sc.2 r v)
theorem addS_o {sc : Sg} {s f g r v : Nat} (h : ¬ v = sc.1 4) : (addS sc s f g).2 r v = sc.2 r v := if_neg h
theorem addS_4 (sc : Sg) (s f g : Nat) : (addS sc s f g).1 4 = sc.1 4 + 1 := rfl
theorem addS_j {sc : Sg} {s f g j : Nat} (h : ¬ j = 4) : (addS sc s f g).1 j = sc.1 j := if_neg h
theorem addS_0 (sc : Sg) (s f g : Nat) : (addS sc s f g).2 0 (sc.1 4) = s := if_pos rfl
theorem addS_1 (sc : Sg) (s f g : Nat) : (addS sc s f g).2 1 (sc.1 4) = f := if_pos rfl
theorem addS_2 (sc : Sg) (s f g : Nat) : (addS sc s f g).2 2 (sc.1 4) = g := if_pos rfl
theorem valS_o {sc : Sg} {s f g u : Nat} (h : u < sc.1 4) : valS (addS sc s f g) u = valS sc u := by
  unfold valS
  rw [layT_cg (G := wkS sc) (fun F x hx => by unfold wkS; simp only [addS_o (sc := sc) (s := s) (f := f) (g := g) (show ¬ x = sc.1 4 by omega)])]
theorem ancS_o {sc : Sg} {s f g u : Nat} (h : u < sc.1 4) : ancS (addS sc s f g) u = ancS sc u := by
  unfold ancS
  rw [layT_cg (G := ancF sc) (fun F x hx => by unfold ancF; simp only [addS_o (sc := sc) (s := s) (f := f) (g := g) (show ¬ x = sc.1 4 by omega)])]
theorem depS_o {sc : Sg} {s f g u : Nat} (h : u < sc.1 4) : depS (addS sc s f g) u = depS sc u := by
  unfold depS
  rw [layT_cg (G := depF sc) (fun F x hx => by unfold depF; simp only [addS_o (sc := sc) (s := s) (f := f) (g := g) (show ¬ x = sc.1 4 by omega)])]
theorem needS_o {sc : Sg} {s f g u : Nat} (h : u < sc.1 4) : needS (addS sc s f g) u = needS sc u := by
  unfold needS
  simp only [addS_o (sc := sc) (s := s) (f := f) (g := g) (show ¬ u = sc.1 4 by omega)]
theorem valS_n {sc : Sg} {s f g : Nat} (gv : GdV (addS sc s f g) (sc.1 4)) : valS (addS sc s f g) (sc.1 4) = wkS (addS sc s f g) (valS sc) (sc.1 4) := by
  rw [valS_eq gv]
  exact wkS_congr gv (fun u hu => valS_o hu)
set_option maxHeartbeats 4000000 in
theorem t_worked9 {v : Nat} {sc : Sg} {w : Wd} (F : Nat → Nat) (gv : GdV sc v) (hv14 : v < 14) (hA : gI w 10 v = nI (sc.2 0 v) ∧ gI w 11 v = nI (sc.2 1 v) ∧ gI w 12 v = (if sc.2 0 v = 0 then mI 1 else nI (sc.2 2 v))) (h1 : sc.2 0 v ≠ 0 → gI w 16 (sc.2 1 v) = nI (F (sc.2 1 v)) ∧ F (sc.2 1 v) < 1000003) (h2 : sc.2 0 v ≠ 0 → sc.2 0 v ≠ 5 → gI w 16 (sc.2 2 v) = nI (F (sc.2 2 v)) ∧ F (sc.2 2 v) < 1000003) : zE 49 [.ref 9, .int (nI v), .ref 16] w = some (some (.int (nI (wkS sc F v))), w) := by
  obtain ⟨a1, a2, a3, a4, a5⟩ := gv
  rw [zE_W []]
  unfold wkS
  have hso : sc.2 0 v = 0 ∨ sc.2 0 v = 1 ∨ sc.2 0 v = 2 ∨ sc.2 0 v = 3 ∨ sc.2 0 v = 4 ∨ sc.2 0 v = 5 := by omega
  rcases hso with e | e | e | e | e | e
  · rw [e] at hA
    simp (disch := omega) only [tt_49, T_49, mx_49, Nat.reduceLT, Nat.reduceLeDiff, Nat.reduceEqDiff, Nat.reduceAdd, Nat.reduceMul, Nat.reduceSub, Nat.reducePow, Nat.reduceMod, Nat.reduceDiv, Nat.reduceBEq, ↓reduceIte, reduceCtorEq, and_true, true_and, and_false, false_and, and_self, zW_eq, zin, zop, zst, fw_ite, fw_K, fw_R, fw_F, fw_C, zBW_s, nth, stL, okL, nlg, ct, ctv, cI, cL, pu, tkC, iniL, pad, eL, Value.category, swK, bz_0, bz_n0, bz_n1, bI_bz, bI_0, bI_t, bI_f, List.headD_cons, decide_true, decide_false, Bool.true_and, Bool.and_true, Bool.false_and, Bool.and_false, Bool.and_self, Bool.not_true, Bool.not_false, Bool.or_false, Bool.false_or, Bool.true_or, Bool.or_true, Bool.or_self, Bool.false_eq_true, rf_45, rf_47, rf_49, rf_50, rf_51, rf_58, rf_63, rf_65, rf_267, rf45, rf50, rf58, rf63, rf267, ob_45, ob_49, ob_50, ob_58, ob_63, ob_267, ln_46, ln_46n, ln_46m, ln_47, ln_47n, ln_48, ln_48n, ln_51, ln_56, ln_57, ln_59, ln_60, ln_61, ln_62, ln_64, ln_64n, ln_65, ln_268, ln_269, ln_270, ln_270n, ln_271, ln_271n, ln_272, ln_272n, ln_272m, ln_273, ln_274, ln_275, ln_276, ln_277, ln_278, ln_278n, ln_279, ln_280, ln_281, ln_282, ln_283, ln_283n, ln_284, ln_285, ln_286, ln_286n, ln_287, ln_287n, ln_288, ln_289, ln_289n, gF_sF, gF_sG, gF_sI, gF_sJ, gF_sP, gF_sR, gF_sL, gG_sF, gG_sG, gG_sI, gG_sJ, gG_sP, gG_sR, gG_sL, gI_sF, gI_sG, gI_sI, gI_sJ, gI_sP, gI_sR, gI_sL, gJ_sF, gJ_sG, gJ_sI, gJ_sJ, gJ_sP, gJ_sR, gJ_sL, gP_sF, gP_sG, gP_sI, gP_sJ, gP_sP, gP_sR, gP_sL, inB_n, inC_n, iX_n, nI_add, pk_mul, pk_sub, n_and, n_or, n_xor, n_one, n_ush, n_shr, n_div, n_rem, n_ltm, m_ltn, m_ltm, n_eqm, m_eqn, m_eqm, n_lt, n_eq, n_eq0, n_addm, n_i2l, m_i2l, n_l2i, lN_add, lN_mul, lN_sub, l_div, l_rem, l_eq0, lc_lt, lc_gt, lc_eq, l_lt, l_eq, l_ltm, ml_ltn, ml_ltm, l_eqm, ml_eqn, ml_eqm, ls_1, ls_2, ls_3, ls_4, ls_5, ls_6, ls_7, ls_8, ls_10, ls_11, ls_12, ls_13, ls_14, ls_15, ls_16, ls_17, ob_0, ob_9, rf_0, rf_9, hA, hv14, e]
  · rw [e] at hA
    have b3 : sc.2 1 v < 14 := by have := a3 (by omega); omega
    have b4 : sc.2 2 v < 14 := by have := a4 (by omega) (by omega); omega
    obtain ⟨b1, c1⟩ := h1 (by omega)
    obtain ⟨b2, c2⟩ := h2 (by omega) (by omega)
    simp (disch := omega) only [tt_49, T_49, mx_49, Nat.reduceLT, Nat.reduceLeDiff, Nat.reduceEqDiff, Nat.reduceAdd, Nat.reduceMul, Nat.reduceSub, Nat.reducePow, Nat.reduceMod, Nat.reduceDiv, Nat.reduceBEq, ↓reduceIte, reduceCtorEq, and_true, true_and, and_false, false_and, and_self, zW_eq, zin, zop, zst, fw_ite, fw_K, fw_R, fw_F, fw_C, zBW_s, nth, stL, okL, nlg, ct, ctv, cI, cL, pu, tkC, iniL, pad, eL, Value.category, swK, bz_0, bz_n0, bz_n1, bI_bz, bI_0, bI_t, bI_f, List.headD_cons, decide_true, decide_false, Bool.true_and, Bool.and_true, Bool.false_and, Bool.and_false, Bool.and_self, Bool.not_true, Bool.not_false, Bool.or_false, Bool.false_or, Bool.true_or, Bool.or_true, Bool.or_self, Bool.false_eq_true, rf_45, rf_47, rf_49, rf_50, rf_51, rf_58, rf_63, rf_65, rf_267, rf45, rf50, rf58, rf63, rf267, ob_45, ob_49, ob_50, ob_58, ob_63, ob_267, ln_46, ln_46n, ln_46m, ln_47, ln_47n, ln_48, ln_48n, ln_51, ln_56, ln_57, ln_59, ln_60, ln_61, ln_62, ln_64, ln_64n, ln_65, ln_268, ln_269, ln_270, ln_270n, ln_271, ln_271n, ln_272, ln_272n, ln_272m, ln_273, ln_274, ln_275, ln_276, ln_277, ln_278, ln_278n, ln_279, ln_280, ln_281, ln_282, ln_283, ln_283n, ln_284, ln_285, ln_286, ln_286n, ln_287, ln_287n, ln_288, ln_289, ln_289n, gF_sF, gF_sG, gF_sI, gF_sJ, gF_sP, gF_sR, gF_sL, gG_sF, gG_sG, gG_sI, gG_sJ, gG_sP, gG_sR, gG_sL, gI_sF, gI_sG, gI_sI, gI_sJ, gI_sP, gI_sR, gI_sL, gJ_sF, gJ_sG, gJ_sI, gJ_sJ, gJ_sP, gJ_sR, gJ_sL, gP_sF, gP_sG, gP_sI, gP_sJ, gP_sP, gP_sR, gP_sL, inB_n, inC_n, iX_n, nI_add, pk_mul, pk_sub, n_and, n_or, n_xor, n_one, n_ush, n_shr, n_div, n_rem, n_ltm, m_ltn, m_ltm, n_eqm, m_eqn, m_eqm, n_lt, n_eq, n_eq0, n_addm, n_i2l, m_i2l, n_l2i, lN_add, lN_mul, lN_sub, l_div, l_rem, l_eq0, lc_lt, lc_gt, lc_eq, l_lt, l_eq, l_ltm, ml_ltn, ml_ltm, l_eqm, ml_eqn, ml_eqm, ls_1, ls_2, ls_3, ls_4, ls_5, ls_6, ls_7, ls_8, ls_10, ls_11, ls_12, ls_13, ls_14, ls_15, ls_16, ls_17, ob_0, ob_9, rf_0, rf_9, hA, hv14, e, b1, b2, b3, b4]
  · rw [e] at hA
    have b3 : sc.2 1 v < 14 := by have := a3 (by omega); omega
    have b4 : sc.2 2 v < 14 := by have := a4 (by omega) (by omega); omega
    obtain ⟨b1, c1⟩ := h1 (by omega)
    obtain ⟨b2, c2⟩ := h2 (by omega) (by omega)
    simp (disch := omega) only [tt_49, T_49, mx_49, Nat.reduceLT, Nat.reduceLeDiff, Nat.reduceEqDiff, Nat.reduceAdd, Nat.reduceMul, Nat.reduceSub, Nat.reducePow, Nat.reduceMod, Nat.reduceDiv, Nat.reduceBEq, ↓reduceIte, reduceCtorEq, and_true, true_and, and_false, false_and, and_self, zW_eq, zin, zop, zst, fw_ite, fw_K, fw_R, fw_F, fw_C, zBW_s, nth, stL, okL, nlg, ct, ctv, cI, cL, pu, tkC, iniL, pad, eL, Value.category, swK, bz_0, bz_n0, bz_n1, bI_bz, bI_0, bI_t, bI_f, List.headD_cons, decide_true, decide_false, Bool.true_and, Bool.and_true, Bool.false_and, Bool.and_false, Bool.and_self, Bool.not_true, Bool.not_false, Bool.or_false, Bool.false_or, Bool.true_or, Bool.or_true, Bool.or_self, Bool.false_eq_true, rf_45, rf_47, rf_49, rf_50, rf_51, rf_58, rf_63, rf_65, rf_267, rf45, rf50, rf58, rf63, rf267, ob_45, ob_49, ob_50, ob_58, ob_63, ob_267, ln_46, ln_46n, ln_46m, ln_47, ln_47n, ln_48, ln_48n, ln_51, ln_56, ln_57, ln_59, ln_60, ln_61, ln_62, ln_64, ln_64n, ln_65, ln_268, ln_269, ln_270, ln_270n, ln_271, ln_271n, ln_272, ln_272n, ln_272m, ln_273, ln_274, ln_275, ln_276, ln_277, ln_278, ln_278n, ln_279, ln_280, ln_281, ln_282, ln_283, ln_283n, ln_284, ln_285, ln_286, ln_286n, ln_287, ln_287n, ln_288, ln_289, ln_289n, gF_sF, gF_sG, gF_sI, gF_sJ, gF_sP, gF_sR, gF_sL, gG_sF, gG_sG, gG_sI, gG_sJ, gG_sP, gG_sR, gG_sL, gI_sF, gI_sG, gI_sI, gI_sJ, gI_sP, gI_sR, gI_sL, gJ_sF, gJ_sG, gJ_sI, gJ_sJ, gJ_sP, gJ_sR, gJ_sL, gP_sF, gP_sG, gP_sI, gP_sJ, gP_sP, gP_sR, gP_sL, inB_n, inC_n, iX_n, nI_add, pk_mul, pk_sub, n_and, n_or, n_xor, n_one, n_ush, n_shr, n_div, n_rem, n_ltm, m_ltn, m_ltm, n_eqm, m_eqn, m_eqm, n_lt, n_eq, n_eq0, n_addm, n_i2l, m_i2l, n_l2i, lN_add, lN_mul, lN_sub, l_div, l_rem, l_eq0, lc_lt, lc_gt, lc_eq, l_lt, l_eq, l_ltm, ml_ltn, ml_ltm, l_eqm, ml_eqn, ml_eqm, ls_1, ls_2, ls_3, ls_4, ls_5, ls_6, ls_7, ls_8, ls_10, ls_11, ls_12, ls_13, ls_14, ls_15, ls_16, ls_17, ob_0, ob_9, rf_0, rf_9, hA, hv14, e, b1, b2, b3, b4, n_fm c1 c2]
  · rw [e] at hA
    have b3 : sc.2 1 v < 14 := by have := a3 (by omega); omega
    have b4 : sc.2 2 v < 14 := by have := a4 (by omega) (by omega); omega
    obtain ⟨b1, c1⟩ := h1 (by omega)
    obtain ⟨b2, c2⟩ := h2 (by omega) (by omega)
    have hm : F (sc.2 1 v) * F (sc.2 2 v) < 2 ^ 63 := Nat.lt_of_le_of_lt (Nat.mul_le_mul (Nat.le_of_lt c1) (Nat.le_of_lt c2)) (by decide)
    simp (disch := omega) only [tt_49, T_49, mx_49, Nat.reduceLT, Nat.reduceLeDiff, Nat.reduceEqDiff, Nat.reduceAdd, Nat.reduceMul, Nat.reduceSub, Nat.reducePow, Nat.reduceMod, Nat.reduceDiv, Nat.reduceBEq, ↓reduceIte, reduceCtorEq, and_true, true_and, and_false, false_and, and_self, zW_eq, zin, zop, zst, fw_ite, fw_K, fw_R, fw_F, fw_C, zBW_s, nth, stL, okL, nlg, ct, ctv, cI, cL, pu, tkC, iniL, pad, eL, Value.category, swK, bz_0, bz_n0, bz_n1, bI_bz, bI_0, bI_t, bI_f, List.headD_cons, decide_true, decide_false, Bool.true_and, Bool.and_true, Bool.false_and, Bool.and_false, Bool.and_self, Bool.not_true, Bool.not_false, Bool.or_false, Bool.false_or, Bool.true_or, Bool.or_true, Bool.or_self, Bool.false_eq_true, rf_45, rf_47, rf_49, rf_50, rf_51, rf_58, rf_63, rf_65, rf_267, rf45, rf50, rf58, rf63, rf267, ob_45, ob_49, ob_50, ob_58, ob_63, ob_267, ln_46, ln_46n, ln_46m, ln_47, ln_47n, ln_48, ln_48n, ln_51, ln_56, ln_57, ln_59, ln_60, ln_61, ln_62, ln_64, ln_64n, ln_65, ln_268, ln_269, ln_270, ln_270n, ln_271, ln_271n, ln_272, ln_272n, ln_272m, ln_273, ln_274, ln_275, ln_276, ln_277, ln_278, ln_278n, ln_279, ln_280, ln_281, ln_282, ln_283, ln_283n, ln_284, ln_285, ln_286, ln_286n, ln_287, ln_287n, ln_288, ln_289, ln_289n, gF_sF, gF_sG, gF_sI, gF_sJ, gF_sP, gF_sR, gF_sL, gG_sF, gG_sG, gG_sI, gG_sJ, gG_sP, gG_sR, gG_sL, gI_sF, gI_sG, gI_sI, gI_sJ, gI_sP, gI_sR, gI_sL, gJ_sF, gJ_sG, gJ_sI, gJ_sJ, gJ_sP, gJ_sR, gJ_sL, gP_sF, gP_sG, gP_sI, gP_sJ, gP_sP, gP_sR, gP_sL, inB_n, inC_n, iX_n, nI_add, pk_mul, pk_sub, n_and, n_or, n_xor, n_one, n_ush, n_shr, n_div, n_rem, n_ltm, m_ltn, m_ltm, n_eqm, m_eqn, m_eqm, n_lt, n_eq, n_eq0, n_addm, n_i2l, m_i2l, n_l2i, lN_add, lN_mul, lN_sub, l_div, l_rem, l_eq0, lc_lt, lc_gt, lc_eq, l_lt, l_eq, l_ltm, ml_ltn, ml_ltm, l_eqm, ml_eqn, ml_eqm, ls_1, ls_2, ls_3, ls_4, ls_5, ls_6, ls_7, ls_8, ls_10, ls_11, ls_12, ls_13, ls_14, ls_15, ls_16, ls_17, ob_0, ob_9, rf_0, rf_9, hA, hv14, e, b1, b2, b3, b4]
  · rw [e] at hA
    have b3 : sc.2 1 v < 14 := by have := a3 (by omega); omega
    have b4 : sc.2 2 v < 14 := by have := a4 (by omega) (by omega); omega
    obtain ⟨b1, c1⟩ := h1 (by omega)
    obtain ⟨b2, c2⟩ := h2 (by omega) (by omega)
    by_cases q : F (sc.2 1 v) < F (sc.2 2 v)
    · simp (disch := omega) only [tt_49, T_49, mx_49, Nat.reduceLT, Nat.reduceLeDiff, Nat.reduceEqDiff, Nat.reduceAdd, Nat.reduceMul, Nat.reduceSub, Nat.reducePow, Nat.reduceMod, Nat.reduceDiv, Nat.reduceBEq, ↓reduceIte, reduceCtorEq, and_true, true_and, and_false, false_and, and_self, zW_eq, zin, zop, zst, fw_ite, fw_K, fw_R, fw_F, fw_C, zBW_s, nth, stL, okL, nlg, ct, ctv, cI, cL, pu, tkC, iniL, pad, eL, Value.category, swK, bz_0, bz_n0, bz_n1, bI_bz, bI_0, bI_t, bI_f, List.headD_cons, decide_true, decide_false, Bool.true_and, Bool.and_true, Bool.false_and, Bool.and_false, Bool.and_self, Bool.not_true, Bool.not_false, Bool.or_false, Bool.false_or, Bool.true_or, Bool.or_true, Bool.or_self, Bool.false_eq_true, rf_45, rf_47, rf_49, rf_50, rf_51, rf_58, rf_63, rf_65, rf_267, rf45, rf50, rf58, rf63, rf267, ob_45, ob_49, ob_50, ob_58, ob_63, ob_267, ln_46, ln_46n, ln_46m, ln_47, ln_47n, ln_48, ln_48n, ln_51, ln_56, ln_57, ln_59, ln_60, ln_61, ln_62, ln_64, ln_64n, ln_65, ln_268, ln_269, ln_270, ln_270n, ln_271, ln_271n, ln_272, ln_272n, ln_272m, ln_273, ln_274, ln_275, ln_276, ln_277, ln_278, ln_278n, ln_279, ln_280, ln_281, ln_282, ln_283, ln_283n, ln_284, ln_285, ln_286, ln_286n, ln_287, ln_287n, ln_288, ln_289, ln_289n, gF_sF, gF_sG, gF_sI, gF_sJ, gF_sP, gF_sR, gF_sL, gG_sF, gG_sG, gG_sI, gG_sJ, gG_sP, gG_sR, gG_sL, gI_sF, gI_sG, gI_sI, gI_sJ, gI_sP, gI_sR, gI_sL, gJ_sF, gJ_sG, gJ_sI, gJ_sJ, gJ_sP, gJ_sR, gJ_sL, gP_sF, gP_sG, gP_sI, gP_sJ, gP_sP, gP_sR, gP_sL, inB_n, inC_n, iX_n, nI_add, pk_mul, pk_sub, n_and, n_or, n_xor, n_one, n_ush, n_shr, n_div, n_rem, n_ltm, m_ltn, m_ltm, n_eqm, m_eqn, m_eqm, n_lt, n_eq, n_eq0, n_addm, n_i2l, m_i2l, n_l2i, lN_add, lN_mul, lN_sub, l_div, l_rem, l_eq0, lc_lt, lc_gt, lc_eq, l_lt, l_eq, l_ltm, ml_ltn, ml_ltm, l_eqm, ml_eqn, ml_eqm, ls_1, ls_2, ls_3, ls_4, ls_5, ls_6, ls_7, ls_8, ls_10, ls_11, ls_12, ls_13, ls_14, ls_15, ls_16, ls_17, ob_0, ob_9, rf_0, rf_9, hA, hv14, e, b1, b2, b3, b4, q]
    · simp (disch := omega) only [tt_49, T_49, mx_49, Nat.reduceLT, Nat.reduceLeDiff, Nat.reduceEqDiff, Nat.reduceAdd, Nat.reduceMul, Nat.reduceSub, Nat.reducePow, Nat.reduceMod, Nat.reduceDiv, Nat.reduceBEq, ↓reduceIte, reduceCtorEq, and_true, true_and, and_false, false_and, and_self, zW_eq, zin, zop, zst, fw_ite, fw_K, fw_R, fw_F, fw_C, zBW_s, nth, stL, okL, nlg, ct, ctv, cI, cL, pu, tkC, iniL, pad, eL, Value.category, swK, bz_0, bz_n0, bz_n1, bI_bz, bI_0, bI_t, bI_f, List.headD_cons, decide_true, decide_false, Bool.true_and, Bool.and_true, Bool.false_and, Bool.and_false, Bool.and_self, Bool.not_true, Bool.not_false, Bool.or_false, Bool.false_or, Bool.true_or, Bool.or_true, Bool.or_self, Bool.false_eq_true, rf_45, rf_47, rf_49, rf_50, rf_51, rf_58, rf_63, rf_65, rf_267, rf45, rf50, rf58, rf63, rf267, ob_45, ob_49, ob_50, ob_58, ob_63, ob_267, ln_46, ln_46n, ln_46m, ln_47, ln_47n, ln_48, ln_48n, ln_51, ln_56, ln_57, ln_59, ln_60, ln_61, ln_62, ln_64, ln_64n, ln_65, ln_268, ln_269, ln_270, ln_270n, ln_271, ln_271n, ln_272, ln_272n, ln_272m, ln_273, ln_274, ln_275, ln_276, ln_277, ln_278, ln_278n, ln_279, ln_280, ln_281, ln_282, ln_283, ln_283n, ln_284, ln_285, ln_286, ln_286n, ln_287, ln_287n, ln_288, ln_289, ln_289n, gF_sF, gF_sG, gF_sI, gF_sJ, gF_sP, gF_sR, gF_sL, gG_sF, gG_sG, gG_sI, gG_sJ, gG_sP, gG_sR, gG_sL, gI_sF, gI_sG, gI_sI, gI_sJ, gI_sP, gI_sR, gI_sL, gJ_sF, gJ_sG, gJ_sI, gJ_sJ, gJ_sP, gJ_sR, gJ_sL, gP_sF, gP_sG, gP_sI, gP_sJ, gP_sP, gP_sR, gP_sL, inB_n, inC_n, iX_n, nI_add, pk_mul, pk_sub, n_and, n_or, n_xor, n_one, n_ush, n_shr, n_div, n_rem, n_ltm, m_ltn, m_ltm, n_eqm, m_eqn, m_eqm, n_lt, n_eq, n_eq0, n_addm, n_i2l, m_i2l, n_l2i, lN_add, lN_mul, lN_sub, l_div, l_rem, l_eq0, lc_lt, lc_gt, lc_eq, l_lt, l_eq, l_ltm, ml_ltn, ml_ltm, l_eqm, ml_eqn, ml_eqm, ls_1, ls_2, ls_3, ls_4, ls_5, ls_6, ls_7, ls_8, ls_10, ls_11, ls_12, ls_13, ls_14, ls_15, ls_16, ls_17, ob_0, ob_9, rf_0, rf_9, hA, hv14, e, b1, b2, b3, b4, q]
  · rw [e] at hA
    have b3 : sc.2 1 v < 14 := by have := a3 (by omega); omega
    obtain ⟨b1, c1⟩ := h1 (by omega)
    have a5' := a5 e
    simp (disch := omega) only [tt_49, T_49, mx_49, Nat.reduceLT, Nat.reduceLeDiff, Nat.reduceEqDiff, Nat.reduceAdd, Nat.reduceMul, Nat.reduceSub, Nat.reducePow, Nat.reduceMod, Nat.reduceDiv, Nat.reduceBEq, ↓reduceIte, reduceCtorEq, and_true, true_and, and_false, false_and, and_self, zW_eq, zin, zop, zst, fw_ite, fw_K, fw_R, fw_F, fw_C, zBW_s, nth, stL, okL, nlg, ct, ctv, cI, cL, pu, tkC, iniL, pad, eL, Value.category, swK, bz_0, bz_n0, bz_n1, bI_bz, bI_0, bI_t, bI_f, List.headD_cons, decide_true, decide_false, Bool.true_and, Bool.and_true, Bool.false_and, Bool.and_false, Bool.and_self, Bool.not_true, Bool.not_false, Bool.or_false, Bool.false_or, Bool.true_or, Bool.or_true, Bool.or_self, Bool.false_eq_true, rf_45, rf_47, rf_49, rf_50, rf_51, rf_58, rf_63, rf_65, rf_267, rf45, rf50, rf58, rf63, rf267, ob_45, ob_49, ob_50, ob_58, ob_63, ob_267, ln_46, ln_46n, ln_46m, ln_47, ln_47n, ln_48, ln_48n, ln_51, ln_56, ln_57, ln_59, ln_60, ln_61, ln_62, ln_64, ln_64n, ln_65, ln_268, ln_269, ln_270, ln_270n, ln_271, ln_271n, ln_272, ln_272n, ln_272m, ln_273, ln_274, ln_275, ln_276, ln_277, ln_278, ln_278n, ln_279, ln_280, ln_281, ln_282, ln_283, ln_283n, ln_284, ln_285, ln_286, ln_286n, ln_287, ln_287n, ln_288, ln_289, ln_289n, gF_sF, gF_sG, gF_sI, gF_sJ, gF_sP, gF_sR, gF_sL, gG_sF, gG_sG, gG_sI, gG_sJ, gG_sP, gG_sR, gG_sL, gI_sF, gI_sG, gI_sI, gI_sJ, gI_sP, gI_sR, gI_sL, gJ_sF, gJ_sG, gJ_sI, gJ_sJ, gJ_sP, gJ_sR, gJ_sL, gP_sF, gP_sG, gP_sI, gP_sJ, gP_sP, gP_sR, gP_sL, inB_n, inC_n, iX_n, nI_add, pk_mul, pk_sub, n_and, n_or, n_xor, n_one, n_ush, n_shr, n_div, n_rem, n_ltm, m_ltn, m_ltm, n_eqm, m_eqn, m_eqm, n_lt, n_eq, n_eq0, n_addm, n_i2l, m_i2l, n_l2i, lN_add, lN_mul, lN_sub, l_div, l_rem, l_eq0, lc_lt, lc_gt, lc_eq, l_lt, l_eq, l_ltm, ml_ltn, ml_ltm, l_eqm, ml_eqn, ml_eqm, ls_1, ls_2, ls_3, ls_4, ls_5, ls_6, ls_7, ls_8, ls_10, ls_11, ls_12, ls_13, ls_14, ls_15, ls_16, ls_17, ob_0, ob_9, rf_0, rf_9, hA, hv14, e, b1, b3]
theorem t_comeOf9 {w : Wd} {v o N O D Oo Do : Nat} (hv : v < 14) (ho : o < 14) (rN : gI w 13 v = nI N) (rO : gI w 14 v = nI O) (rD : gI w 15 v = nI D) (sO : gI w 14 o = nI Oo) (sD : gI w 15 o = nI Do) (hD : D ≤ 14) (hDo : Do ≤ 14) (hne : ¬ o = v) : zE 48 [.ref 9, .int (nI v), .int (nI o)] w = some (none, sI (sI (sI w 13 v (nI (N ||| 2 ^ o))) 14 v (nI (O ||| (2 ^ o ||| Oo)))) 15 v (nI (if D < Do + 1 then Do + 1 else D))) := by
  rw [zE_W []]
  by_cases z : D < Do + 1
  · rw [if_pos z]
    simp (disch := omega) only [tt_48, T_48, mx_48, Nat.reduceLT, Nat.reduceLeDiff, Nat.reduceEqDiff, Nat.reduceAdd, Nat.reduceMul, Nat.reduceSub, Nat.reducePow, Nat.reduceMod, Nat.reduceDiv, Nat.reduceBEq, ↓reduceIte, reduceCtorEq, and_true, true_and, and_false, false_and, and_self, zW_eq, zin, zop, zst, fw_ite, fw_K, fw_R, fw_F, fw_C, zBW_s, nth, stL, okL, nlg, ct, ctv, cI, cL, pu, tkC, iniL, pad, eL, Value.category, swK, bz_0, bz_n0, bz_n1, bI_bz, bI_0, bI_t, bI_f, List.headD_cons, decide_true, decide_false, Bool.true_and, Bool.and_true, Bool.false_and, Bool.and_false, Bool.and_self, Bool.not_true, Bool.not_false, Bool.or_false, Bool.false_or, Bool.true_or, Bool.or_true, Bool.or_self, Bool.false_eq_true, rf_45, rf_47, rf_49, rf_50, rf_51, rf_58, rf_63, rf_65, rf_267, rf45, rf50, rf58, rf63, rf267, ob_45, ob_49, ob_50, ob_58, ob_63, ob_267, ln_46, ln_46n, ln_46m, ln_47, ln_47n, ln_48, ln_48n, ln_51, ln_56, ln_57, ln_59, ln_60, ln_61, ln_62, ln_64, ln_64n, ln_65, ln_268, ln_269, ln_270, ln_270n, ln_271, ln_271n, ln_272, ln_272n, ln_272m, ln_273, ln_274, ln_275, ln_276, ln_277, ln_278, ln_278n, ln_279, ln_280, ln_281, ln_282, ln_283, ln_283n, ln_284, ln_285, ln_286, ln_286n, ln_287, ln_287n, ln_288, ln_289, ln_289n, gF_sF, gF_sG, gF_sI, gF_sJ, gF_sP, gF_sR, gF_sL, gG_sF, gG_sG, gG_sI, gG_sJ, gG_sP, gG_sR, gG_sL, gI_sF, gI_sG, gI_sI, gI_sJ, gI_sP, gI_sR, gI_sL, gJ_sF, gJ_sG, gJ_sI, gJ_sJ, gJ_sP, gJ_sR, gJ_sL, gP_sF, gP_sG, gP_sI, gP_sJ, gP_sP, gP_sR, gP_sL, inB_n, inC_n, iX_n, nI_add, pk_mul, pk_sub, n_and, n_or, n_xor, n_one, n_ush, n_shr, n_div, n_rem, n_ltm, m_ltn, m_ltm, n_eqm, m_eqn, m_eqm, n_lt, n_eq, n_eq0, n_addm, n_i2l, m_i2l, n_l2i, lN_add, lN_mul, lN_sub, l_div, l_rem, l_eq0, lc_lt, lc_gt, lc_eq, l_lt, l_eq, l_ltm, ml_ltn, ml_ltm, l_eqm, ml_eqn, ml_eqm, ls_1, ls_2, ls_3, ls_4, ls_5, ls_6, ls_7, ls_8, ls_10, ls_11, ls_12, ls_13, ls_14, ls_15, ls_16, ls_17, ob_0, ob_9, rf_0, rf_9, hv, ho, rN, rO, rD, sO, sD, z]
  · rw [if_neg z]
    simp (disch := omega) only [tt_48, T_48, mx_48, Nat.reduceLT, Nat.reduceLeDiff, Nat.reduceEqDiff, Nat.reduceAdd, Nat.reduceMul, Nat.reduceSub, Nat.reducePow, Nat.reduceMod, Nat.reduceDiv, Nat.reduceBEq, ↓reduceIte, reduceCtorEq, and_true, true_and, and_false, false_and, and_self, zW_eq, zin, zop, zst, fw_ite, fw_K, fw_R, fw_F, fw_C, zBW_s, nth, stL, okL, nlg, ct, ctv, cI, cL, pu, tkC, iniL, pad, eL, Value.category, swK, bz_0, bz_n0, bz_n1, bI_bz, bI_0, bI_t, bI_f, List.headD_cons, decide_true, decide_false, Bool.true_and, Bool.and_true, Bool.false_and, Bool.and_false, Bool.and_self, Bool.not_true, Bool.not_false, Bool.or_false, Bool.false_or, Bool.true_or, Bool.or_true, Bool.or_self, Bool.false_eq_true, rf_45, rf_47, rf_49, rf_50, rf_51, rf_58, rf_63, rf_65, rf_267, rf45, rf50, rf58, rf63, rf267, ob_45, ob_49, ob_50, ob_58, ob_63, ob_267, ln_46, ln_46n, ln_46m, ln_47, ln_47n, ln_48, ln_48n, ln_51, ln_56, ln_57, ln_59, ln_60, ln_61, ln_62, ln_64, ln_64n, ln_65, ln_268, ln_269, ln_270, ln_270n, ln_271, ln_271n, ln_272, ln_272n, ln_272m, ln_273, ln_274, ln_275, ln_276, ln_277, ln_278, ln_278n, ln_279, ln_280, ln_281, ln_282, ln_283, ln_283n, ln_284, ln_285, ln_286, ln_286n, ln_287, ln_287n, ln_288, ln_289, ln_289n, gF_sF, gF_sG, gF_sI, gF_sJ, gF_sP, gF_sR, gF_sL, gG_sF, gG_sG, gG_sI, gG_sJ, gG_sP, gG_sR, gG_sL, gI_sF, gI_sG, gI_sI, gI_sJ, gI_sP, gI_sR, gI_sL, gJ_sF, gJ_sG, gJ_sI, gJ_sJ, gJ_sP, gJ_sR, gJ_sL, gP_sF, gP_sG, gP_sI, gP_sJ, gP_sP, gP_sR, gP_sL, inB_n, inC_n, iX_n, nI_add, pk_mul, pk_sub, n_and, n_or, n_xor, n_one, n_ush, n_shr, n_div, n_rem, n_ltm, m_ltn, m_ltm, n_eqm, m_eqn, m_eqm, n_lt, n_eq, n_eq0, n_addm, n_i2l, m_i2l, n_l2i, lN_add, lN_mul, lN_sub, l_div, l_rem, l_eq0, lc_lt, lc_gt, lc_eq, l_lt, l_eq, l_ltm, ml_ltn, ml_ltm, l_eqm, ml_eqn, ml_eqm, ls_1, ls_2, ls_3, ls_4, ls_5, ls_6, ls_7, ls_8, ls_10, ls_11, ls_12, ls_13, ls_14, ls_15, ls_16, ls_17, ob_0, ob_9, rf_0, rf_9, hv, ho, rN, rO, rD, sO, sD, z]
/-- what stands in the rows once all but the value is laid -/
def RwS (sc' : Sg) (v : Nat) (w w1 : Wd) : Prop := SmO (fun c => 9 ≤ c ∧ c < 18) w w1 ∧ (∀ j, gF w1 9 j = gF w 9 j) ∧ (∀ c u, ¬ u = v → gI w1 c u = gI w c u) ∧ gI w1 10 v = nI (sc'.2 0 v) ∧ gI w1 11 v = nI (sc'.2 1 v) ∧ gI w1 12 v = (if sc'.2 0 v = 0 then mI 1 else nI (sc'.2 2 v)) ∧ gI w1 13 v = nI (needS sc' v) ∧ gI w1 14 v = nI (ancS sc' v) ∧ gI w1 15 v = nI (depS sc' v)
theorem add_fin {sc : Sg} {w w1 : Wd} {s f g : Nat} (hc : ClS 9 sc w) (h5 : sc.1 5 = 0) (h : RwS (addS sc s f g) (sc.1 4) w w1) : ClS 9 (addS sc s f g) (sF (sI w1 16 (sc.1 4) (nI (valS (addS sc s f g) (sc.1 4)))) 9 4 (nI (sc.1 4 + 1))) ∧ SmO (fun c => 9 ≤ c ∧ c < 18) w (sF (sI w1 16 (sc.1 4) (nI (valS (addS sc s f g) (sc.1 4)))) 9 4 (nI (sc.1 4 + 1))) := by
  obtain ⟨hS, hF, hO, i0, i1, i2, i3, i4, i5⟩ := h
  refine ⟨⟨hc.1, fun j hj => ?_, fun u hu => ?_, fun u hu hb => ?_⟩, (hS.tr (SmO.sI (by decide))).tr (SmO.sF (by decide))⟩
  · rw [gF_sF]
    by_cases e : j = 4
    · rw [if_pos ⟨rfl, e⟩, e]
      rfl
    · rw [if_neg (fun z => e z.2), gF_sI, hF, addS_j e]
      exact hc.2.1 j hj
  · rw [addS_4] at hu
    have rd : ∀ c, ¬ c = 16 → gI (sF (sI w1 16 (sc.1 4) (nI (valS (addS sc s f g) (sc.1 4)))) 9 4 (nI (sc.1 4 + 1))) c u = gI w1 c u := fun c hne => by rw [gI_sF, gI_sI, if_neg (fun z => hne z.1)]
    by_cases e : u = sc.1 4
    · rw [rd (9 + 1) (by decide), rd (9 + 2) (by decide), rd (9 + 3) (by decide), rd (9 + 4) (by decide), rd (9 + 5) (by decide), rd (9 + 6) (by decide), e]
      refine ⟨i0, i1, i2, i3, i4, i5, ?_⟩
      rw [gI_sF, gI_sI, if_pos ⟨rfl, rfl⟩]
    · have hu : u < sc.1 4 := by omega
      have r16 : gI (sF (sI w1 16 (sc.1 4) (nI (valS (addS sc s f g) (sc.1 4)))) 9 4 (nI (sc.1 4 + 1))) (9 + 7) u = gI w1 16 u := by rw [gI_sF, gI_sI, if_neg (fun z => e z.2)]
      rw [rd (9 + 1) (by decide), rd (9 + 2) (by decide), rd (9 + 3) (by decide), rd (9 + 4) (by decide), rd (9 + 5) (by decide), rd (9 + 6) (by decide), hO _ _ e, hO _ _ e, hO _ _ e, hO _ _ e, hO _ _ e, hO _ _ e, r16, hO _ _ e, addS_o e, addS_o e, addS_o e, needS_o hu, ancS_o hu, depS_o hu, valS_o hu]
      exact hc.2.2.1 u hu
  · exfalso
    rw [addS_j (by decide), h5, Nat.zero_testBit] at hb
    cases hb
set_option maxHeartbeats 4000000 in
theorem t_addSum {sc : Sg} {w : Wd} {s f g : Nat} (hc : ClS 9 sc w) (gs : ∀ v, v < sc.1 4 → GdV sc v) (h14 : sc.1 4 < 14) (h5 : sc.1 5 = 0) (gv : GdV (addS sc s f g) (sc.1 4)) {x2 : Int32} (hx : x2 = if s = 0 then mI 1 else nI g) : ∃ w', zE 47 [.ref 9, .int (nI s), .int (nI f), .int x2] w = some (none, w') ∧ ClS 9 (addS sc s f g) w' ∧ SmO (fun c => 9 ≤ c ∧ c < 18) w w' := by
  have f4 := hc.2.1 4 (by decide)
  have hv := valS_n gv
  obtain ⟨a1, a2, a3, a4, a5⟩ := id gv
  rw [addS_0] at a1 a2 a3 a4 a5
  rw [addS_1] at a2 a3
  rw [addS_2] at a4 a5
  have dl := depS_le gs
  have vl := valS_lt gs
  have row : ∀ u, u < sc.1 4 → gI w 14 u = nI (ancS sc u) ∧ gI w 15 u = nI (depS sc u) ∧ gI w 16 u = nI (valS sc u) := fun u hu => ⟨(hc.2.2.1 u hu).2.2.2.2.1, (hc.2.2.1 u hu).2.2.2.2.2.1, (hc.2.2.1 u hu).2.2.2.2.2.2⟩
  -- the rows as laid first
  have fin : ∀ w1, RwS (addS sc s f g) (sc.1 4) w w1 → zR 47 77 [.ref 9, .int (nI s), .int (nI f), .int x2, .int (nI (sc.1 4))] [] w1 = some (none, sF (sI w1 16 (sc.1 4) (nI (valS (addS sc s f g) (sc.1 4)))) 9 4 (nI (sc.1 4 + 1))) := by
    intro w1 h1
    have tw := t_worked9 (sc := addS sc s f g) (w := w1) (valS sc) gv h14 ⟨h1.2.2.2.1, h1.2.2.2.2.1, h1.2.2.2.2.2.1⟩ (fun hn => by
      rw [addS_0] at hn
      rw [addS_1]
      have hlt := a3 hn
      rw [h1.2.2.1 _ _ (by omega)]
      exact ⟨(row f hlt).2.2, vl f hlt⟩) (fun hn hn5 => by
      rw [addS_0] at hn hn5
      rw [addS_2]
      have hlt := a4 hn hn5
      rw [h1.2.2.1 _ _ (by omega)]
      exact ⟨(row g hlt).2.2, vl g hlt⟩)
    rw [← hv] at tw
    have g4 : gF w1 9 4 = nI (sc.1 4) := (h1.2.1 4).trans f4
    rw [zR_W []]
    simp (disch := omega) only [tt_47, T_47, mx_47, Nat.reduceLT, Nat.reduceLeDiff, Nat.reduceEqDiff, Nat.reduceAdd, Nat.reduceMul, Nat.reduceSub, Nat.reducePow, Nat.reduceMod, Nat.reduceDiv, Nat.reduceBEq, ↓reduceIte, reduceCtorEq, and_true, true_and, and_false, false_and, and_self, zW_eq, zin, zop, zst, fw_ite, fw_K, fw_R, fw_F, fw_C, zBW_s, nth, stL, okL, nlg, ct, ctv, cI, cL, pu, tkC, iniL, pad, eL, Value.category, swK, bz_0, bz_n0, bz_n1, bI_bz, bI_0, bI_t, bI_f, List.headD_cons, decide_true, decide_false, Bool.true_and, Bool.and_true, Bool.false_and, Bool.and_false, Bool.and_self, Bool.not_true, Bool.not_false, Bool.or_false, Bool.false_or, Bool.true_or, Bool.or_true, Bool.or_self, Bool.false_eq_true, rf_45, rf_47, rf_49, rf_50, rf_51, rf_58, rf_63, rf_65, rf_267, rf45, rf50, rf58, rf63, rf267, ob_45, ob_49, ob_50, ob_58, ob_63, ob_267, ln_46, ln_46n, ln_46m, ln_47, ln_47n, ln_48, ln_48n, ln_51, ln_56, ln_57, ln_59, ln_60, ln_61, ln_62, ln_64, ln_64n, ln_65, ln_268, ln_269, ln_270, ln_270n, ln_271, ln_271n, ln_272, ln_272n, ln_272m, ln_273, ln_274, ln_275, ln_276, ln_277, ln_278, ln_278n, ln_279, ln_280, ln_281, ln_282, ln_283, ln_283n, ln_284, ln_285, ln_286, ln_286n, ln_287, ln_287n, ln_288, ln_289, ln_289n, gF_sF, gF_sG, gF_sI, gF_sJ, gF_sP, gF_sR, gF_sL, gG_sF, gG_sG, gG_sI, gG_sJ, gG_sP, gG_sR, gG_sL, gI_sF, gI_sG, gI_sI, gI_sJ, gI_sP, gI_sR, gI_sL, gJ_sF, gJ_sG, gJ_sI, gJ_sJ, gJ_sP, gJ_sR, gJ_sL, gP_sF, gP_sG, gP_sI, gP_sJ, gP_sP, gP_sR, gP_sL, inB_n, inC_n, iX_n, nI_add, pk_mul, pk_sub, n_and, n_or, n_xor, n_one, n_ush, n_shr, n_div, n_rem, n_ltm, m_ltn, m_ltm, n_eqm, m_eqn, m_eqm, n_lt, n_eq, n_eq0, n_addm, n_i2l, m_i2l, n_l2i, lN_add, lN_mul, lN_sub, l_div, l_rem, l_eq0, lc_lt, lc_gt, lc_eq, l_lt, l_eq, l_ltm, ml_ltn, ml_ltm, l_eqm, ml_eqn, ml_eqm, ls_1, ls_2, ls_3, ls_4, ls_5, ls_6, ls_7, ls_8, ls_10, ls_11, ls_12, ls_13, ls_14, ls_15, ls_16, ls_17, ob_0, ob_9, rf_0, rf_9, tw, h14, g4]
  have nd : needS (addS sc s f g) (sc.1 4) = if s = 0 then 0 else if s = 5 then 2 ^ f else 2 ^ f ||| 2 ^ g := by unfold needS; rw [addS_0, addS_1, addS_2]
  have an : ancS (addS sc s f g) (sc.1 4) = if s = 0 then 0 else if s = 5 then 2 ^ f ||| ancS sc f else (2 ^ f ||| ancS sc f) ||| (2 ^ g ||| ancS sc g) := by
    rw [ancS_eq gv, ancF_congr gv (g := ancS sc) (fun u hu => ancS_o hu)]
    unfold ancF
    rw [addS_0, addS_1, addS_2]
  have dp : depS (addS sc s f g) (sc.1 4) = if s = 0 then 0 else if s = 5 then depS sc f + 1 else max (depS sc f) (depS sc g) + 1 := by
    rw [depS_eq gv, depF_congr gv (g := depS sc) (fun u hu => depS_o hu)]
    unfold depF
    rw [addS_0, addS_1, addS_2]
  have base : ∀ N O D, SmO (fun c => 9 ≤ c ∧ c < 18) w (sI (sI (sI (sI (sI (sI w 10 (sc.1 4) (nI s)) 11 (sc.1 4) (nI f)) 12 (sc.1 4) x2) 13 (sc.1 4) (nI N)) 14 (sc.1 4) (nI O)) 15 (sc.1 4) (nI D)) := fun N O D => (((((SmO.sI (by decide)).tr (SmO.sI (by decide))).tr (SmO.sI (by decide))).tr (SmO.sI (by decide))).tr (SmO.sI (by decide))).tr (SmO.sI (by decide))
  have rws : ∀ N O D, N = needS (addS sc s f g) (sc.1 4) → O = ancS (addS sc s f g) (sc.1 4) → D = depS (addS sc s f g) (sc.1 4) → RwS (addS sc s f g) (sc.1 4) w (sI (sI (sI (sI (sI (sI w 10 (sc.1 4) (nI s)) 11 (sc.1 4) (nI f)) 12 (sc.1 4) x2) 13 (sc.1 4) (nI N)) 14 (sc.1 4) (nI O)) 15 (sc.1 4) (nI D)) := by
    intro N O D hN hO hD
    refine ⟨base N O D, fun j => rfl, fun c u hu => ?_, ?_, ?_, ?_, ?_, ?_, ?_⟩
    · rw [gI_sI, if_neg (fun z => hu z.2), gI_sI, if_neg (fun z => hu z.2), gI_sI, if_neg (fun z => hu z.2), gI_sI, if_neg (fun z => hu z.2), gI_sI, if_neg (fun z => hu z.2), gI_sI, if_neg (fun z => hu z.2)]
    · rw [addS_0]; simp [gI_sI]
    · rw [addS_1]; simp [gI_sI]
    · rw [addS_0, addS_2, ← hx]; simp [gI_sI]
    · rw [← hN]; simp [gI_sI]
    · rw [← hO]; simp [gI_sI]
    · rw [← hD]; simp [gI_sI]
  have done : ∀ w1, RwS (addS sc s f g) (sc.1 4) w w1 → zE 47 [.ref 9, .int (nI s), .int (nI f), .int x2] w = zR 47 77 [.ref 9, .int (nI s), .int (nI f), .int x2, .int (nI (sc.1 4))] [] w1 → ∃ w', zE 47 [.ref 9, .int (nI s), .int (nI f), .int x2] w = some (none, w') ∧ ClS 9 (addS sc s f g) w' ∧ SmO (fun c => 9 ≤ c ∧ c < 18) w w' := by
    intro w1 h1 e1
    obtain ⟨k1, k2⟩ := add_fin hc h5 h1
    exact ⟨_, e1.trans (fin w1 h1), k1, k2⟩
  by_cases s0 : s = 0
  · rw [if_pos s0] at nd an dp
    refine done _ (rws 0 0 0 nd.symm an.symm dp.symm) ?_
    rw [s0, zE_W [77]]
    simp (disch := omega) only [tt_47, T_47, mx_47, Nat.reduceLT, Nat.reduceLeDiff, Nat.reduceEqDiff, Nat.reduceAdd, Nat.reduceMul, Nat.reduceSub, Nat.reducePow, Nat.reduceMod, Nat.reduceDiv, Nat.reduceBEq, ↓reduceIte, reduceCtorEq, and_true, true_and, and_false, false_and, and_self, zW_eq, zin, zop, zst, fw_ite, fw_K, fw_R, fw_F, fw_C, zBW_s, nth, stL, okL, nlg, ct, ctv, cI, cL, pu, tkC, iniL, pad, eL, Value.category, swK, bz_0, bz_n0, bz_n1, bI_bz, bI_0, bI_t, bI_f, List.headD_cons, decide_true, decide_false, Bool.true_and, Bool.and_true, Bool.false_and, Bool.and_false, Bool.and_self, Bool.not_true, Bool.not_false, Bool.or_false, Bool.false_or, Bool.true_or, Bool.or_true, Bool.or_self, Bool.false_eq_true, rf_45, rf_47, rf_49, rf_50, rf_51, rf_58, rf_63, rf_65, rf_267, rf45, rf50, rf58, rf63, rf267, ob_45, ob_49, ob_50, ob_58, ob_63, ob_267, ln_46, ln_46n, ln_46m, ln_47, ln_47n, ln_48, ln_48n, ln_51, ln_56, ln_57, ln_59, ln_60, ln_61, ln_62, ln_64, ln_64n, ln_65, ln_268, ln_269, ln_270, ln_270n, ln_271, ln_271n, ln_272, ln_272n, ln_272m, ln_273, ln_274, ln_275, ln_276, ln_277, ln_278, ln_278n, ln_279, ln_280, ln_281, ln_282, ln_283, ln_283n, ln_284, ln_285, ln_286, ln_286n, ln_287, ln_287n, ln_288, ln_289, ln_289n, gF_sF, gF_sG, gF_sI, gF_sJ, gF_sP, gF_sR, gF_sL, gG_sF, gG_sG, gG_sI, gG_sJ, gG_sP, gG_sR, gG_sL, gI_sF, gI_sG, gI_sI, gI_sJ, gI_sP, gI_sR, gI_sL, gJ_sF, gJ_sG, gJ_sI, gJ_sJ, gJ_sP, gJ_sR, gJ_sL, gP_sF, gP_sG, gP_sI, gP_sJ, gP_sP, gP_sR, gP_sL, inB_n, inC_n, iX_n, nI_add, pk_mul, pk_sub, n_and, n_or, n_xor, n_one, n_ush, n_shr, n_div, n_rem, n_ltm, m_ltn, m_ltm, n_eqm, m_eqn, m_eqm, n_lt, n_eq, n_eq0, n_addm, n_i2l, m_i2l, n_l2i, lN_add, lN_mul, lN_sub, l_div, l_rem, l_eq0, lc_lt, lc_gt, lc_eq, l_lt, l_eq, l_ltm, ml_ltn, ml_ltm, l_eqm, ml_eqn, ml_eqm, ls_1, ls_2, ls_3, ls_4, ls_5, ls_6, ls_7, ls_8, ls_10, ls_11, ls_12, ls_13, ls_14, ls_15, ls_16, ls_17, ob_0, ob_9, rf_0, rf_9, f4, h14]
  · rw [if_neg s0] at nd an dp
    have hf := a3 s0
    have rf := row f hf
    have df := dl f hf
    have c1 := t_comeOf9 (w := sI (sI (sI (sI (sI (sI w 10 (sc.1 4) (nI s)) 11 (sc.1 4) (nI f)) 12 (sc.1 4) x2) 13 (sc.1 4) (nI 0)) 14 (sc.1 4) (nI 0)) 15 (sc.1 4) (nI 0)) (v := sc.1 4) (o := f) (N := 0) (O := 0) (D := 0) (Oo := ancS sc f) (Do := depS sc f) h14 (by omega) (by simp [gI_sI]) (by simp [gI_sI]) (by simp [gI_sI]) (by rw [← rf.1]; simp [gI_sI, show ¬ f = sc.1 4 by omega]) (by rw [← rf.2.1]; simp [gI_sI, show ¬ f = sc.1 4 by omega]) (by omega) (by omega) (by omega)
    rw [if_pos (show 0 < depS sc f + 1 by omega), Nat.zero_or, Nat.zero_or] at c1
    have cw : ∀ N O D, sI (sI (sI (sI (sI (sI (sI (sI (sI w 10 (sc.1 4) (nI s)) 11 (sc.1 4) (nI f)) 12 (sc.1 4) x2) 13 (sc.1 4) (nI 0)) 14 (sc.1 4) (nI 0)) 15 (sc.1 4) (nI 0)) 13 (sc.1 4) (nI N)) 14 (sc.1 4) (nI O)) 15 (sc.1 4) (nI D) = sI (sI (sI (sI (sI (sI w 10 (sc.1 4) (nI s)) 11 (sc.1 4) (nI f)) 12 (sc.1 4) x2) 13 (sc.1 4) (nI N)) 14 (sc.1 4) (nI O)) 15 (sc.1 4) (nI D) := by
      intro N O D
      unfold sI
      simp only [Prod.mk.injEq, true_and, and_true]
      funext c u
      by_cases e : u = sc.1 4
      · by_cases h13 : c = 13
        · simp [e, h13]
        · by_cases h14 : c = 14
          · simp [e, h14]
          · by_cases h15 : c = 15
            · simp [e, h15]
            · simp [h13, h14, h15]
      · simp [e]
    rw [cw] at c1
    by_cases s5 : s = 5
    · rw [if_pos s5] at nd an dp
      refine done _ (rws _ _ _ nd.symm an.symm dp.symm) ?_
      subst s5
      rw [zE_W [77]]
      simp (disch := omega) only [tt_47, T_47, mx_47, Nat.reduceLT, Nat.reduceLeDiff, Nat.reduceEqDiff, Nat.reduceAdd, Nat.reduceMul, Nat.reduceSub, Nat.reducePow, Nat.reduceMod, Nat.reduceDiv, Nat.reduceBEq, ↓reduceIte, reduceCtorEq, and_true, true_and, and_false, false_and, and_self, zW_eq, zin, zop, zst, fw_ite, fw_K, fw_R, fw_F, fw_C, zBW_s, nth, stL, okL, nlg, ct, ctv, cI, cL, pu, tkC, iniL, pad, eL, Value.category, swK, bz_0, bz_n0, bz_n1, bI_bz, bI_0, bI_t, bI_f, List.headD_cons, decide_true, decide_false, Bool.true_and, Bool.and_true, Bool.false_and, Bool.and_false, Bool.and_self, Bool.not_true, Bool.not_false, Bool.or_false, Bool.false_or, Bool.true_or, Bool.or_true, Bool.or_self, Bool.false_eq_true, rf_45, rf_47, rf_49, rf_50, rf_51, rf_58, rf_63, rf_65, rf_267, rf45, rf50, rf58, rf63, rf267, ob_45, ob_49, ob_50, ob_58, ob_63, ob_267, ln_46, ln_46n, ln_46m, ln_47, ln_47n, ln_48, ln_48n, ln_51, ln_56, ln_57, ln_59, ln_60, ln_61, ln_62, ln_64, ln_64n, ln_65, ln_268, ln_269, ln_270, ln_270n, ln_271, ln_271n, ln_272, ln_272n, ln_272m, ln_273, ln_274, ln_275, ln_276, ln_277, ln_278, ln_278n, ln_279, ln_280, ln_281, ln_282, ln_283, ln_283n, ln_284, ln_285, ln_286, ln_286n, ln_287, ln_287n, ln_288, ln_289, ln_289n, gF_sF, gF_sG, gF_sI, gF_sJ, gF_sP, gF_sR, gF_sL, gG_sF, gG_sG, gG_sI, gG_sJ, gG_sP, gG_sR, gG_sL, gI_sF, gI_sG, gI_sI, gI_sJ, gI_sP, gI_sR, gI_sL, gJ_sF, gJ_sG, gJ_sI, gJ_sJ, gJ_sP, gJ_sR, gJ_sL, gP_sF, gP_sG, gP_sI, gP_sJ, gP_sP, gP_sR, gP_sL, inB_n, inC_n, iX_n, nI_add, pk_mul, pk_sub, n_and, n_or, n_xor, n_one, n_ush, n_shr, n_div, n_rem, n_ltm, m_ltn, m_ltm, n_eqm, m_eqn, m_eqm, n_lt, n_eq, n_eq0, n_addm, n_i2l, m_i2l, n_l2i, lN_add, lN_mul, lN_sub, l_div, l_rem, l_eq0, lc_lt, lc_gt, lc_eq, l_lt, l_eq, l_ltm, ml_ltn, ml_ltm, l_eqm, ml_eqn, ml_eqm, ls_1, ls_2, ls_3, ls_4, ls_5, ls_6, ls_7, ls_8, ls_10, ls_11, ls_12, ls_13, ls_14, ls_15, ls_16, ls_17, ob_0, ob_9, rf_0, rf_9, f4, h14, c1]
    · rw [if_neg s5] at nd an dp
      have hg := a4 s0 s5
      have rg := row g hg
      have dg := dl g hg
      have s31 : s < 2 ^ 31 := by omega
      have x2g : x2 = nI g := by rw [hx, if_neg s0]
      rw [x2g] at c1 cw
      have c2 := t_comeOf9 (w := sI (sI (sI (sI (sI (sI w 10 (sc.1 4) (nI s)) 11 (sc.1 4) (nI f)) 12 (sc.1 4) (nI g)) 13 (sc.1 4) (nI (2 ^ f))) 14 (sc.1 4) (nI (2 ^ f ||| ancS sc f))) 15 (sc.1 4) (nI (depS sc f + 1))) (v := sc.1 4) (o := g) (N := 2 ^ f) (O := 2 ^ f ||| ancS sc f) (D := depS sc f + 1) (Oo := ancS sc g) (Do := depS sc g) h14 (by omega) (by simp [gI_sI]) (by simp [gI_sI]) (by simp [gI_sI]) (by rw [← rg.1]; simp [gI_sI, show ¬ g = sc.1 4 by omega]) (by rw [← rg.2.1]; simp [gI_sI, show ¬ g = sc.1 4 by omega]) (by omega) (by omega) (by omega)
      have r2 := rws _ _ _ nd.symm an.symm dp.symm
      rw [x2g] at r2 done ⊢
      have cw2 : ∀ N O D N' O' D', sI (sI (sI (sI (sI (sI (sI (sI (sI w 10 (sc.1 4) (nI s)) 11 (sc.1 4) (nI f)) 12 (sc.1 4) (nI g)) 13 (sc.1 4) (nI N')) 14 (sc.1 4) (nI O')) 15 (sc.1 4) (nI D')) 13 (sc.1 4) (nI N)) 14 (sc.1 4) (nI O)) 15 (sc.1 4) (nI D) = sI (sI (sI (sI (sI (sI w 10 (sc.1 4) (nI s)) 11 (sc.1 4) (nI f)) 12 (sc.1 4) (nI g)) 13 (sc.1 4) (nI N)) 14 (sc.1 4) (nI O)) 15 (sc.1 4) (nI D) := by
        intro N O D N' O' D'
        unfold sI
        simp only [Prod.mk.injEq, true_and, and_true]
        funext c u
        by_cases e : u = sc.1 4
        · by_cases h13 : c = 13
          · simp [e, h13]
          · by_cases h14 : c = 14
            · simp [e, h14]
            · by_cases h15 : c = 15
              · simp [e, h15]
              · simp [h13, h14, h15]
        · simp [e]
      have em : (if depS sc f + 1 < depS sc g + 1 then depS sc g + 1 else depS sc f + 1) = max (depS sc f) (depS sc g) + 1 := by split <;> omega
      rw [cw2, em] at c2
      refine done _ r2 ?_
      rw [zE_W [77]]
      simp (disch := omega) only [tt_47, T_47, mx_47, Nat.reduceLT, Nat.reduceLeDiff, Nat.reduceEqDiff, Nat.reduceAdd, Nat.reduceMul, Nat.reduceSub, Nat.reducePow, Nat.reduceMod, Nat.reduceDiv, Nat.reduceBEq, ↓reduceIte, reduceCtorEq, and_true, true_and, and_false, false_and, and_self, zW_eq, zin, zop, zst, fw_ite, fw_K, fw_R, fw_F, fw_C, zBW_s, nth, stL, okL, nlg, ct, ctv, cI, cL, pu, tkC, iniL, pad, eL, Value.category, swK, bz_0, bz_n0, bz_n1, bI_bz, bI_0, bI_t, bI_f, List.headD_cons, decide_true, decide_false, Bool.true_and, Bool.and_true, Bool.false_and, Bool.and_false, Bool.and_self, Bool.not_true, Bool.not_false, Bool.or_false, Bool.false_or, Bool.true_or, Bool.or_true, Bool.or_self, Bool.false_eq_true, rf_45, rf_47, rf_49, rf_50, rf_51, rf_58, rf_63, rf_65, rf_267, rf45, rf50, rf58, rf63, rf267, ob_45, ob_49, ob_50, ob_58, ob_63, ob_267, ln_46, ln_46n, ln_46m, ln_47, ln_47n, ln_48, ln_48n, ln_51, ln_56, ln_57, ln_59, ln_60, ln_61, ln_62, ln_64, ln_64n, ln_65, ln_268, ln_269, ln_270, ln_270n, ln_271, ln_271n, ln_272, ln_272n, ln_272m, ln_273, ln_274, ln_275, ln_276, ln_277, ln_278, ln_278n, ln_279, ln_280, ln_281, ln_282, ln_283, ln_283n, ln_284, ln_285, ln_286, ln_286n, ln_287, ln_287n, ln_288, ln_289, ln_289n, gF_sF, gF_sG, gF_sI, gF_sJ, gF_sP, gF_sR, gF_sL, gG_sF, gG_sG, gG_sI, gG_sJ, gG_sP, gG_sR, gG_sL, gI_sF, gI_sG, gI_sI, gI_sJ, gI_sP, gI_sR, gI_sL, gJ_sF, gJ_sG, gJ_sI, gJ_sJ, gJ_sP, gJ_sR, gJ_sL, gP_sF, gP_sG, gP_sI, gP_sJ, gP_sP, gP_sR, gP_sL, inB_n, inC_n, iX_n, nI_add, pk_mul, pk_sub, n_and, n_or, n_xor, n_one, n_ush, n_shr, n_div, n_rem, n_ltm, m_ltn, m_ltm, n_eqm, m_eqn, m_eqm, n_lt, n_eq, n_eq0, n_addm, n_i2l, m_i2l, n_l2i, lN_add, lN_mul, lN_sub, l_div, l_rem, l_eq0, lc_lt, lc_gt, lc_eq, l_lt, l_eq, l_ltm, ml_ltn, ml_ltm, l_eqm, ml_eqn, ml_eqm, ls_1, ls_2, ls_3, ls_4, ls_5, ls_6, ls_7, ls_8, ls_10, ls_11, ls_12, ls_13, ls_14, ls_15, ls_16, ls_17, ob_0, ob_9, rf_0, rf_9, f4, h14, s0, s5, c1, c2]
