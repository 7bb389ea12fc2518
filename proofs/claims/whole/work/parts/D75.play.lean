/-! ===== plays in thought ===== -/
def plN (sc : Sg) (a : Nat) : Option Sg := if a < sc.1 4 then (if whyS sc a = nI 0 then some (mvS sc a).2 else none) else if 100 ≤ a ∧ a < 100 + sc.1 4 ∧ sc.2 0 (a - 100) = 5 ∧ (sc.1 5).testBit (a - 100) ≠ (sc.1 5).testBit (sc.2 1 (a - 100)) then some (swS sc (a - 100)) else none
def plS (sc : Sg) (v : Int64) : Option Sg := if v < lN 0 then none else plN sc v.toInt.toNat
theorem plS_n {sc : Sg} {a : Nat} (h : a < 2 ^ 63) : plS sc (lN a) = plN sc a := by
  unfold plS
  rw [if_neg (by rw [l_lt h (by decide)]; omega), l_toInt h]
  rfl
theorem plS_m {sc : Sg} {b : Nat} (h : b ≤ 2 ^ 63) (h0 : 0 < b) : plS sc (mL b) = none := by
  unfold plS
  rw [if_pos (by rw [ml_ltn (by decide) h h0]; trivial)]
theorem pl_Gd {sc sc1 : Sg} (g : Gd sc) {a : Nat} (h : plN sc a = some sc1) : Gd sc1 := by
  unfold plN at h
  split at h
  · split at h
    · cases h; exact g.mv (by assumption)
    · cases h
  · split at h
    · rename_i q
      cases h; exact g.sw (by omega) q.2.2.1 q.2.2.2
    · cases h
theorem pl_T {sc sc1 : Sg} {a : Nat} (h : plN sc a = some sc1) : sc1.1 0 = sc.1 0 ∧ sc1.1 4 = sc.1 4 ∧ sc1.2 0 = sc.2 0 ∧ sc1.2 1 = sc.2 1 ∧ sc1.2 2 = sc.2 2 := by
  unfold plN at h
  split at h
  · split at h
    · cases h; exact mv_T
    · cases h
  · split at h
    · cases h
      have := @sw_T sc (a - 100)
      exact ⟨this.1, this.2.1, this.2.2.1, this.2.2.2.1, this.2.2.2.2.1⟩
    · cases h
theorem why_neg {sc : Sg} {v : Nat} (h : ¬ whyS sc v = nI 0) : whyS sc v < nI 0 := by
  have e3 : mI 3 < nI 0 := by decide
  have e5 : mI 5 < nI 0 := by decide
  have e6 : mI 6 < nI 0 := by decide
  unfold whyS at h ⊢
  split
  · split
    · split
      · rename_i a b c; rw [if_pos a, if_pos b, if_pos c] at h; exact absurd rfl h
      · exact e6
    · split
      · rename_i a b c; rw [if_pos a, if_neg b, if_pos c] at h; exact absurd rfl h
      · exact e3
  · exact e5
set_option maxHeartbeats 4000000 in
theorem t_play {k : Nat} {sc : Sg} {w : Wd} (hc : ClS k sc w) (g : Gd sc) (v : Int64) : ∃ w', zE 60 [.ref k, .long v] w = some (some (.int (bI (plS sc v).isSome)), w') ∧ ClS k ((plS sc v).getD sc) w' ∧ SmO (fun c => c = k ∨ c = k + 8) w w' := by
  have hk := hc.1
  have h14 := g.1
  have h4 := hc.2.1 4 (by decide)
  rcases i64_cases v with ⟨a, ha, rfl⟩ | ⟨b, hb, hb2, rfl⟩
  · rw [plS_n ha]
    by_cases q : a < sc.1 4
    · have tm := t_makeMove hc g q
      rcases @why_mv sc a with ⟨y1, y2, y3, y4⟩ | ⟨y1, y2, y3, y4⟩
      · have e : plN sc a = some (mvS sc a).2 := by unfold plN; rw [if_pos q, if_pos y1]
        rw [e]
        refine ⟨wMv k sc a w, ?_, hc.mv, SmO.mv⟩
        have hn : ¬ (mvS sc a).1 < nI 0 := by
          rw [y3]
          cases ((mvS sc a).2.1 5).testBit a <;> decide
        have a31 : a < 2 ^ 31 := by omega
        rw [zE_W []]
        simp (disch := omega) only [tt_60, T_60, mx_60, Nat.reduceLT, Nat.reduceLeDiff, Nat.reduceEqDiff, Nat.reduceAdd, Nat.reduceMul, Nat.reduceSub, Nat.reducePow, Nat.reduceMod, Nat.reduceDiv, Nat.reduceBEq, ↓reduceIte, reduceCtorEq, and_true, true_and, and_false, false_and, and_self, zW_eq, zin, zop, zst, fw_ite, fw_K, fw_R, fw_F, fw_C, zBW_s, nth, stL, okL, nlg, ct, ctv, cI, cL, pu, tkC, iniL, pad, eL, Value.category, swK, bz_0, bz_n0, bz_n1, bI_bz, bI_0, bI_t, bI_f, List.headD_cons, decide_true, decide_false, Bool.true_and, Bool.and_true, Bool.false_and, Bool.and_false, Bool.and_self, Bool.not_true, Bool.not_false, Bool.or_false, Bool.false_or, Bool.true_or, Bool.or_true, Bool.or_self, Bool.false_eq_true, rf_45, rf_47, rf_49, rf_50, rf_51, rf_58, rf_63, rf_65, rf_267, rf45, rf50, rf58, rf63, rf267, ob_45, ob_49, ob_50, ob_58, ob_63, ob_267, ln_46, ln_46n, ln_46m, ln_47, ln_47n, ln_48, ln_48n, ln_51, ln_56, ln_57, ln_59, ln_60, ln_61, ln_62, ln_64, ln_64n, ln_65, ln_268, ln_269, ln_270, ln_270n, ln_271, ln_271n, ln_272, ln_272n, ln_272m, ln_273, ln_274, ln_275, ln_276, ln_277, ln_278, ln_278n, ln_279, ln_280, ln_281, ln_282, ln_283, ln_283n, ln_284, ln_285, ln_286, ln_286n, ln_287, ln_287n, ln_288, ln_289, ln_289n, gF_sF, gF_sG, gF_sI, gF_sJ, gF_sP, gF_sR, gF_sL, gG_sF, gG_sG, gG_sI, gG_sJ, gG_sP, gG_sR, gG_sL, gI_sF, gI_sG, gI_sI, gI_sJ, gI_sP, gI_sR, gI_sL, gJ_sF, gJ_sG, gJ_sI, gJ_sJ, gJ_sP, gJ_sR, gJ_sL, gP_sF, gP_sG, gP_sI, gP_sJ, gP_sP, gP_sR, gP_sL, inB_n, inC_n, iX_n, nI_add, pk_mul, pk_sub, n_and, n_or, n_xor, n_one, n_ush, n_shr, n_div, n_rem, n_ltm, m_ltn, m_ltm, n_eqm, m_eqn, m_eqm, n_lt, n_eq, n_eq0, n_addm, n_i2l, m_i2l, n_l2i, lN_add, lN_mul, lN_sub, l_div, l_rem, l_eq0, lc_lt, lc_gt, lc_eq, l_lt, l_eq, l_ltm, ml_ltn, ml_ltm, l_eqm, ml_eqn, ml_eqm, ls_1, ls_2, ls_3, ls_4, ls_5, ls_6, ls_7, ls_8, ls_10, ls_11, ls_12, ls_13, ls_14, ls_15, ls_16, ls_17, ob_0, ob_9, rf_0, rf_9, sc_ob hk, h4, q, Nat.not_lt_zero, tm, hn, Option.isSome]
      · have e : plN sc a = none := by unfold plN; rw [if_pos q, if_neg y1]
        rw [e]
        rw [y4 k w, ← y2] at tm
        have hn := why_neg y1
        refine ⟨w, ?_, hc, SmO.rf _ _⟩
        rw [zE_W []]
        simp (disch := omega) only [tt_60, T_60, mx_60, Nat.reduceLT, Nat.reduceLeDiff, Nat.reduceEqDiff, Nat.reduceAdd, Nat.reduceMul, Nat.reduceSub, Nat.reducePow, Nat.reduceMod, Nat.reduceDiv, Nat.reduceBEq, ↓reduceIte, reduceCtorEq, and_true, true_and, and_false, false_and, and_self, zW_eq, zin, zop, zst, fw_ite, fw_K, fw_R, fw_F, fw_C, zBW_s, nth, stL, okL, nlg, ct, ctv, cI, cL, pu, tkC, iniL, pad, eL, Value.category, swK, bz_0, bz_n0, bz_n1, bI_bz, bI_0, bI_t, bI_f, List.headD_cons, decide_true, decide_false, Bool.true_and, Bool.and_true, Bool.false_and, Bool.and_false, Bool.and_self, Bool.not_true, Bool.not_false, Bool.or_false, Bool.false_or, Bool.true_or, Bool.or_true, Bool.or_self, Bool.false_eq_true, rf_45, rf_47, rf_49, rf_50, rf_51, rf_58, rf_63, rf_65, rf_267, rf45, rf50, rf58, rf63, rf267, ob_45, ob_49, ob_50, ob_58, ob_63, ob_267, ln_46, ln_46n, ln_46m, ln_47, ln_47n, ln_48, ln_48n, ln_51, ln_56, ln_57, ln_59, ln_60, ln_61, ln_62, ln_64, ln_64n, ln_65, ln_268, ln_269, ln_270, ln_270n, ln_271, ln_271n, ln_272, ln_272n, ln_272m, ln_273, ln_274, ln_275, ln_276, ln_277, ln_278, ln_278n, ln_279, ln_280, ln_281, ln_282, ln_283, ln_283n, ln_284, ln_285, ln_286, ln_286n, ln_287, ln_287n, ln_288, ln_289, ln_289n, gF_sF, gF_sG, gF_sI, gF_sJ, gF_sP, gF_sR, gF_sL, gG_sF, gG_sG, gG_sI, gG_sJ, gG_sP, gG_sR, gG_sL, gI_sF, gI_sG, gI_sI, gI_sJ, gI_sP, gI_sR, gI_sL, gJ_sF, gJ_sG, gJ_sI, gJ_sJ, gJ_sP, gJ_sR, gJ_sL, gP_sF, gP_sG, gP_sI, gP_sJ, gP_sP, gP_sR, gP_sL, inB_n, inC_n, iX_n, nI_add, pk_mul, pk_sub, n_and, n_or, n_xor, n_one, n_ush, n_shr, n_div, n_rem, n_ltm, m_ltn, m_ltm, n_eqm, m_eqn, m_eqm, n_lt, n_eq, n_eq0, n_addm, n_i2l, m_i2l, n_l2i, lN_add, lN_mul, lN_sub, l_div, l_rem, l_eq0, lc_lt, lc_gt, lc_eq, l_lt, l_eq, l_ltm, ml_ltn, ml_ltm, l_eqm, ml_eqn, ml_eqm, ls_1, ls_2, ls_3, ls_4, ls_5, ls_6, ls_7, ls_8, ls_10, ls_11, ls_12, ls_13, ls_14, ls_15, ls_16, ls_17, ob_0, ob_9, rf_0, rf_9, sc_ob hk, h4, q, Nat.not_lt_zero, tm, hn, Option.isSome]
    · by_cases q1 : a < 100
      · have e : plN sc a = none := by unfold plN; rw [if_neg q, if_neg (by omega)]
        rw [e]
        refine ⟨w, ?_, hc, SmO.rf _ _⟩
        rw [zE_W []]
        simp (disch := omega) only [tt_60, T_60, mx_60, Nat.reduceLT, Nat.reduceLeDiff, Nat.reduceEqDiff, Nat.reduceAdd, Nat.reduceMul, Nat.reduceSub, Nat.reducePow, Nat.reduceMod, Nat.reduceDiv, Nat.reduceBEq, ↓reduceIte, reduceCtorEq, and_true, true_and, and_false, false_and, and_self, zW_eq, zin, zop, zst, fw_ite, fw_K, fw_R, fw_F, fw_C, zBW_s, nth, stL, okL, nlg, ct, ctv, cI, cL, pu, tkC, iniL, pad, eL, Value.category, swK, bz_0, bz_n0, bz_n1, bI_bz, bI_0, bI_t, bI_f, List.headD_cons, decide_true, decide_false, Bool.true_and, Bool.and_true, Bool.false_and, Bool.and_false, Bool.and_self, Bool.not_true, Bool.not_false, Bool.or_false, Bool.false_or, Bool.true_or, Bool.or_true, Bool.or_self, Bool.false_eq_true, rf_45, rf_47, rf_49, rf_50, rf_51, rf_58, rf_63, rf_65, rf_267, rf45, rf50, rf58, rf63, rf267, ob_45, ob_49, ob_50, ob_58, ob_63, ob_267, ln_46, ln_46n, ln_46m, ln_47, ln_47n, ln_48, ln_48n, ln_51, ln_56, ln_57, ln_59, ln_60, ln_61, ln_62, ln_64, ln_64n, ln_65, ln_268, ln_269, ln_270, ln_270n, ln_271, ln_271n, ln_272, ln_272n, ln_272m, ln_273, ln_274, ln_275, ln_276, ln_277, ln_278, ln_278n, ln_279, ln_280, ln_281, ln_282, ln_283, ln_283n, ln_284, ln_285, ln_286, ln_286n, ln_287, ln_287n, ln_288, ln_289, ln_289n, gF_sF, gF_sG, gF_sI, gF_sJ, gF_sP, gF_sR, gF_sL, gG_sF, gG_sG, gG_sI, gG_sJ, gG_sP, gG_sR, gG_sL, gI_sF, gI_sG, gI_sI, gI_sJ, gI_sP, gI_sR, gI_sL, gJ_sF, gJ_sG, gJ_sI, gJ_sJ, gJ_sP, gJ_sR, gJ_sL, gP_sF, gP_sG, gP_sI, gP_sJ, gP_sP, gP_sR, gP_sL, inB_n, inC_n, iX_n, nI_add, pk_mul, pk_sub, n_and, n_or, n_xor, n_one, n_ush, n_shr, n_div, n_rem, n_ltm, m_ltn, m_ltm, n_eqm, m_eqn, m_eqm, n_lt, n_eq, n_eq0, n_addm, n_i2l, m_i2l, n_l2i, lN_add, lN_mul, lN_sub, l_div, l_rem, l_eq0, lc_lt, lc_gt, lc_eq, l_lt, l_eq, l_ltm, ml_ltn, ml_ltm, l_eqm, ml_eqn, ml_eqm, ls_1, ls_2, ls_3, ls_4, ls_5, ls_6, ls_7, ls_8, ls_10, ls_11, ls_12, ls_13, ls_14, ls_15, ls_16, ls_17, ob_0, ob_9, rf_0, rf_9, sc_ob hk, h4, q, Nat.not_lt_zero, q1, Option.isSome]
      · by_cases q2 : a < 100 + sc.1 4
        · have hv : a - 100 < sc.1 4 := by omega
          have hv14 : a - 100 < 14 := by omega
          have hA := hc.2.2.1 (a - 100) hv
          have gv := g.2.2.2.2.2.2.1 _ hv
          have a100 : 100 ≤ a := by omega
          by_cases h5 : sc.2 0 (a - 100) = 5
          · have tm := t_makeSwap hc g hv h5
            have a5 : ¬ sc.2 0 (a - 100) ≠ 5 := fun z => z h5
            by_cases y : (sc.1 5).testBit (a - 100) = (sc.1 5).testBit (sc.2 1 (a - 100))
            · have e : plN sc a = none := by unfold plN; rw [if_neg q, if_neg (fun z => z.2.2.2 y)]
              rw [e]
              rw [if_pos y] at tm
              refine ⟨w, ?_, hc, SmO.rf _ _⟩
              rw [zE_W []]
              simp (disch := omega) only [tt_60, T_60, mx_60, Nat.reduceLT, Nat.reduceLeDiff, Nat.reduceEqDiff, Nat.reduceAdd, Nat.reduceMul, Nat.reduceSub, Nat.reducePow, Nat.reduceMod, Nat.reduceDiv, Nat.reduceBEq, ↓reduceIte, reduceCtorEq, and_true, true_and, and_false, false_and, and_self, zW_eq, zin, zop, zst, fw_ite, fw_K, fw_R, fw_F, fw_C, zBW_s, nth, stL, okL, nlg, ct, ctv, cI, cL, pu, tkC, iniL, pad, eL, Value.category, swK, bz_0, bz_n0, bz_n1, bI_bz, bI_0, bI_t, bI_f, List.headD_cons, decide_true, decide_false, Bool.true_and, Bool.and_true, Bool.false_and, Bool.and_false, Bool.and_self, Bool.not_true, Bool.not_false, Bool.or_false, Bool.false_or, Bool.true_or, Bool.or_true, Bool.or_self, Bool.false_eq_true, rf_45, rf_47, rf_49, rf_50, rf_51, rf_58, rf_63, rf_65, rf_267, rf45, rf50, rf58, rf63, rf267, ob_45, ob_49, ob_50, ob_58, ob_63, ob_267, ln_46, ln_46n, ln_46m, ln_47, ln_47n, ln_48, ln_48n, ln_51, ln_56, ln_57, ln_59, ln_60, ln_61, ln_62, ln_64, ln_64n, ln_65, ln_268, ln_269, ln_270, ln_270n, ln_271, ln_271n, ln_272, ln_272n, ln_272m, ln_273, ln_274, ln_275, ln_276, ln_277, ln_278, ln_278n, ln_279, ln_280, ln_281, ln_282, ln_283, ln_283n, ln_284, ln_285, ln_286, ln_286n, ln_287, ln_287n, ln_288, ln_289, ln_289n, gF_sF, gF_sG, gF_sI, gF_sJ, gF_sP, gF_sR, gF_sL, gG_sF, gG_sG, gG_sI, gG_sJ, gG_sP, gG_sR, gG_sL, gI_sF, gI_sG, gI_sI, gI_sJ, gI_sP, gI_sR, gI_sL, gJ_sF, gJ_sG, gJ_sI, gJ_sJ, gJ_sP, gJ_sR, gJ_sL, gP_sF, gP_sG, gP_sI, gP_sJ, gP_sP, gP_sR, gP_sL, inB_n, inC_n, iX_n, nI_add, pk_mul, pk_sub, n_and, n_or, n_xor, n_one, n_ush, n_shr, n_div, n_rem, n_ltm, m_ltn, m_ltm, n_eqm, m_eqn, m_eqm, n_lt, n_eq, n_eq0, n_addm, n_i2l, m_i2l, n_l2i, lN_add, lN_mul, lN_sub, l_div, l_rem, l_eq0, lc_lt, lc_gt, lc_eq, l_lt, l_eq, l_ltm, ml_ltn, ml_ltm, l_eqm, ml_eqn, ml_eqm, ls_1, ls_2, ls_3, ls_4, ls_5, ls_6, ls_7, ls_8, ls_10, ls_11, ls_12, ls_13, ls_14, ls_15, ls_16, ls_17, ob_0, ob_9, rf_0, rf_9, sc_ob hk, sc_rf hk, sc_ar hk, h4, q, Nat.not_lt_zero, q1, q2, hv14, hA, h5, tm, Option.isSome]
            · have e : plN sc a = some (swS sc (a - 100)) := by unfold plN; rw [if_neg q, if_pos ⟨a100, q2, h5, y⟩]
              rw [e]
              rw [if_neg y] at tm
              have hne : sc.2 1 (a - 100) ≠ a - 100 := by have := gv.2.2.1 (by omega); omega
              refine ⟨wSw k sc (a - 100) w, ?_, hc.sw hne y, SmO.sw⟩
              cases hb : (sc.1 5).testBit (sc.2 1 (a - 100)) with
              | true =>
                rw [hb] at tm
                rw [zE_W []]
                simp (disch := omega) only [tt_60, T_60, mx_60, Nat.reduceLT, Nat.reduceLeDiff, Nat.reduceEqDiff, Nat.reduceAdd, Nat.reduceMul, Nat.reduceSub, Nat.reducePow, Nat.reduceMod, Nat.reduceDiv, Nat.reduceBEq, ↓reduceIte, reduceCtorEq, and_true, true_and, and_false, false_and, and_self, zW_eq, zin, zop, zst, fw_ite, fw_K, fw_R, fw_F, fw_C, zBW_s, nth, stL, okL, nlg, ct, ctv, cI, cL, pu, tkC, iniL, pad, eL, Value.category, swK, bz_0, bz_n0, bz_n1, bI_bz, bI_0, bI_t, bI_f, List.headD_cons, decide_true, decide_false, Bool.true_and, Bool.and_true, Bool.false_and, Bool.and_false, Bool.and_self, Bool.not_true, Bool.not_false, Bool.or_false, Bool.false_or, Bool.true_or, Bool.or_true, Bool.or_self, Bool.false_eq_true, rf_45, rf_47, rf_49, rf_50, rf_51, rf_58, rf_63, rf_65, rf_267, rf45, rf50, rf58, rf63, rf267, ob_45, ob_49, ob_50, ob_58, ob_63, ob_267, ln_46, ln_46n, ln_46m, ln_47, ln_47n, ln_48, ln_48n, ln_51, ln_56, ln_57, ln_59, ln_60, ln_61, ln_62, ln_64, ln_64n, ln_65, ln_268, ln_269, ln_270, ln_270n, ln_271, ln_271n, ln_272, ln_272n, ln_272m, ln_273, ln_274, ln_275, ln_276, ln_277, ln_278, ln_278n, ln_279, ln_280, ln_281, ln_282, ln_283, ln_283n, ln_284, ln_285, ln_286, ln_286n, ln_287, ln_287n, ln_288, ln_289, ln_289n, gF_sF, gF_sG, gF_sI, gF_sJ, gF_sP, gF_sR, gF_sL, gG_sF, gG_sG, gG_sI, gG_sJ, gG_sP, gG_sR, gG_sL, gI_sF, gI_sG, gI_sI, gI_sJ, gI_sP, gI_sR, gI_sL, gJ_sF, gJ_sG, gJ_sI, gJ_sJ, gJ_sP, gJ_sR, gJ_sL, gP_sF, gP_sG, gP_sI, gP_sJ, gP_sP, gP_sR, gP_sL, inB_n, inC_n, iX_n, nI_add, pk_mul, pk_sub, n_and, n_or, n_xor, n_one, n_ush, n_shr, n_div, n_rem, n_ltm, m_ltn, m_ltm, n_eqm, m_eqn, m_eqm, n_lt, n_eq, n_eq0, n_addm, n_i2l, m_i2l, n_l2i, lN_add, lN_mul, lN_sub, l_div, l_rem, l_eq0, lc_lt, lc_gt, lc_eq, l_lt, l_eq, l_ltm, ml_ltn, ml_ltm, l_eqm, ml_eqn, ml_eqm, ls_1, ls_2, ls_3, ls_4, ls_5, ls_6, ls_7, ls_8, ls_10, ls_11, ls_12, ls_13, ls_14, ls_15, ls_16, ls_17, ob_0, ob_9, rf_0, rf_9, sc_ob hk, sc_rf hk, sc_ar hk, h4, q, Nat.not_lt_zero, q1, q2, hv14, hA, h5, tm, Option.isSome]
              | false =>
                rw [hb] at tm
                rw [zE_W []]
                simp (disch := omega) only [tt_60, T_60, mx_60, Nat.reduceLT, Nat.reduceLeDiff, Nat.reduceEqDiff, Nat.reduceAdd, Nat.reduceMul, Nat.reduceSub, Nat.reducePow, Nat.reduceMod, Nat.reduceDiv, Nat.reduceBEq, ↓reduceIte, reduceCtorEq, and_true, true_and, and_false, false_and, and_self, zW_eq, zin, zop, zst, fw_ite, fw_K, fw_R, fw_F, fw_C, zBW_s, nth, stL, okL, nlg, ct, ctv, cI, cL, pu, tkC, iniL, pad, eL, Value.category, swK, bz_0, bz_n0, bz_n1, bI_bz, bI_0, bI_t, bI_f, List.headD_cons, decide_true, decide_false, Bool.true_and, Bool.and_true, Bool.false_and, Bool.and_false, Bool.and_self, Bool.not_true, Bool.not_false, Bool.or_false, Bool.false_or, Bool.true_or, Bool.or_true, Bool.or_self, Bool.false_eq_true, rf_45, rf_47, rf_49, rf_50, rf_51, rf_58, rf_63, rf_65, rf_267, rf45, rf50, rf58, rf63, rf267, ob_45, ob_49, ob_50, ob_58, ob_63, ob_267, ln_46, ln_46n, ln_46m, ln_47, ln_47n, ln_48, ln_48n, ln_51, ln_56, ln_57, ln_59, ln_60, ln_61, ln_62, ln_64, ln_64n, ln_65, ln_268, ln_269, ln_270, ln_270n, ln_271, ln_271n, ln_272, ln_272n, ln_272m, ln_273, ln_274, ln_275, ln_276, ln_277, ln_278, ln_278n, ln_279, ln_280, ln_281, ln_282, ln_283, ln_283n, ln_284, ln_285, ln_286, ln_286n, ln_287, ln_287n, ln_288, ln_289, ln_289n, gF_sF, gF_sG, gF_sI, gF_sJ, gF_sP, gF_sR, gF_sL, gG_sF, gG_sG, gG_sI, gG_sJ, gG_sP, gG_sR, gG_sL, gI_sF, gI_sG, gI_sI, gI_sJ, gI_sP, gI_sR, gI_sL, gJ_sF, gJ_sG, gJ_sI, gJ_sJ, gJ_sP, gJ_sR, gJ_sL, gP_sF, gP_sG, gP_sI, gP_sJ, gP_sP, gP_sR, gP_sL, inB_n, inC_n, iX_n, nI_add, pk_mul, pk_sub, n_and, n_or, n_xor, n_one, n_ush, n_shr, n_div, n_rem, n_ltm, m_ltn, m_ltm, n_eqm, m_eqn, m_eqm, n_lt, n_eq, n_eq0, n_addm, n_i2l, m_i2l, n_l2i, lN_add, lN_mul, lN_sub, l_div, l_rem, l_eq0, lc_lt, lc_gt, lc_eq, l_lt, l_eq, l_ltm, ml_ltn, ml_ltm, l_eqm, ml_eqn, ml_eqm, ls_1, ls_2, ls_3, ls_4, ls_5, ls_6, ls_7, ls_8, ls_10, ls_11, ls_12, ls_13, ls_14, ls_15, ls_16, ls_17, ob_0, ob_9, rf_0, rf_9, sc_ob hk, sc_rf hk, sc_ar hk, h4, q, Nat.not_lt_zero, q1, q2, hv14, hA, h5, tm, Option.isSome]
          · have e : plN sc a = none := by unfold plN; rw [if_neg q, if_neg (fun z => h5 z.2.2.1)]
            have a1 := gv.1
            rw [e]
            refine ⟨w, ?_, hc, SmO.rf _ _⟩
            rw [zE_W []]
            simp (disch := omega) only [tt_60, T_60, mx_60, Nat.reduceLT, Nat.reduceLeDiff, Nat.reduceEqDiff, Nat.reduceAdd, Nat.reduceMul, Nat.reduceSub, Nat.reducePow, Nat.reduceMod, Nat.reduceDiv, Nat.reduceBEq, ↓reduceIte, reduceCtorEq, and_true, true_and, and_false, false_and, and_self, zW_eq, zin, zop, zst, fw_ite, fw_K, fw_R, fw_F, fw_C, zBW_s, nth, stL, okL, nlg, ct, ctv, cI, cL, pu, tkC, iniL, pad, eL, Value.category, swK, bz_0, bz_n0, bz_n1, bI_bz, bI_0, bI_t, bI_f, List.headD_cons, decide_true, decide_false, Bool.true_and, Bool.and_true, Bool.false_and, Bool.and_false, Bool.and_self, Bool.not_true, Bool.not_false, Bool.or_false, Bool.false_or, Bool.true_or, Bool.or_true, Bool.or_self, Bool.false_eq_true, rf_45, rf_47, rf_49, rf_50, rf_51, rf_58, rf_63, rf_65, rf_267, rf45, rf50, rf58, rf63, rf267, ob_45, ob_49, ob_50, ob_58, ob_63, ob_267, ln_46, ln_46n, ln_46m, ln_47, ln_47n, ln_48, ln_48n, ln_51, ln_56, ln_57, ln_59, ln_60, ln_61, ln_62, ln_64, ln_64n, ln_65, ln_268, ln_269, ln_270, ln_270n, ln_271, ln_271n, ln_272, ln_272n, ln_272m, ln_273, ln_274, ln_275, ln_276, ln_277, ln_278, ln_278n, ln_279, ln_280, ln_281, ln_282, ln_283, ln_283n, ln_284, ln_285, ln_286, ln_286n, ln_287, ln_287n, ln_288, ln_289, ln_289n, gF_sF, gF_sG, gF_sI, gF_sJ, gF_sP, gF_sR, gF_sL, gG_sF, gG_sG, gG_sI, gG_sJ, gG_sP, gG_sR, gG_sL, gI_sF, gI_sG, gI_sI, gI_sJ, gI_sP, gI_sR, gI_sL, gJ_sF, gJ_sG, gJ_sI, gJ_sJ, gJ_sP, gJ_sR, gJ_sL, gP_sF, gP_sG, gP_sI, gP_sJ, gP_sP, gP_sR, gP_sL, inB_n, inC_n, iX_n, nI_add, pk_mul, pk_sub, n_and, n_or, n_xor, n_one, n_ush, n_shr, n_div, n_rem, n_ltm, m_ltn, m_ltm, n_eqm, m_eqn, m_eqm, n_lt, n_eq, n_eq0, n_addm, n_i2l, m_i2l, n_l2i, lN_add, lN_mul, lN_sub, l_div, l_rem, l_eq0, lc_lt, lc_gt, lc_eq, l_lt, l_eq, l_ltm, ml_ltn, ml_ltm, l_eqm, ml_eqn, ml_eqm, ls_1, ls_2, ls_3, ls_4, ls_5, ls_6, ls_7, ls_8, ls_10, ls_11, ls_12, ls_13, ls_14, ls_15, ls_16, ls_17, ob_0, ob_9, rf_0, rf_9, sc_ob hk, sc_rf hk, sc_ar hk, h4, q, Nat.not_lt_zero, q1, q2, hv14, hA, h5, Option.isSome]
        · have e : plN sc a = none := by unfold plN; rw [if_neg q, if_neg (fun z => q2 z.2.1)]
          rw [e]
          refine ⟨w, ?_, hc, SmO.rf _ _⟩
          rw [zE_W []]
          simp (disch := omega) only [tt_60, T_60, mx_60, Nat.reduceLT, Nat.reduceLeDiff, Nat.reduceEqDiff, Nat.reduceAdd, Nat.reduceMul, Nat.reduceSub, Nat.reducePow, Nat.reduceMod, Nat.reduceDiv, Nat.reduceBEq, ↓reduceIte, reduceCtorEq, and_true, true_and, and_false, false_and, and_self, zW_eq, zin, zop, zst, fw_ite, fw_K, fw_R, fw_F, fw_C, zBW_s, nth, stL, okL, nlg, ct, ctv, cI, cL, pu, tkC, iniL, pad, eL, Value.category, swK, bz_0, bz_n0, bz_n1, bI_bz, bI_0, bI_t, bI_f, List.headD_cons, decide_true, decide_false, Bool.true_and, Bool.and_true, Bool.false_and, Bool.and_false, Bool.and_self, Bool.not_true, Bool.not_false, Bool.or_false, Bool.false_or, Bool.true_or, Bool.or_true, Bool.or_self, Bool.false_eq_true, rf_45, rf_47, rf_49, rf_50, rf_51, rf_58, rf_63, rf_65, rf_267, rf45, rf50, rf58, rf63, rf267, ob_45, ob_49, ob_50, ob_58, ob_63, ob_267, ln_46, ln_46n, ln_46m, ln_47, ln_47n, ln_48, ln_48n, ln_51, ln_56, ln_57, ln_59, ln_60, ln_61, ln_62, ln_64, ln_64n, ln_65, ln_268, ln_269, ln_270, ln_270n, ln_271, ln_271n, ln_272, ln_272n, ln_272m, ln_273, ln_274, ln_275, ln_276, ln_277, ln_278, ln_278n, ln_279, ln_280, ln_281, ln_282, ln_283, ln_283n, ln_284, ln_285, ln_286, ln_286n, ln_287, ln_287n, ln_288, ln_289, ln_289n, gF_sF, gF_sG, gF_sI, gF_sJ, gF_sP, gF_sR, gF_sL, gG_sF, gG_sG, gG_sI, gG_sJ, gG_sP, gG_sR, gG_sL, gI_sF, gI_sG, gI_sI, gI_sJ, gI_sP, gI_sR, gI_sL, gJ_sF, gJ_sG, gJ_sI, gJ_sJ, gJ_sP, gJ_sR, gJ_sL, gP_sF, gP_sG, gP_sI, gP_sJ, gP_sP, gP_sR, gP_sL, inB_n, inC_n, iX_n, nI_add, pk_mul, pk_sub, n_and, n_or, n_xor, n_one, n_ush, n_shr, n_div, n_rem, n_ltm, m_ltn, m_ltm, n_eqm, m_eqn, m_eqm, n_lt, n_eq, n_eq0, n_addm, n_i2l, m_i2l, n_l2i, lN_add, lN_mul, lN_sub, l_div, l_rem, l_eq0, lc_lt, lc_gt, lc_eq, l_lt, l_eq, l_ltm, ml_ltn, ml_ltm, l_eqm, ml_eqn, ml_eqm, ls_1, ls_2, ls_3, ls_4, ls_5, ls_6, ls_7, ls_8, ls_10, ls_11, ls_12, ls_13, ls_14, ls_15, ls_16, ls_17, ob_0, ob_9, rf_0, rf_9, sc_ob hk, h4, q, Nat.not_lt_zero, q1, q2, Option.isSome]
  · rw [plS_m hb2 hb]
    refine ⟨w, ?_, hc, SmO.rf _ _⟩
    rw [zE_W []]
    simp (disch := omega) only [tt_60, T_60, mx_60, Nat.reduceLT, Nat.reduceLeDiff, Nat.reduceEqDiff, Nat.reduceAdd, Nat.reduceMul, Nat.reduceSub, Nat.reducePow, Nat.reduceMod, Nat.reduceDiv, Nat.reduceBEq, ↓reduceIte, reduceCtorEq, and_true, true_and, and_false, false_and, and_self, zW_eq, zin, zop, zst, fw_ite, fw_K, fw_R, fw_F, fw_C, zBW_s, nth, stL, okL, nlg, ct, ctv, cI, cL, pu, tkC, iniL, pad, eL, Value.category, swK, bz_0, bz_n0, bz_n1, bI_bz, bI_0, bI_t, bI_f, List.headD_cons, decide_true, decide_false, Bool.true_and, Bool.and_true, Bool.false_and, Bool.and_false, Bool.and_self, Bool.not_true, Bool.not_false, Bool.or_false, Bool.false_or, Bool.true_or, Bool.or_true, Bool.or_self, Bool.false_eq_true, rf_45, rf_47, rf_49, rf_50, rf_51, rf_58, rf_63, rf_65, rf_267, rf45, rf50, rf58, rf63, rf267, ob_45, ob_49, ob_50, ob_58, ob_63, ob_267, ln_46, ln_46n, ln_46m, ln_47, ln_47n, ln_48, ln_48n, ln_51, ln_56, ln_57, ln_59, ln_60, ln_61, ln_62, ln_64, ln_64n, ln_65, ln_268, ln_269, ln_270, ln_270n, ln_271, ln_271n, ln_272, ln_272n, ln_272m, ln_273, ln_274, ln_275, ln_276, ln_277, ln_278, ln_278n, ln_279, ln_280, ln_281, ln_282, ln_283, ln_283n, ln_284, ln_285, ln_286, ln_286n, ln_287, ln_287n, ln_288, ln_289, ln_289n, gF_sF, gF_sG, gF_sI, gF_sJ, gF_sP, gF_sR, gF_sL, gG_sF, gG_sG, gG_sI, gG_sJ, gG_sP, gG_sR, gG_sL, gI_sF, gI_sG, gI_sI, gI_sJ, gI_sP, gI_sR, gI_sL, gJ_sF, gJ_sG, gJ_sI, gJ_sJ, gJ_sP, gJ_sR, gJ_sL, gP_sF, gP_sG, gP_sI, gP_sJ, gP_sP, gP_sR, gP_sL, inB_n, inC_n, iX_n, nI_add, pk_mul, pk_sub, n_and, n_or, n_xor, n_one, n_ush, n_shr, n_div, n_rem, n_ltm, m_ltn, m_ltm, n_eqm, m_eqn, m_eqm, n_lt, n_eq, n_eq0, n_addm, n_i2l, m_i2l, n_l2i, lN_add, lN_mul, lN_sub, l_div, l_rem, l_eq0, lc_lt, lc_gt, lc_eq, l_lt, l_eq, l_ltm, ml_ltn, ml_ltm, l_eqm, ml_eqn, ml_eqm, ls_1, ls_2, ls_3, ls_4, ls_5, ls_6, ls_7, ls_8, ls_10, ls_11, ls_12, ls_13, ls_14, ls_15, ls_16, ls_17, ob_0, ob_9, rf_0, rf_9, sc_ob hk, Option.isSome]
/-- the reference's places below 5 are kept -/
def F5 (w w' : Wd) : Prop := SmO (fun c => 273 ≤ c ∧ c ≤ 277) w w' ∧ (∀ i, i < 5 → gI w' 273 i = gI w 273 i ∧ gI w' 274 i = gI w 274 i) ∧ (∀ i, i < 20 → gI w' 275 i = gI w 275 i) ∧ (∀ i, i < 210 → gI w' 276 i = gI w 276 i) ∧ (∀ i, i < 70 → gI w' 277 i = gI w 277 i)
theorem F5.rf (w : Wd) : F5 w w := ⟨SmO.rf _ _, fun _ _ => ⟨rfl, rfl⟩, fun _ _ => rfl, fun _ _ => rfl, fun _ _ => rfl⟩
theorem F5.tr {w w1 w2 : Wd} (h : F5 w w1) (k : F5 w1 w2) : F5 w w2 := ⟨h.1.tr k.1, fun i hi => ⟨((k.2.1 i hi).1).trans (h.2.1 i hi).1, ((k.2.1 i hi).2).trans (h.2.1 i hi).2⟩, fun i hi => (k.2.2.1 i hi).trans (h.2.2.1 i hi), fun i hi => (k.2.2.2.1 i hi).trans (h.2.2.2.1 i hi), fun i hi => (k.2.2.2.2 i hi).trans (h.2.2.2.2 i hi)⟩
theorem F5.mk {w w' : Wd} (h : F5 w w') : MoKeep w w' := by
  obtain ⟨s, a, b, c, d⟩ := h
  have q : ∀ c, c < 273 ∨ 277 < c → ¬ (273 ≤ c ∧ c ≤ 277) := by intro c h; omega
  have eF := (s.1 267 (q _ (by omega))).1
  exact ⟨⟨eF 6, eF 14, eF 15, eF 28⟩, fun i => ⟨(s.1 272 (q _ (by omega))).2.2.1 i, (s.1 268 (q _ (by omega))).2.2.1 i, (s.1 269 (q _ (by omega))).2.2.1 i, (s.1 278 (q _ (by omega))).2.2.1 i, (s.1 270 (q _ (by omega))).2.2.2 i⟩, fun i hi => a i (by omega), fun i hi => c i (by omega), fun i h1 h2 => b i (by omega), fun i h1 h2 => d i (by omega)⟩
theorem F5.mt {sc : Sg} (g : Gd sc) {w w' : Wd} (h : F5 w w') (k : MoT sc w) : MoT sc w' := by
  have h14 := g.1
  obtain ⟨s, a, b, c, d⟩ := h
  refine ⟨by rw [(a 0 (by decide)).1]; exact k.1, by rw [(a 0 (by decide)).2]; exact k.2.1, fun v hv => ?_⟩
  rw [c _ (by omega), c _ (by omega), c _ (by omega)]
  exact k.2.2 v hv
theorem F5.mb {sc : Sg} (g : Gd sc) {w w' : Wd} (h : F5 w w') (k : MoB 0 sc w) : MoB 0 sc w' := by
  have h14 := g.1
  exact k.fr (fun j hj => h.2.2.1 _ (by omega)) (fun v hv => h.2.2.2.2 _ (by omega))
theorem MoA.f5 {A : Ab} {w w' : Wd} (h : MoA A w) (gA : GdA A) (f : F5 w w') : MoA A w' := keep0 h gA f.mk (f.mt gA.2.2.1 h.2.2.1.1) (f.mb gA.2.2.1 h.2.2.1.2)
theorem MoT.sam {sc sc1 : Sg} {w : Wd} (h : MoT sc w) (e : sc1.1 0 = sc.1 0 ∧ sc1.1 4 = sc.1 4 ∧ sc1.2 0 = sc.2 0 ∧ sc1.2 1 = sc.2 1 ∧ sc1.2 2 = sc.2 2) : MoT sc1 w := h.to e.1 e.2.1 e.2.2.1 e.2.2.2.1 e.2.2.2.2 (fun _ => rfl) (fun _ => rfl) (fun _ => rfl)
theorem F5.mv {sc : Sg} {v : Nat} {w : Wd} (hv : v < 14) : F5 w (mMv 5 sc v w) := by
  have k1 : ∀ w x, F5 w (sI w 275 (4 * 5 + 3) x) := fun w x => ⟨SmO.sI (by decide), fun i _ => ⟨rfl, rfl⟩, fun i hi => by rw [gI_sI, if_neg (by omega)], fun i _ => rfl, fun i _ => rfl⟩
  have k2 : ∀ w u x, F5 w (sI w 277 (14 * 5 + u) x) := fun w u x => ⟨SmO.sI (by decide), fun i _ => ⟨rfl, rfl⟩, fun i hi => rfl, fun i _ => rfl, fun i hi => by rw [gI_sI, if_neg (by omega)]⟩
  unfold mMv
  split
  · exact k1 _ _
  · exact (k2 _ _ _).tr (k1 _ _)
theorem F5.sw {sc : Sg} {v : Nat} {w : Wd} : F5 w (mSw 5 sc v w) := by
  have k1 : ∀ w x, F5 w (sI w 275 (4 * 5 + 3) x) := fun w x => ⟨SmO.sI (by decide), fun i _ => ⟨rfl, rfl⟩, fun i hi => by rw [gI_sI, if_neg (by omega)], fun i _ => rfl, fun i _ => rfl⟩
  have k2 : ∀ w u x, F5 w (sI w 277 (14 * 5 + u) x) := fun w u x => ⟨SmO.sI (by decide), fun i _ => ⟨rfl, rfl⟩, fun i hi => rfl, fun i _ => rfl, fun i hi => by rw [gI_sI, if_neg (by omega)]⟩
  unfold mSw
  split
  · exact (k2 _ _ _).tr (k1 _ _)
  · exact (k2 _ _ _).tr (k1 _ _)
