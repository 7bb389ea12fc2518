/-! ===== the reference's next token: letters, digits ===== -/
theorem sG_sG (w : Wd) (k j : Nat) (x y : Int64) : sG (sG w k j x) k j y = sG w k j y := by
  unfold sG
  simp only [Prod.mk.injEq, true_and, and_true]
  funext a b
  by_cases e : a = k ∧ b = j
  · simp [e]
  · simp [e]
theorem wdL_0 (T : Nat → Int32) (a : Nat) : wdL T a 0 = lN 0 := rfl
theorem ltV_n {y : Nat} (h : y < 2 ^ 31) : ltV (nI y) = y - 96 := by
  unfold ltV
  rw [nI_toInt h, Int.toNat_natCast]
set_option maxRecDepth 4096 in
set_option maxHeartbeats 4000000 in
theorem n_letters {T : Nat → Int32} {n a : Nat} {w : Wd} (h : RmT T n w) : ∀ f i W, a + i + f = n → (∀ j, j < i → kdO (T (a + j)) = 1) → gF W 267 7 = nI (a + i) → gG W 267 11 = wdL T a i → SfN w W → ∃ W', zR 180 102 [.ref 267, .int (nI i)] [] W = some (none, W') ∧ gF W' 267 7 = nI (scn (runP T 1) f (a + i)) ∧ gG W' 267 11 = wdL T a (scn (runP T 1) f (a + i) - a) ∧ gF W' 267 8 = gF W 267 8 ∧ gF W' 267 9 = gF W 267 9 ∧ SfN w W' := by
  have n16 := h.1
  intro f
  induction f with
  | zero =>
    intro i W hi hk h7 h11 fW
    have hW := h.fr fW
    have b1 := hW.by (i := a + i) (by omega) (nI 97) (nI 122) (byB_o (by omega) _ _)
    refine ⟨W, ?_, h7, ?_, rfl, rfl, fW⟩
    · rw [zR_W [102]]
      simp (disch := omega) only [tt_180, T_180, mx_180, Nat.reduceLT, Nat.reduceLeDiff, Nat.reduceEqDiff, Nat.reduceAdd, Nat.reduceMul, Nat.reduceSub, Nat.reducePow, Nat.reduceMod, Nat.reduceDiv, Nat.reduceBEq, ↓reduceIte, reduceCtorEq, and_true, true_and, and_false, false_and, and_self, zW_eq, zin, zop, zst, fw_ite, fw_K, fw_R, fw_F, fw_C, zBW_s, nth, stL, okL, nlg, ct, ctv, cI, cL, pu, tkC, iniL, pad, eL, Value.category, swK, bz_0, bz_n0, bz_n1, bI_bz, bI_0, bI_t, bI_f, List.headD_cons, decide_true, decide_false, Bool.true_and, Bool.and_true, Bool.false_and, Bool.and_false, Bool.and_self, Bool.not_true, Bool.not_false, Bool.or_false, Bool.false_or, Bool.true_or, Bool.or_true, Bool.or_self, Bool.false_eq_true, rf_45, rf_47, rf_49, rf_50, rf_51, rf_58, rf_63, rf_65, rf_267, rf45, rf50, rf58, rf63, rf267, ob_45, ob_49, ob_50, ob_58, ob_63, ob_267, ln_46, ln_46n, ln_46m, ln_47, ln_47n, ln_48, ln_48n, ln_51, ln_56, ln_57, ln_59, ln_60, ln_61, ln_62, ln_64, ln_64n, ln_65, ln_268, ln_269, ln_270, ln_270n, ln_271, ln_271n, ln_272, ln_272n, ln_272m, ln_273, ln_274, ln_275, ln_276, ln_277, ln_278, ln_278n, ln_279, ln_280, ln_281, ln_282, ln_283, ln_283n, ln_284, ln_285, ln_286, ln_286n, ln_287, ln_287n, ln_288, ln_289, ln_289n, gF_sF, gF_sG, gF_sI, gF_sJ, gF_sP, gF_sR, gF_sL, gG_sF, gG_sG, gG_sI, gG_sJ, gG_sP, gG_sR, gG_sL, gI_sF, gI_sG, gI_sI, gI_sJ, gI_sP, gI_sR, gI_sL, gJ_sF, gJ_sG, gJ_sI, gJ_sJ, gJ_sP, gJ_sR, gJ_sL, gP_sF, gP_sG, gP_sI, gP_sJ, gP_sP, gP_sR, gP_sL, inB_n, inC_n, iX_n, nI_add, pk_mul, pk_sub, n_and, n_or, n_xor, n_one, n_ush, n_shr, n_div, n_rem, n_ltm, m_ltn, m_ltm, n_eqm, m_eqn, m_eqm, n_lt, n_eq, n_eq0, n_addm, n_i2l, m_i2l, n_l2i, lN_add, lN_mul, lN_sub, l_div, l_rem, l_eq0, lc_lt, lc_gt, lc_eq, l_lt, l_eq, l_ltm, ml_ltn, ml_ltm, l_eqm, ml_eqn, ml_eqm, ls_1, ls_2, ls_3, ls_4, ls_5, ls_6, ls_7, ls_8, ls_10, ls_11, ls_12, ls_13, ls_14, ls_15, ls_16, ls_17, ob_0, ob_9, rf_0, rf_9, h7, b1]
    · show gG W 267 11 = wdL T a (a + i - a)
      rw [Nat.add_sub_cancel_left]
      exact h11
  | succ f ih =>
    intro i W hi hk h7 h11 fW
    have hlt : a + i < n := by omega
    have a16 : a + i < 1600 := by omega
    have hW := h.fr fW
    have rt := hW.2.2 (a + i) hlt
    have b1 := hW.by (i := a + i) (by omega) (nI 97) (nI 122) (byB_l hlt)
    rw [scn_s]
    cases hr : runP T 1 (a + i) with
    | false =>
      rw [hr] at b1
      rw [if_neg (by decide)]
      refine ⟨W, ?_, h7, ?_, rfl, rfl, fW⟩
      · rw [zR_W [102]]
        simp (disch := omega) only [tt_180, T_180, mx_180, Nat.reduceLT, Nat.reduceLeDiff, Nat.reduceEqDiff, Nat.reduceAdd, Nat.reduceMul, Nat.reduceSub, Nat.reducePow, Nat.reduceMod, Nat.reduceDiv, Nat.reduceBEq, ↓reduceIte, reduceCtorEq, and_true, true_and, and_false, false_and, and_self, zW_eq, zin, zop, zst, fw_ite, fw_K, fw_R, fw_F, fw_C, zBW_s, nth, stL, okL, nlg, ct, ctv, cI, cL, pu, tkC, iniL, pad, eL, Value.category, swK, bz_0, bz_n0, bz_n1, bI_bz, bI_0, bI_t, bI_f, List.headD_cons, decide_true, decide_false, Bool.true_and, Bool.and_true, Bool.false_and, Bool.and_false, Bool.and_self, Bool.not_true, Bool.not_false, Bool.or_false, Bool.false_or, Bool.true_or, Bool.or_true, Bool.or_self, Bool.false_eq_true, rf_45, rf_47, rf_49, rf_50, rf_51, rf_58, rf_63, rf_65, rf_267, rf45, rf50, rf58, rf63, rf267, ob_45, ob_49, ob_50, ob_58, ob_63, ob_267, ln_46, ln_46n, ln_46m, ln_47, ln_47n, ln_48, ln_48n, ln_51, ln_56, ln_57, ln_59, ln_60, ln_61, ln_62, ln_64, ln_64n, ln_65, ln_268, ln_269, ln_270, ln_270n, ln_271, ln_271n, ln_272, ln_272n, ln_272m, ln_273, ln_274, ln_275, ln_276, ln_277, ln_278, ln_278n, ln_279, ln_280, ln_281, ln_282, ln_283, ln_283n, ln_284, ln_285, ln_286, ln_286n, ln_287, ln_287n, ln_288, ln_289, ln_289n, gF_sF, gF_sG, gF_sI, gF_sJ, gF_sP, gF_sR, gF_sL, gG_sF, gG_sG, gG_sI, gG_sJ, gG_sP, gG_sR, gG_sL, gI_sF, gI_sG, gI_sI, gI_sJ, gI_sP, gI_sR, gI_sL, gJ_sF, gJ_sG, gJ_sI, gJ_sJ, gJ_sP, gJ_sR, gJ_sL, gP_sF, gP_sG, gP_sI, gP_sJ, gP_sP, gP_sR, gP_sL, inB_n, inC_n, iX_n, nI_add, pk_mul, pk_sub, n_and, n_or, n_xor, n_one, n_ush, n_shr, n_div, n_rem, n_ltm, m_ltn, m_ltm, n_eqm, m_eqn, m_eqm, n_lt, n_eq, n_eq0, n_addm, n_i2l, m_i2l, n_l2i, lN_add, lN_mul, lN_sub, l_div, l_rem, l_eq0, lc_lt, lc_gt, lc_eq, l_lt, l_eq, l_ltm, ml_ltn, ml_ltm, l_eqm, ml_eqn, ml_eqm, ls_1, ls_2, ls_3, ls_4, ls_5, ls_6, ls_7, ls_8, ls_10, ls_11, ls_12, ls_13, ls_14, ls_15, ls_16, ls_17, ob_0, ob_9, rf_0, rf_9, h7, b1]
      · rw [Nat.add_sub_cancel_left]
        exact h11
    | true =>
      rw [hr] at b1
      rw [if_pos rfl]
      have k1 : kdO (T (a + i)) = 1 := of_decide_eq_true hr
      obtain ⟨y, hy, y1, y2⟩ := kd_1 k1
      rw [hy] at rt
      have hk2 : ∀ j, j < i + 1 → kdO (T (a + j)) = 1 := fun j hj => by
        by_cases z : j = i
        · rw [z]; exact k1
        · exact hk j (by omega)
      have fin : ∀ x, x = wdL T a (i + 1) → ∃ W', zR 180 102 [.ref 267, .int (nI (i + 1))] [] (sF (sG W 267 11 x) 267 7 (nI (a + i + 1))) = some (none, W') ∧ gF W' 267 7 = nI (scn (runP T 1) f (a + i + 1)) ∧ gG W' 267 11 = wdL T a (scn (runP T 1) f (a + i + 1) - a) ∧ gF W' 267 8 = gF W 267 8 ∧ gF W' 267 9 = gF W 267 9 ∧ SfN w W' := by
        intro x hx
        obtain ⟨W', e1, e2, e3, e4, e5, e6⟩ := ih (i + 1) (sF (sG W 267 11 x) 267 7 (nI (a + i + 1))) (by omega) hk2 (by rw [gF_sF, if_pos ⟨rfl, rfl⟩]; rfl) (by rw [← hx]; exact gG_sG W 267 11 x 267 11) ((fW.tr (SfN.sG _ _)).tr (SfN.sF _ _ _ (by decide)))
        exact ⟨W', e1, e2, e3, e4, e5, e6⟩
      by_cases z : i ≤ 11
      · have z1 : ¬ 11 < i := by omega
        have hw : wdL T a i = lN (pkN (fun j => ltV (T (a + j))) i) := if_pos (by omega)
        have hw1 : wdL T a (i + 1) = lN (27 * pkN (fun j => ltV (T (a + j))) i + (y - 96)) := by
          unfold wdL
          rw [if_pos (by omega), pkN_s, hy, ltV_n (by omega)]
        have pb : pkN (fun j => ltV (T (a + j))) i < 27 ^ i := pkN_lt i (fun j hj => by
          obtain ⟨y', hy', y1', y2'⟩ := kd_1 (hk j hj)
          rw [hy', ltV_n (by omega)]
          omega)
        have pb2 : 27 ^ i ≤ 27 ^ 11 := Nat.pow_le_pow_right (by decide) z
        have pb3 : (27 : Nat) ^ 11 < 2 ^ 53 := by decide
        rw [hw] at h11
        obtain ⟨W', e1, e2⟩ := fin _ hw1.symm
        generalize pkN (fun j => ltV (T (a + j))) i = u at *
        have ev : 27 * u + y - 96 = 27 * u + (y - 96) := by omega
        refine ⟨W', ?_, e2⟩
        rw [zR_W [102]]
        simp (disch := omega) only [tt_180, T_180, mx_180, Nat.reduceLT, Nat.reduceLeDiff, Nat.reduceEqDiff, Nat.reduceAdd, Nat.reduceMul, Nat.reduceSub, Nat.reducePow, Nat.reduceMod, Nat.reduceDiv, Nat.reduceBEq, ↓reduceIte, reduceCtorEq, and_true, true_and, and_false, false_and, and_self, zW_eq, zin, zop, zst, fw_ite, fw_K, fw_R, fw_F, fw_C, zBW_s, nth, stL, okL, nlg, ct, ctv, cI, cL, pu, tkC, iniL, pad, eL, Value.category, swK, bz_0, bz_n0, bz_n1, bI_bz, bI_0, bI_t, bI_f, List.headD_cons, decide_true, decide_false, Bool.true_and, Bool.and_true, Bool.false_and, Bool.and_false, Bool.and_self, Bool.not_true, Bool.not_false, Bool.or_false, Bool.false_or, Bool.true_or, Bool.or_true, Bool.or_self, Bool.false_eq_true, rf_45, rf_47, rf_49, rf_50, rf_51, rf_58, rf_63, rf_65, rf_267, rf45, rf50, rf58, rf63, rf267, ob_45, ob_49, ob_50, ob_58, ob_63, ob_267, ln_46, ln_46n, ln_46m, ln_47, ln_47n, ln_48, ln_48n, ln_51, ln_56, ln_57, ln_59, ln_60, ln_61, ln_62, ln_64, ln_64n, ln_65, ln_268, ln_269, ln_270, ln_270n, ln_271, ln_271n, ln_272, ln_272n, ln_272m, ln_273, ln_274, ln_275, ln_276, ln_277, ln_278, ln_278n, ln_279, ln_280, ln_281, ln_282, ln_283, ln_283n, ln_284, ln_285, ln_286, ln_286n, ln_287, ln_287n, ln_288, ln_289, ln_289n, gF_sF, gF_sG, gF_sI, gF_sJ, gF_sP, gF_sR, gF_sL, gG_sF, gG_sG, gG_sI, gG_sJ, gG_sP, gG_sR, gG_sL, gI_sF, gI_sG, gI_sI, gI_sJ, gI_sP, gI_sR, gI_sL, gJ_sF, gJ_sG, gJ_sI, gJ_sJ, gJ_sP, gJ_sR, gJ_sL, gP_sF, gP_sG, gP_sI, gP_sJ, gP_sP, gP_sR, gP_sL, inB_n, inC_n, iX_n, nI_add, pk_mul, pk_sub, n_and, n_or, n_xor, n_one, n_ush, n_shr, n_div, n_rem, n_ltm, m_ltn, m_ltm, n_eqm, m_eqn, m_eqm, n_lt, n_eq, n_eq0, n_addm, n_i2l, m_i2l, n_l2i, lN_add, lN_mul, lN_sub, l_div, l_rem, l_eq0, lc_lt, lc_gt, lc_eq, l_lt, l_eq, l_ltm, ml_ltn, ml_ltm, l_eqm, ml_eqn, ml_eqm, ls_1, ls_2, ls_3, ls_4, ls_5, ls_6, ls_7, ls_8, ls_10, ls_11, ls_12, ls_13, ls_14, ls_15, ls_16, ls_17, ob_0, ob_9, rf_0, rf_9, h7, b1, z1, h11, rt, a16, ev, e1]
      · have z1 : 11 < i := by omega
        have hw1 : wdL T a (i + 1) = mL 1 := if_neg (by omega)
        obtain ⟨W', e1, e2⟩ := fin _ hw1.symm
        refine ⟨W', ?_, e2⟩
        rw [zR_W [102]]
        simp (disch := omega) only [tt_180, T_180, mx_180, Nat.reduceLT, Nat.reduceLeDiff, Nat.reduceEqDiff, Nat.reduceAdd, Nat.reduceMul, Nat.reduceSub, Nat.reducePow, Nat.reduceMod, Nat.reduceDiv, Nat.reduceBEq, ↓reduceIte, reduceCtorEq, and_true, true_and, and_false, false_and, and_self, zW_eq, zin, zop, zst, fw_ite, fw_K, fw_R, fw_F, fw_C, zBW_s, nth, stL, okL, nlg, ct, ctv, cI, cL, pu, tkC, iniL, pad, eL, Value.category, swK, bz_0, bz_n0, bz_n1, bI_bz, bI_0, bI_t, bI_f, List.headD_cons, decide_true, decide_false, Bool.true_and, Bool.and_true, Bool.false_and, Bool.and_false, Bool.and_self, Bool.not_true, Bool.not_false, Bool.or_false, Bool.false_or, Bool.true_or, Bool.or_true, Bool.or_self, Bool.false_eq_true, rf_45, rf_47, rf_49, rf_50, rf_51, rf_58, rf_63, rf_65, rf_267, rf45, rf50, rf58, rf63, rf267, ob_45, ob_49, ob_50, ob_58, ob_63, ob_267, ln_46, ln_46n, ln_46m, ln_47, ln_47n, ln_48, ln_48n, ln_51, ln_56, ln_57, ln_59, ln_60, ln_61, ln_62, ln_64, ln_64n, ln_65, ln_268, ln_269, ln_270, ln_270n, ln_271, ln_271n, ln_272, ln_272n, ln_272m, ln_273, ln_274, ln_275, ln_276, ln_277, ln_278, ln_278n, ln_279, ln_280, ln_281, ln_282, ln_283, ln_283n, ln_284, ln_285, ln_286, ln_286n, ln_287, ln_287n, ln_288, ln_289, ln_289n, gF_sF, gF_sG, gF_sI, gF_sJ, gF_sP, gF_sR, gF_sL, gG_sF, gG_sG, gG_sI, gG_sJ, gG_sP, gG_sR, gG_sL, gI_sF, gI_sG, gI_sI, gI_sJ, gI_sP, gI_sR, gI_sL, gJ_sF, gJ_sG, gJ_sI, gJ_sJ, gJ_sP, gJ_sR, gJ_sL, gP_sF, gP_sG, gP_sI, gP_sJ, gP_sP, gP_sR, gP_sL, inB_n, inC_n, iX_n, nI_add, pk_mul, pk_sub, n_and, n_or, n_xor, n_one, n_ush, n_shr, n_div, n_rem, n_ltm, m_ltn, m_ltm, n_eqm, m_eqn, m_eqm, n_lt, n_eq, n_eq0, n_addm, n_i2l, m_i2l, n_l2i, lN_add, lN_mul, lN_sub, l_div, l_rem, l_eq0, lc_lt, lc_gt, lc_eq, l_lt, l_eq, l_ltm, ml_ltn, ml_ltm, l_eqm, ml_eqn, ml_eqm, ls_1, ls_2, ls_3, ls_4, ls_5, ls_6, ls_7, ls_8, ls_10, ls_11, ls_12, ls_13, ls_14, ls_15, ls_16, ls_17, ob_0, ob_9, rf_0, rf_9, h7, b1, z1, sG_sG, e1]
