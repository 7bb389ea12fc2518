/-! ===== the reference's next token, all ===== -/
set_option maxRecDepth 4096 in
set_option maxHeartbeats 8000000 in
theorem t_next {T : Nat → Int32} {n s : Nat} {w : Wd} (h : RmT T n w) (hs : s ≤ n) (h7 : gF w 267 7 = nI s) : ∃ w', zE 180 [.ref 267] w = some (none, w') ∧ TkM T (tkN T n s) w' ∧ SfN w w' := by
  have n16 := h.1
  obtain ⟨W1, e1, e20, e3⟩ := n_blank h (n - s) s w (by omega) h7 (SfN.rf w)
  have hz : zE 180 [.ref 267] w = zR 180 0 [.ref 267, jk] [] w := rfl
  rw [hz, e1]
  have hab := tkA_b (T := T) hs
  have e2 : gF W1 267 7 = nI (tkA T n s) := e20
  clear e20
  unfold tkN
  generalize tkA T n s = a at *
  have hW := h.fr e3
  have r6 := hW.2.1
  have f2 : SfN w (sG (sF (sF W1 267 9 (nI a)) 267 10 (nI 0)) 267 11 (lN 0)) := ((e3.tr (SfN.sF _ 9 _ (by decide))).tr (SfN.sF _ 10 _ (by decide))).tr (SfN.sG _ _)
  by_cases hlt : a < n
  · have a16 : a < 1600 := by omega
    have rt := hW.2.2 a hlt
    have hne : ¬ a = n := by omega
    have c1 : ∀ W, SfN w W → zE 179 [.ref 267, .int (nI a), .int (nI 97), .int (nI 122)] W = some (some (.int (bI (runP T 1 a))), W) := fun W fW => (h.fr fW).by (i := a) (by omega) _ _ (byB_l hlt)
    have c2 : ∀ W, SfN w W → zE 179 [.ref 267, .int (nI a), .int (nI 48), .int (nI 57)] W = some (some (.int (bI (runP T 2 a))), W) := fun W fW => (h.fr fW).by (i := a) (by omega) _ _ (byB_d hlt)
    have q1 := c1 _ f2
    have q2 := c2 _ f2
    have kb := kdO_b (T a)
    unfold tkK tkE
    rw [if_pos hlt, if_pos hlt]
    by_cases k1 : kdO (T a) = 1
    · rw [if_pos (Or.inl k1), k1]
      have p1 := runP_k k1
      rw [p1] at q1
      have f3 := f2.tr (SfN.sF _ 8 (nI 1) (by decide))
      obtain ⟨W', d1, d2, d3, d4, d5, d6⟩ := n_letters h (a := a) (n - a) 0 _ (by omega) (fun j hj => absurd hj (Nat.not_lt_zero _)) (by rw [gF_sF, if_neg (by omega), gF_sG, gF_sF, if_neg (by omega), gF_sF, if_neg (by omega)]; exact e2) (by rw [gG_sF, gG_sG, if_pos ⟨rfl, rfl⟩]; rfl) f3
      have es : scn (runP T 1) (n - a) a = scn (runP T 1) (n - (a + 1)) (a + 1) := by
        rw [show n - a = (n - (a + 1)) + 1 by omega, scn_s, if_pos p1]
      rw [Nat.add_zero, es] at d2 d3
      refine ⟨W', ?_, ⟨?_, ?_, d2, fun _ => d3, fun z => absurd (show (1 : Nat) = 2 from z) (by decide)⟩, d6⟩
      · rw [zR_W [102, 208]]
        simp (disch := omega) only [tt_180, T_180, mx_180, Nat.reduceLT, Nat.reduceLeDiff, Nat.reduceEqDiff, Nat.reduceAdd, Nat.reduceMul, Nat.reduceSub, Nat.reducePow, Nat.reduceMod, Nat.reduceDiv, Nat.reduceBEq, ↓reduceIte, reduceCtorEq, and_true, true_and, and_false, false_and, and_self, zW_eq, zin, zop, zst, fw_ite, fw_K, fw_R, fw_F, fw_C, zBW_s, nth, stL, okL, nlg, ct, ctv, cI, cL, pu, tkC, iniL, pad, eL, Value.category, swK, bz_0, bz_n0, bz_n1, bI_bz, bI_0, bI_t, bI_f, List.headD_cons, decide_true, decide_false, Bool.true_and, Bool.and_true, Bool.false_and, Bool.and_false, Bool.and_self, Bool.not_true, Bool.not_false, Bool.or_false, Bool.false_or, Bool.true_or, Bool.or_true, Bool.or_self, Bool.false_eq_true, rf_45, rf_47, rf_49, rf_50, rf_51, rf_58, rf_63, rf_65, rf_267, rf45, rf50, rf58, rf63, rf267, ob_45, ob_49, ob_50, ob_58, ob_63, ob_267, ln_46, ln_46n, ln_46m, ln_47, ln_47n, ln_48, ln_48n, ln_51, ln_56, ln_57, ln_59, ln_60, ln_61, ln_62, ln_64, ln_64n, ln_65, ln_268, ln_269, ln_270, ln_270n, ln_271, ln_271n, ln_272, ln_272n, ln_272m, ln_273, ln_274, ln_275, ln_276, ln_277, ln_278, ln_278n, ln_279, ln_280, ln_281, ln_282, ln_283, ln_283n, ln_284, ln_285, ln_286, ln_286n, ln_287, ln_287n, ln_288, ln_289, ln_289n, gF_sF, gF_sG, gF_sI, gF_sJ, gF_sP, gF_sR, gF_sL, gG_sF, gG_sG, gG_sI, gG_sJ, gG_sP, gG_sR, gG_sL, gI_sF, gI_sG, gI_sI, gI_sJ, gI_sP, gI_sR, gI_sL, gJ_sF, gJ_sG, gJ_sI, gJ_sJ, gJ_sP, gJ_sR, gJ_sL, gP_sF, gP_sG, gP_sI, gP_sJ, gP_sP, gP_sR, gP_sL, inB_n, inC_n, iX_n, nI_add, pk_mul, pk_sub, n_and, n_or, n_xor, n_one, n_ush, n_shr, n_div, n_rem, n_ltm, m_ltn, m_ltm, n_eqm, m_eqn, m_eqm, n_lt, n_eq, n_eq0, n_addm, n_i2l, m_i2l, n_l2i, lN_add, lN_mul, lN_sub, l_div, l_rem, l_eq0, lc_lt, lc_gt, lc_eq, l_lt, l_eq, l_ltm, ml_ltn, ml_ltm, l_eqm, ml_eqn, ml_eqm, ls_1, ls_2, ls_3, ls_4, ls_5, ls_6, ls_7, ls_8, ls_10, ls_11, ls_12, ls_13, ls_14, ls_15, ls_16, ls_17, ob_0, ob_9, rf_0, rf_9, e2, r6, hne, q1, d1]
      · rw [d4, gF_sF, if_pos ⟨rfl, rfl⟩]
      · rw [d5, gF_sF, if_neg (by omega), gF_sG, gF_sF, if_neg (by omega), gF_sF, if_pos ⟨rfl, rfl⟩]
    · have p1 : runP T 1 a = false := decide_eq_false k1
      rw [p1] at q1
      by_cases k2 : kdO (T a) = 2
      · rw [if_pos (Or.inr k2), k2]
        have p2 := runP_k k2
        rw [p2] at q2
        have f3 := f2.tr (SfN.sF _ 8 (nI 2) (by decide))
        obtain ⟨W', r', d1, d2, d3, d4, d5, d6, d7⟩ := n_digits (lv := jk) h (n - a) a 0 0 _ (by omega) (by rw [gF_sF, if_neg (by omega), gF_sG, gF_sF, if_neg (by omega), gF_sF, if_neg (by omega)]; exact e2) (by rw [gF_sF, if_neg (by omega), gF_sG, gF_sF, if_pos ⟨rfl, rfl⟩]) (Or.inl ⟨rfl, by decide⟩) f3
        have es : scn (runP T 2) (n - a) a = scn (runP T 2) (n - (a + 1)) (a + 1) := by
          rw [show n - a = (n - (a + 1)) + 1 by omega, scn_s, if_pos p2]
        rw [es] at d2 d4
        refine ⟨W', ?_, ⟨?_, ?_, d2, fun z => absurd (show (2 : Nat) = 1 from z) (by decide), fun _ => ⟨r', d3, d4⟩⟩, d7⟩
        · rw [zR_W [102, 208]]
          simp (disch := omega) only [tt_180, T_180, mx_180, Nat.reduceLT, Nat.reduceLeDiff, Nat.reduceEqDiff, Nat.reduceAdd, Nat.reduceMul, Nat.reduceSub, Nat.reducePow, Nat.reduceMod, Nat.reduceDiv, Nat.reduceBEq, ↓reduceIte, reduceCtorEq, and_true, true_and, and_false, false_and, and_self, zW_eq, zin, zop, zst, fw_ite, fw_K, fw_R, fw_F, fw_C, zBW_s, nth, stL, okL, nlg, ct, ctv, cI, cL, pu, tkC, iniL, pad, eL, Value.category, swK, bz_0, bz_n0, bz_n1, bI_bz, bI_0, bI_t, bI_f, List.headD_cons, decide_true, decide_false, Bool.true_and, Bool.and_true, Bool.false_and, Bool.and_false, Bool.and_self, Bool.not_true, Bool.not_false, Bool.or_false, Bool.false_or, Bool.true_or, Bool.or_true, Bool.or_self, Bool.false_eq_true, rf_45, rf_47, rf_49, rf_50, rf_51, rf_58, rf_63, rf_65, rf_267, rf45, rf50, rf58, rf63, rf267, ob_45, ob_49, ob_50, ob_58, ob_63, ob_267, ln_46, ln_46n, ln_46m, ln_47, ln_47n, ln_48, ln_48n, ln_51, ln_56, ln_57, ln_59, ln_60, ln_61, ln_62, ln_64, ln_64n, ln_65, ln_268, ln_269, ln_270, ln_270n, ln_271, ln_271n, ln_272, ln_272n, ln_272m, ln_273, ln_274, ln_275, ln_276, ln_277, ln_278, ln_278n, ln_279, ln_280, ln_281, ln_282, ln_283, ln_283n, ln_284, ln_285, ln_286, ln_286n, ln_287, ln_287n, ln_288, ln_289, ln_289n, gF_sF, gF_sG, gF_sI, gF_sJ, gF_sP, gF_sR, gF_sL, gG_sF, gG_sG, gG_sI, gG_sJ, gG_sP, gG_sR, gG_sL, gI_sF, gI_sG, gI_sI, gI_sJ, gI_sP, gI_sR, gI_sL, gJ_sF, gJ_sG, gJ_sI, gJ_sJ, gJ_sP, gJ_sR, gJ_sL, gP_sF, gP_sG, gP_sI, gP_sJ, gP_sP, gP_sR, gP_sL, inB_n, inC_n, iX_n, nI_add, pk_mul, pk_sub, n_and, n_or, n_xor, n_one, n_ush, n_shr, n_div, n_rem, n_ltm, m_ltn, m_ltm, n_eqm, m_eqn, m_eqm, n_lt, n_eq, n_eq0, n_addm, n_i2l, m_i2l, n_l2i, lN_add, lN_mul, lN_sub, l_div, l_rem, l_eq0, lc_lt, lc_gt, lc_eq, l_lt, l_eq, l_ltm, ml_ltn, ml_ltm, l_eqm, ml_eqn, ml_eqm, ls_1, ls_2, ls_3, ls_4, ls_5, ls_6, ls_7, ls_8, ls_10, ls_11, ls_12, ls_13, ls_14, ls_15, ls_16, ls_17, ob_0, ob_9, rf_0, rf_9, e2, r6, hne, q1, q2, d1]
        · rw [d5, gF_sF, if_pos ⟨rfl, rfl⟩]
        · rw [d6, gF_sF, if_neg (by omega), gF_sG, gF_sF, if_neg (by omega), gF_sF, if_pos ⟨rfl, rfl⟩]
      · have p2 : runP T 2 a = false := decide_eq_false k2
        rw [p2] at q2
        rw [if_neg (by omega)]
        have kk : kdO (T a) = kd3 (T a) := by
          by_cases z : T a < nI 97 ∨ nI 122 < T a
          · rw [kdO_f z]
            by_cases y : T a < nI 48 ∨ nI 57 < T a
            · exact kd2_f y
            · exfalso
              apply k2
              rw [kdO_f z, kd2_t (fun u => y (Or.inl u)) (fun u => y (Or.inr u))]
          · exfalso
            exact k1 (kdO_t (fun u => z (Or.inl u)) (fun u => z (Or.inr u)))
        rw [kk]
        have fin : ∀ v, SfN w (sF (sF (sG (sF (sF W1 267 9 (nI a)) 267 10 (nI 0)) 267 11 (lN 0)) 267 8 (nI v)) 267 7 (nI (a + 1))) := fun v => (f2.tr (SfN.sF _ 8 _ (by decide))).tr (SfN.sF _ 7 _ (by decide))
        by_cases z : T a = nI 59
        · have e3k : kd3 (T a) = 3 := if_pos z
          rw [z] at rt
          rw [e3k]
          refine ⟨_, ?_, ⟨?_, ?_, ?_, fun z => absurd (show (3 : Nat) = 1 from z) (by decide), fun z => absurd (show (3 : Nat) = 2 from z) (by decide)⟩, fin 3⟩
          · rw [zR_W [102, 208]]
            simp (disch := omega) only [tt_180, T_180, mx_180, Nat.reduceLT, Nat.reduceLeDiff, Nat.reduceEqDiff, Nat.reduceAdd, Nat.reduceMul, Nat.reduceSub, Nat.reducePow, Nat.reduceMod, Nat.reduceDiv, Nat.reduceBEq, ↓reduceIte, reduceCtorEq, and_true, true_and, and_false, false_and, and_self, zW_eq, zin, zop, zst, fw_ite, fw_K, fw_R, fw_F, fw_C, zBW_s, nth, stL, okL, nlg, ct, ctv, cI, cL, pu, tkC, iniL, pad, eL, Value.category, swK, bz_0, bz_n0, bz_n1, bI_bz, bI_0, bI_t, bI_f, List.headD_cons, decide_true, decide_false, Bool.true_and, Bool.and_true, Bool.false_and, Bool.and_false, Bool.and_self, Bool.not_true, Bool.not_false, Bool.or_false, Bool.false_or, Bool.true_or, Bool.or_true, Bool.or_self, Bool.false_eq_true, rf_45, rf_47, rf_49, rf_50, rf_51, rf_58, rf_63, rf_65, rf_267, rf45, rf50, rf58, rf63, rf267, ob_45, ob_49, ob_50, ob_58, ob_63, ob_267, ln_46, ln_46n, ln_46m, ln_47, ln_47n, ln_48, ln_48n, ln_51, ln_56, ln_57, ln_59, ln_60, ln_61, ln_62, ln_64, ln_64n, ln_65, ln_268, ln_269, ln_270, ln_270n, ln_271, ln_271n, ln_272, ln_272n, ln_272m, ln_273, ln_274, ln_275, ln_276, ln_277, ln_278, ln_278n, ln_279, ln_280, ln_281, ln_282, ln_283, ln_283n, ln_284, ln_285, ln_286, ln_286n, ln_287, ln_287n, ln_288, ln_289, ln_289n, gF_sF, gF_sG, gF_sI, gF_sJ, gF_sP, gF_sR, gF_sL, gG_sF, gG_sG, gG_sI, gG_sJ, gG_sP, gG_sR, gG_sL, gI_sF, gI_sG, gI_sI, gI_sJ, gI_sP, gI_sR, gI_sL, gJ_sF, gJ_sG, gJ_sI, gJ_sJ, gJ_sP, gJ_sR, gJ_sL, gP_sF, gP_sG, gP_sI, gP_sJ, gP_sP, gP_sR, gP_sL, inB_n, inC_n, iX_n, nI_add, pk_mul, pk_sub, n_and, n_or, n_xor, n_one, n_ush, n_shr, n_div, n_rem, n_ltm, m_ltn, m_ltm, n_eqm, m_eqn, m_eqm, n_lt, n_eq, n_eq0, n_addm, n_i2l, m_i2l, n_l2i, lN_add, lN_mul, lN_sub, l_div, l_rem, l_eq0, lc_lt, lc_gt, lc_eq, l_lt, l_eq, l_ltm, ml_ltn, ml_ltm, l_eqm, ml_eqn, ml_eqm, ls_1, ls_2, ls_3, ls_4, ls_5, ls_6, ls_7, ls_8, ls_10, ls_11, ls_12, ls_13, ls_14, ls_15, ls_16, ls_17, ob_0, ob_9, rf_0, rf_9, e2, r6, hne, q1, q2, rt, a16]
          · rw [gF_sF, if_neg (by omega), gF_sF, if_pos ⟨rfl, rfl⟩]
          · rw [gF_sF, if_neg (by omega), gF_sF, if_neg (by omega), gF_sG, gF_sF, if_neg (by omega), gF_sF, if_pos ⟨rfl, rfl⟩]
          · rw [gF_sF, if_pos ⟨rfl, rfl⟩]
        · have e3k : kd3 (T a) = 4 := if_neg z
          rw [e3k]
          refine ⟨_, ?_, ⟨?_, ?_, ?_, fun z => absurd (show (4 : Nat) = 1 from z) (by decide), fun z => absurd (show (4 : Nat) = 2 from z) (by decide)⟩, fin 4⟩
          · rw [zR_W [102, 208]]
            simp (disch := omega) only [tt_180, T_180, mx_180, Nat.reduceLT, Nat.reduceLeDiff, Nat.reduceEqDiff, Nat.reduceAdd, Nat.reduceMul, Nat.reduceSub, Nat.reducePow, Nat.reduceMod, Nat.reduceDiv, Nat.reduceBEq, ↓reduceIte, reduceCtorEq, and_true, true_and, and_false, false_and, and_self, zW_eq, zin, zop, zst, fw_ite, fw_K, fw_R, fw_F, fw_C, zBW_s, nth, stL, okL, nlg, ct, ctv, cI, cL, pu, tkC, iniL, pad, eL, Value.category, swK, bz_0, bz_n0, bz_n1, bI_bz, bI_0, bI_t, bI_f, List.headD_cons, decide_true, decide_false, Bool.true_and, Bool.and_true, Bool.false_and, Bool.and_false, Bool.and_self, Bool.not_true, Bool.not_false, Bool.or_false, Bool.false_or, Bool.true_or, Bool.or_true, Bool.or_self, Bool.false_eq_true, rf_45, rf_47, rf_49, rf_50, rf_51, rf_58, rf_63, rf_65, rf_267, rf45, rf50, rf58, rf63, rf267, ob_45, ob_49, ob_50, ob_58, ob_63, ob_267, ln_46, ln_46n, ln_46m, ln_47, ln_47n, ln_48, ln_48n, ln_51, ln_56, ln_57, ln_59, ln_60, ln_61, ln_62, ln_64, ln_64n, ln_65, ln_268, ln_269, ln_270, ln_270n, ln_271, ln_271n, ln_272, ln_272n, ln_272m, ln_273, ln_274, ln_275, ln_276, ln_277, ln_278, ln_278n, ln_279, ln_280, ln_281, ln_282, ln_283, ln_283n, ln_284, ln_285, ln_286, ln_286n, ln_287, ln_287n, ln_288, ln_289, ln_289n, gF_sF, gF_sG, gF_sI, gF_sJ, gF_sP, gF_sR, gF_sL, gG_sF, gG_sG, gG_sI, gG_sJ, gG_sP, gG_sR, gG_sL, gI_sF, gI_sG, gI_sI, gI_sJ, gI_sP, gI_sR, gI_sL, gJ_sF, gJ_sG, gJ_sI, gJ_sJ, gJ_sP, gJ_sR, gJ_sL, gP_sF, gP_sG, gP_sI, gP_sJ, gP_sP, gP_sR, gP_sL, inB_n, inC_n, iX_n, nI_add, pk_mul, pk_sub, n_and, n_or, n_xor, n_one, n_ush, n_shr, n_div, n_rem, n_ltm, m_ltn, m_ltm, n_eqm, m_eqn, m_eqm, n_lt, n_eq, n_eq0, n_addm, n_i2l, m_i2l, n_l2i, lN_add, lN_mul, lN_sub, l_div, l_rem, l_eq0, lc_lt, lc_gt, lc_eq, l_lt, l_eq, l_ltm, ml_ltn, ml_ltm, l_eqm, ml_eqn, ml_eqm, ls_1, ls_2, ls_3, ls_4, ls_5, ls_6, ls_7, ls_8, ls_10, ls_11, ls_12, ls_13, ls_14, ls_15, ls_16, ls_17, ob_0, ob_9, rf_0, rf_9, e2, r6, hne, q1, q2, rt, z, a16]
          · rw [gF_sF, if_neg (by omega), gF_sF, if_pos ⟨rfl, rfl⟩]
          · rw [gF_sF, if_neg (by omega), gF_sF, if_neg (by omega), gF_sG, gF_sF, if_neg (by omega), gF_sF, if_pos ⟨rfl, rfl⟩]
          · rw [gF_sF, if_pos ⟨rfl, rfl⟩]
  · have han : a = n := by omega
    subst han
    unfold tkK tkE
    rw [if_neg hlt, if_neg hlt]
    refine ⟨sF (sG (sF (sF W1 267 9 (nI a)) 267 10 (nI 0)) 267 11 (lN 0)) 267 8 (nI 0), ?_, ⟨?_, ?_, ?_, fun z => absurd (show (0 : Nat) = 1 from z) (by decide), fun z => absurd (show (0 : Nat) = 2 from z) (by decide)⟩, f2.tr (SfN.sF _ 8 _ (by decide))⟩
    · rw [zR_W [102, 208]]
      simp (disch := omega) only [tt_180, T_180, mx_180, Nat.reduceLT, Nat.reduceLeDiff, Nat.reduceEqDiff, Nat.reduceAdd, Nat.reduceMul, Nat.reduceSub, Nat.reducePow, Nat.reduceMod, Nat.reduceDiv, Nat.reduceBEq, ↓reduceIte, reduceCtorEq, and_true, true_and, and_false, false_and, and_self, zW_eq, zin, zop, zst, fw_ite, fw_K, fw_R, fw_F, fw_C, zBW_s, nth, stL, okL, nlg, ct, ctv, cI, cL, pu, tkC, iniL, pad, eL, Value.category, swK, bz_0, bz_n0, bz_n1, bI_bz, bI_0, bI_t, bI_f, List.headD_cons, decide_true, decide_false, Bool.true_and, Bool.and_true, Bool.false_and, Bool.and_false, Bool.and_self, Bool.not_true, Bool.not_false, Bool.or_false, Bool.false_or, Bool.true_or, Bool.or_true, Bool.or_self, Bool.false_eq_true, rf_45, rf_47, rf_49, rf_50, rf_51, rf_58, rf_63, rf_65, rf_267, rf45, rf50, rf58, rf63, rf267, ob_45, ob_49, ob_50, ob_58, ob_63, ob_267, ln_46, ln_46n, ln_46m, ln_47, ln_47n, ln_48, ln_48n, ln_51, ln_56, ln_57, ln_59, ln_60, ln_61, ln_62, ln_64, ln_64n, ln_65, ln_268, ln_269, ln_270, ln_270n, ln_271, ln_271n, ln_272, ln_272n, ln_272m, ln_273, ln_274, ln_275, ln_276, ln_277, ln_278, ln_278n, ln_279, ln_280, ln_281, ln_282, ln_283, ln_283n, ln_284, ln_285, ln_286, ln_286n, ln_287, ln_287n, ln_288, ln_289, ln_289n, gF_sF, gF_sG, gF_sI, gF_sJ, gF_sP, gF_sR, gF_sL, gG_sF, gG_sG, gG_sI, gG_sJ, gG_sP, gG_sR, gG_sL, gI_sF, gI_sG, gI_sI, gI_sJ, gI_sP, gI_sR, gI_sL, gJ_sF, gJ_sG, gJ_sI, gJ_sJ, gJ_sP, gJ_sR, gJ_sL, gP_sF, gP_sG, gP_sI, gP_sJ, gP_sP, gP_sR, gP_sL, inB_n, inC_n, iX_n, nI_add, pk_mul, pk_sub, n_and, n_or, n_xor, n_one, n_ush, n_shr, n_div, n_rem, n_ltm, m_ltn, m_ltm, n_eqm, m_eqn, m_eqm, n_lt, n_eq, n_eq0, n_addm, n_i2l, m_i2l, n_l2i, lN_add, lN_mul, lN_sub, l_div, l_rem, l_eq0, lc_lt, lc_gt, lc_eq, l_lt, l_eq, l_ltm, ml_ltn, ml_ltm, l_eqm, ml_eqn, ml_eqm, ls_1, ls_2, ls_3, ls_4, ls_5, ls_6, ls_7, ls_8, ls_10, ls_11, ls_12, ls_13, ls_14, ls_15, ls_16, ls_17, ob_0, ob_9, rf_0, rf_9, e2, r6]
    · rw [gF_sF, if_pos ⟨rfl, rfl⟩]
    · rw [gF_sF, if_neg (by omega), gF_sG, gF_sF, if_neg (by omega), gF_sF, if_pos ⟨rfl, rfl⟩]
    · rw [gF_sF, if_neg (by omega), gF_sG, gF_sF, if_neg (by omega), gF_sF, if_neg (by omega)]
      exact e2
