/-! ===== series: goOnFrom ===== -/
def wSwp (a b a' b' : Nat) (w : Wd) : Wd := sP (sP (sP (sP w 3 a') 7 a) 4 b') 8 b
theorem t_swapRows {a b a' b' : Nat} {w : Wd} (h3 : gP w 3 = a) (h4 : gP w 4 = b) (h7 : gP w 7 = a') (h8 : gP w 8 = b') : zE 92 [.ref 58] w = some (none, wSwp a b a' b' w) := by
  unfold wSwp
  rw [zE_W []]
  simp (disch := omega) only [tt_92, T_92, mx_92, Nat.reduceLT, Nat.reduceLeDiff, Nat.reduceEqDiff, Nat.reduceAdd, Nat.reduceMul, Nat.reduceSub, Nat.reducePow, Nat.reduceMod, Nat.reduceDiv, Nat.reduceBEq, ↓reduceIte, reduceCtorEq, and_true, true_and, and_false, false_and, and_self, zW_eq, zin, zop, zst, fw_ite, fw_K, fw_R, fw_F, fw_C, zBW_s, nth, stL, okL, nlg, ct, ctv, cI, cL, pu, tkC, iniL, pad, eL, Value.category, swK, bz_0, bz_n0, bz_n1, bI_bz, bI_0, bI_t, bI_f, List.headD_cons, decide_true, decide_false, Bool.true_and, Bool.and_true, Bool.false_and, Bool.and_false, Bool.and_self, Bool.not_true, Bool.not_false, Bool.or_false, Bool.false_or, Bool.true_or, Bool.or_true, Bool.or_self, Bool.false_eq_true, rf_45, rf_47, rf_49, rf_50, rf_51, rf_58, rf_63, rf_65, rf_267, rf45, rf50, rf58, rf63, rf267, ob_45, ob_49, ob_50, ob_58, ob_63, ob_267, ln_46, ln_46n, ln_46m, ln_47, ln_47n, ln_48, ln_48n, ln_51, ln_56, ln_57, ln_59, ln_60, ln_61, ln_62, ln_64, ln_64n, ln_65, ln_268, ln_269, ln_270, ln_270n, ln_271, ln_271n, ln_272, ln_272n, ln_272m, ln_273, ln_274, ln_275, ln_276, ln_277, ln_278, ln_278n, ln_279, ln_280, ln_281, ln_282, ln_283, ln_283n, ln_284, ln_285, ln_286, ln_286n, ln_287, ln_287n, ln_288, ln_289, ln_289n, gF_sF, gF_sG, gF_sI, gF_sJ, gF_sP, gF_sR, gF_sL, gG_sF, gG_sG, gG_sI, gG_sJ, gG_sP, gG_sR, gG_sL, gI_sF, gI_sG, gI_sI, gI_sJ, gI_sP, gI_sR, gI_sL, gJ_sF, gJ_sG, gJ_sI, gJ_sJ, gJ_sP, gJ_sR, gJ_sL, gP_sF, gP_sG, gP_sI, gP_sJ, gP_sP, gP_sR, gP_sL, inB_n, inC_n, iX_n, nI_add, pk_mul, pk_sub, n_and, n_or, n_xor, n_one, n_ush, n_shr, n_div, n_rem, n_ltm, m_ltn, m_ltm, n_eqm, m_eqn, m_eqm, n_lt, n_eq, n_eq0, n_addm, n_i2l, m_i2l, n_l2i, lN_add, lN_mul, lN_sub, l_div, l_rem, l_eq0, lc_lt, lc_gt, lc_eq, l_lt, l_eq, l_ltm, ml_ltn, ml_ltm, l_eqm, ml_eqn, ml_eqm, ls_1, ls_2, ls_3, ls_4, ls_5, ls_6, ls_7, ls_8, ls_10, ls_11, ls_12, ls_13, ls_14, ls_15, ls_16, ls_17, ob_0, ob_9, rf_0, rf_9, h3, h4, h7, h8, beq_self_eq_true]
set_option maxHeartbeats 4000000 in
theorem t_goOnFrom {sc : Sg} (g : Gd sc) {lim a b a' b' B : Nat} {Q : Qu} {w : Wd} (ab : AB a b) (ab' : AB a' b') (na : a ≠ a') (nb : b ≠ b') (s : SrC sc lim 0 a b Q Q.length w) (qb : QB sc lim B Q) (hB : B + 16384 ≤ 262144) (hlim : lim < 2 ^ 31) (so : ∀ i j, i ≤ j → j < Q.length → (qa Q i).2 ≤ (qa Q j).2) (h7 : gP w 7 = a') (h8 : gP w 8 = b') {bits : Nat} (hb : bits < 2 ^ 31) : ∃ R w', zE 90 [.ref 58, .int (nI bits)] w = some (none, w') ∧ SrC sc lim 0 a' b' R R.length w' ∧ QB sc lim (B + 16384) R ∧ Iv (Ed sc lim nob) (srcB Q bits) R R.length ∧ Sd (srcB Q bits) R ∧ gP w' 7 = a ∧ gP w' 8 = b ∧ SmO scrC w w' ∧ (∀ k, k ≠ 3 → k ≠ 4 → k ≠ 7 → k ≠ 8 → gP w' k = gP w k) := by
  have hl := qb.len14 g
  have h16 := p14 g
  have lb := ab.lb
  have la := ab.la
  obtain ⟨s0, s3, s4, s1, s2, s5, s6, sd, sq⟩ := s
  have ts := t_swapRows s3 s4 h7 h8
  have hS1 : SmO scrC w (wSwp a b a' b' w) := by
    have q58 : scrC 58 := Or.inr (Or.inr (Or.inl ⟨by decide, by decide⟩))
    exact (((SmO.sP q58).tr (SmO.sP q58)).tr (SmO.sP q58)).tr (SmO.sP q58)
  have hc1 : ClS 0 sc (wSwp a b a' b' w) := s0
  have sp1 : SpC sc a b Q (wSwp a b a' b' w) := ⟨rfl, rfl, sd, sq⟩
  have p3 : gP (wSwp a b a' b' w) 3 = a' := rfl
  have p4 : gP (wSwp a b a' b' w) 4 = b' := rfl
  have f1 : gF (wSwp a b a' b' w) 58 1 = nI lim := s1
  have f2 : gF (wSwp a b a' b' w) 58 2 = nI 0 := s2
  have pk : ∀ k, k ≠ 3 → k ≠ 4 → k ≠ 7 → k ≠ 8 → gP (wSwp a b a' b' w) k = gP w k := by
    intro k k3 k4 k7 k8
    unfold wSwp
    rw [gP_sP, if_neg k8, gP_sP, if_neg k4, gP_sP, if_neg k7, gP_sP, if_neg k3]
  generalize wSwp a b a' b' w = w1 at *
  obtain ⟨w2, c1, c2, c3⟩ := t_forget g (lim := lim) (bar := 0) ab' hc1 p3 p4 f1 f2
  have sp2 := sp1.fr c3 ab ab' na nb
  have lp : ∀ f R h j W X, f + (j + h) = 32768 → j ≤ Q.length → h ≤ R.length → SrC sc lim 0 a' b' R h W → SpC sc a b Q W → QB sc lim (B + 16384) R → Jv (Ed sc lim nob) Q bits R h j → SfC a' b' w1 W → ∃ R' w', zR 90 18 [.ref 58, .int (nI bits), .int (nI Q.length), .int (nI j), .int (nI (j + h)), X] [] W = some (none, w') ∧ SrC sc lim 0 a' b' R' R'.length w' ∧ SpC sc a b Q w' ∧ QB sc lim (B + 16384) R' ∧ Jv (Ed sc lim nob) Q bits R' R'.length Q.length ∧ SfC a' b' w1 w' := by
    intro f
    induction f with
    | zero =>
      intro R h j W X hf hj hh sW sp qr J fW
      have hlr := qr.len14 g
      have e1 : j = Q.length := by omega
      have e2 : h = R.length := by omega
      subst e1 e2
      refine ⟨R, W, ?_, sW, sp, qr, J, fW⟩
      have q : ¬ Q.length + R.length < 32768 := by omega
      rw [zR_W [18]]
      simp (disch := omega) only [tt_90, T_90, mx_90, Nat.reduceLT, Nat.reduceLeDiff, Nat.reduceEqDiff, Nat.reduceAdd, Nat.reduceMul, Nat.reduceSub, Nat.reducePow, Nat.reduceMod, Nat.reduceDiv, Nat.reduceBEq, ↓reduceIte, reduceCtorEq, and_true, true_and, and_false, false_and, and_self, zW_eq, zin, zop, zst, fw_ite, fw_K, fw_R, fw_F, fw_C, zBW_s, nth, stL, okL, nlg, ct, ctv, cI, cL, pu, tkC, iniL, pad, eL, Value.category, swK, bz_0, bz_n0, bz_n1, bI_bz, bI_0, bI_t, bI_f, List.headD_cons, decide_true, decide_false, Bool.true_and, Bool.and_true, Bool.false_and, Bool.and_false, Bool.and_self, Bool.not_true, Bool.not_false, Bool.or_false, Bool.false_or, Bool.true_or, Bool.or_true, Bool.or_self, Bool.false_eq_true, rf_45, rf_47, rf_49, rf_50, rf_51, rf_58, rf_63, rf_65, rf_267, rf45, rf50, rf58, rf63, rf267, ob_45, ob_49, ob_50, ob_58, ob_63, ob_267, ln_46, ln_46n, ln_46m, ln_47, ln_47n, ln_48, ln_48n, ln_51, ln_56, ln_57, ln_59, ln_60, ln_61, ln_62, ln_64, ln_64n, ln_65, ln_268, ln_269, ln_270, ln_270n, ln_271, ln_271n, ln_272, ln_272n, ln_272m, ln_273, ln_274, ln_275, ln_276, ln_277, ln_278, ln_278n, ln_279, ln_280, ln_281, ln_282, ln_283, ln_283n, ln_284, ln_285, ln_286, ln_286n, ln_287, ln_287n, ln_288, ln_289, ln_289n, gF_sF, gF_sG, gF_sI, gF_sJ, gF_sP, gF_sR, gF_sL, gG_sF, gG_sG, gG_sI, gG_sJ, gG_sP, gG_sR, gG_sL, gI_sF, gI_sG, gI_sI, gI_sJ, gI_sP, gI_sR, gI_sL, gJ_sF, gJ_sG, gJ_sI, gJ_sJ, gJ_sP, gJ_sR, gJ_sL, gP_sF, gP_sG, gP_sI, gP_sJ, gP_sP, gP_sR, gP_sL, inB_n, inC_n, iX_n, nI_add, pk_mul, pk_sub, n_and, n_or, n_xor, n_one, n_ush, n_shr, n_div, n_rem, n_ltm, m_ltn, m_ltm, n_eqm, m_eqn, m_eqm, n_lt, n_eq, n_eq0, n_addm, n_i2l, m_i2l, n_l2i, lN_add, lN_mul, lN_sub, l_div, l_rem, l_eq0, lc_lt, lc_gt, lc_eq, l_lt, l_eq, l_ltm, ml_ltn, ml_ltm, l_eqm, ml_eqn, ml_eqm, ls_1, ls_2, ls_3, ls_4, ls_5, ls_6, ls_7, ls_8, ls_10, ls_11, ls_12, ls_13, ls_14, ls_15, ls_16, ls_17, ob_0, ob_9, rf_0, rf_9, q]
    | succ f ih =>
      intro R h j W X hf hj hh sW sp qr J fW
      have hlr := qr.len14 g
      have q : j + h < 32768 := by omega
      have u5 := sW.2.2.2.2.2.1
      have u6 := sW.2.2.2.2.2.2.1
      have u8 := sp.2.1
      have u7 := sp.1
      by_cases jl : j < Q.length
      · have j16 : j < 16384 := by omega
        have rq := sp.2.2.2 j jl
        have td := t_isDue g ab ab' sW qr sp qb (by omega) (by omega) hh jl
        obtain ⟨y1, y2, y3⟩ := qb.hd jl
        have p16 : (qa Q j).1 < 16384 := by omega
        have hand : (qa Q j).1 &&& bits ≤ bits := Nat.and_le_right
        by_cases due : h = R.length ∨ (qa Q j).2 ≤ (qa R h).2 + 1
        · rw [decide_eq_true due] at td
          by_cases z : (qa Q j).1 &&& bits = bits
          · have rs := sp.2.2.1 _ y1
            rw [qd_qa qb.1 jl] at rs
            have rs : gI W a (qa Q j).1 = nI (qa Q j).2 := rs
            obtain ⟨W2, g1, g2, g3⟩ := t_put g ab' sW qr hB y1 (d := (qa Q j).2) (by omega)
            rw [barF_0] at g2
            have J2 := jv_put (bar := nob) so J jl z rfl due
            have qr2 := qr.put (bar := nob) (d := (qa Q j).2) y1 y2 (by omega)
            obtain ⟨R', w', k1, k2⟩ := ih _ h (j + 1) W2 (.int (nI (qa Q j).1)) (by omega) (by omega) (Nat.le_trans hh (qput_le _ _ _ _)) g2 (sp.fr g3 ab ab' na nb) qr2 J2 (fW.tr g3)
            rw [show j + 1 + h = j + h + 1 by omega] at k1
            refine ⟨R', w', ?_, k2⟩
            rw [zR_W [18]]
            simp (disch := omega) only [tt_90, T_90, mx_90, Nat.reduceLT, Nat.reduceLeDiff, Nat.reduceEqDiff, Nat.reduceAdd, Nat.reduceMul, Nat.reduceSub, Nat.reducePow, Nat.reduceMod, Nat.reduceDiv, Nat.reduceBEq, ↓reduceIte, reduceCtorEq, and_true, true_and, and_false, false_and, and_self, zW_eq, zin, zop, zst, fw_ite, fw_K, fw_R, fw_F, fw_C, zBW_s, nth, stL, okL, nlg, ct, ctv, cI, cL, pu, tkC, iniL, pad, eL, Value.category, swK, bz_0, bz_n0, bz_n1, bI_bz, bI_0, bI_t, bI_f, List.headD_cons, decide_true, decide_false, Bool.true_and, Bool.and_true, Bool.false_and, Bool.and_false, Bool.and_self, Bool.not_true, Bool.not_false, Bool.or_false, Bool.false_or, Bool.true_or, Bool.or_true, Bool.or_self, Bool.false_eq_true, rf_45, rf_47, rf_49, rf_50, rf_51, rf_58, rf_63, rf_65, rf_267, rf45, rf50, rf58, rf63, rf267, ob_45, ob_49, ob_50, ob_58, ob_63, ob_267, ln_46, ln_46n, ln_46m, ln_47, ln_47n, ln_48, ln_48n, ln_51, ln_56, ln_57, ln_59, ln_60, ln_61, ln_62, ln_64, ln_64n, ln_65, ln_268, ln_269, ln_270, ln_270n, ln_271, ln_271n, ln_272, ln_272n, ln_272m, ln_273, ln_274, ln_275, ln_276, ln_277, ln_278, ln_278n, ln_279, ln_280, ln_281, ln_282, ln_283, ln_283n, ln_284, ln_285, ln_286, ln_286n, ln_287, ln_287n, ln_288, ln_289, ln_289n, gF_sF, gF_sG, gF_sI, gF_sJ, gF_sP, gF_sR, gF_sL, gG_sF, gG_sG, gG_sI, gG_sJ, gG_sP, gG_sR, gG_sL, gI_sF, gI_sG, gI_sI, gI_sJ, gI_sP, gI_sR, gI_sL, gJ_sF, gJ_sG, gJ_sI, gJ_sJ, gJ_sP, gJ_sR, gJ_sL, gP_sF, gP_sG, gP_sI, gP_sJ, gP_sP, gP_sR, gP_sL, inB_n, inC_n, iX_n, nI_add, pk_mul, pk_sub, n_and, n_or, n_xor, n_one, n_ush, n_shr, n_div, n_rem, n_ltm, m_ltn, m_ltm, n_eqm, m_eqn, m_eqm, n_lt, n_eq, n_eq0, n_addm, n_i2l, m_i2l, n_l2i, lN_add, lN_mul, lN_sub, l_div, l_rem, l_eq0, lc_lt, lc_gt, lc_eq, l_lt, l_eq, l_ltm, ml_ltn, ml_ltm, l_eqm, ml_eqn, ml_eqm, ls_1, ls_2, ls_3, ls_4, ls_5, ls_6, ls_7, ls_8, ls_10, ls_11, ls_12, ls_13, ls_14, ls_15, ls_16, ls_17, ob_0, ob_9, rf_0, rf_9, q, jl, u8, lb, j16, rq, td, z, u7, la, p16, rs, g1, k1]
          · have J2 := jv_skip J z
            obtain ⟨R', w', k1, k2⟩ := ih R h (j + 1) W (.int (nI (qa Q j).1)) (by omega) (by omega) hh sW sp qr J2 fW
            rw [show j + 1 + h = j + h + 1 by omega] at k1
            refine ⟨R', w', ?_, k2⟩
            rw [zR_W [18]]
            simp (disch := omega) only [tt_90, T_90, mx_90, Nat.reduceLT, Nat.reduceLeDiff, Nat.reduceEqDiff, Nat.reduceAdd, Nat.reduceMul, Nat.reduceSub, Nat.reducePow, Nat.reduceMod, Nat.reduceDiv, Nat.reduceBEq, ↓reduceIte, reduceCtorEq, and_true, true_and, and_false, false_and, and_self, zW_eq, zin, zop, zst, fw_ite, fw_K, fw_R, fw_F, fw_C, zBW_s, nth, stL, okL, nlg, ct, ctv, cI, cL, pu, tkC, iniL, pad, eL, Value.category, swK, bz_0, bz_n0, bz_n1, bI_bz, bI_0, bI_t, bI_f, List.headD_cons, decide_true, decide_false, Bool.true_and, Bool.and_true, Bool.false_and, Bool.and_false, Bool.and_self, Bool.not_true, Bool.not_false, Bool.or_false, Bool.false_or, Bool.true_or, Bool.or_true, Bool.or_self, Bool.false_eq_true, rf_45, rf_47, rf_49, rf_50, rf_51, rf_58, rf_63, rf_65, rf_267, rf45, rf50, rf58, rf63, rf267, ob_45, ob_49, ob_50, ob_58, ob_63, ob_267, ln_46, ln_46n, ln_46m, ln_47, ln_47n, ln_48, ln_48n, ln_51, ln_56, ln_57, ln_59, ln_60, ln_61, ln_62, ln_64, ln_64n, ln_65, ln_268, ln_269, ln_270, ln_270n, ln_271, ln_271n, ln_272, ln_272n, ln_272m, ln_273, ln_274, ln_275, ln_276, ln_277, ln_278, ln_278n, ln_279, ln_280, ln_281, ln_282, ln_283, ln_283n, ln_284, ln_285, ln_286, ln_286n, ln_287, ln_287n, ln_288, ln_289, ln_289n, gF_sF, gF_sG, gF_sI, gF_sJ, gF_sP, gF_sR, gF_sL, gG_sF, gG_sG, gG_sI, gG_sJ, gG_sP, gG_sR, gG_sL, gI_sF, gI_sG, gI_sI, gI_sJ, gI_sP, gI_sR, gI_sL, gJ_sF, gJ_sG, gJ_sI, gJ_sJ, gJ_sP, gJ_sR, gJ_sL, gP_sF, gP_sG, gP_sI, gP_sJ, gP_sP, gP_sR, gP_sL, inB_n, inC_n, iX_n, nI_add, pk_mul, pk_sub, n_and, n_or, n_xor, n_one, n_ush, n_shr, n_div, n_rem, n_ltm, m_ltn, m_ltm, n_eqm, m_eqn, m_eqm, n_lt, n_eq, n_eq0, n_addm, n_i2l, m_i2l, n_l2i, lN_add, lN_mul, lN_sub, l_div, l_rem, l_eq0, lc_lt, lc_gt, lc_eq, l_lt, l_eq, l_ltm, ml_ltn, ml_ltm, l_eqm, ml_eqn, ml_eqm, ls_1, ls_2, ls_3, ls_4, ls_5, ls_6, ls_7, ls_8, ls_10, ls_11, ls_12, ls_13, ls_14, ls_15, ls_16, ls_17, ob_0, ob_9, rf_0, rf_9, q, jl, u8, lb, j16, rq, td, z, k1]
        · rw [decide_eq_false due] at td
          have hlt : h < R.length := by
            by_cases y : h < R.length
            · exact y
            · exact absurd (Or.inl (by omega)) due
          have dn : (qa R h).2 + 1 < (qa Q j).2 := by
            by_cases y : (qa R h).2 + 1 < (qa Q j).2
            · exact y
            · exact absurd (Or.inr (by omega)) due
          obtain ⟨W2, g1, g2, g3⟩ := t_expandNext g ab' sW qr hB hlim hlt
          rw [barF_0] at g2
          obtain ⟨x1, x2, x3⟩ := qr.hd hlt
          have J2 := jv_exp (bar := nob) so J hlt (fun r => Ed_C x1 x2) (fun _ => by omega)
          obtain ⟨R', w', k1, k2⟩ := ih _ (h + 1) j W2 X (by omega) hj (Nat.lt_of_lt_of_le hlt (fold_le _ _ _ _)) g2 (sp.fr g3 ab ab' na nb) (qr.exC g hlt) J2 (fW.tr g3)
          rw [show j + (h + 1) = j + h + 1 by omega] at k1
          refine ⟨R', w', ?_, k2⟩
          rw [zR_W [18]]
          simp (disch := omega) only [tt_90, T_90, mx_90, Nat.reduceLT, Nat.reduceLeDiff, Nat.reduceEqDiff, Nat.reduceAdd, Nat.reduceMul, Nat.reduceSub, Nat.reducePow, Nat.reduceMod, Nat.reduceDiv, Nat.reduceBEq, ↓reduceIte, reduceCtorEq, and_true, true_and, and_false, false_and, and_self, zW_eq, zin, zop, zst, fw_ite, fw_K, fw_R, fw_F, fw_C, zBW_s, nth, stL, okL, nlg, ct, ctv, cI, cL, pu, tkC, iniL, pad, eL, Value.category, swK, bz_0, bz_n0, bz_n1, bI_bz, bI_0, bI_t, bI_f, List.headD_cons, decide_true, decide_false, Bool.true_and, Bool.and_true, Bool.false_and, Bool.and_false, Bool.and_self, Bool.not_true, Bool.not_false, Bool.or_false, Bool.false_or, Bool.true_or, Bool.or_true, Bool.or_self, Bool.false_eq_true, rf_45, rf_47, rf_49, rf_50, rf_51, rf_58, rf_63, rf_65, rf_267, rf45, rf50, rf58, rf63, rf267, ob_45, ob_49, ob_50, ob_58, ob_63, ob_267, ln_46, ln_46n, ln_46m, ln_47, ln_47n, ln_48, ln_48n, ln_51, ln_56, ln_57, ln_59, ln_60, ln_61, ln_62, ln_64, ln_64n, ln_65, ln_268, ln_269, ln_270, ln_270n, ln_271, ln_271n, ln_272, ln_272n, ln_272m, ln_273, ln_274, ln_275, ln_276, ln_277, ln_278, ln_278n, ln_279, ln_280, ln_281, ln_282, ln_283, ln_283n, ln_284, ln_285, ln_286, ln_286n, ln_287, ln_287n, ln_288, ln_289, ln_289n, gF_sF, gF_sG, gF_sI, gF_sJ, gF_sP, gF_sR, gF_sL, gG_sF, gG_sG, gG_sI, gG_sJ, gG_sP, gG_sR, gG_sL, gI_sF, gI_sG, gI_sI, gI_sJ, gI_sP, gI_sR, gI_sL, gJ_sF, gJ_sG, gJ_sI, gJ_sJ, gJ_sP, gJ_sR, gJ_sL, gP_sF, gP_sG, gP_sI, gP_sJ, gP_sP, gP_sR, gP_sL, inB_n, inC_n, iX_n, nI_add, pk_mul, pk_sub, n_and, n_or, n_xor, n_one, n_ush, n_shr, n_div, n_rem, n_ltm, m_ltn, m_ltm, n_eqm, m_eqn, m_eqm, n_lt, n_eq, n_eq0, n_addm, n_i2l, m_i2l, n_l2i, lN_add, lN_mul, lN_sub, l_div, l_rem, l_eq0, lc_lt, lc_gt, lc_eq, l_lt, l_eq, l_ltm, ml_ltn, ml_ltm, l_eqm, ml_eqn, ml_eqm, ls_1, ls_2, ls_3, ls_4, ls_5, ls_6, ls_7, ls_8, ls_10, ls_11, ls_12, ls_13, ls_14, ls_15, ls_16, ls_17, ob_0, ob_9, rf_0, rf_9, q, jl, u8, lb, j16, rq, td, g1, k1]
      · have e1 : j = Q.length := by omega
        by_cases hlt : h < R.length
        · obtain ⟨W2, g1, g2, g3⟩ := t_expandNext g ab' sW qr hB hlim hlt
          rw [barF_0] at g2
          obtain ⟨x1, x2, x3⟩ := qr.hd hlt
          have J2 := jv_exp (bar := nob) so J hlt (fun r => Ed_C x1 x2) (fun y => absurd y jl)
          obtain ⟨R', w', k1, k2⟩ := ih _ (h + 1) j W2 X (by omega) hj (Nat.lt_of_lt_of_le hlt (fold_le _ _ _ _)) g2 (sp.fr g3 ab ab' na nb) (qr.exC g hlt) J2 (fW.tr g3)
          rw [show j + (h + 1) = j + h + 1 by omega] at k1
          refine ⟨R', w', ?_, k2⟩
          rw [zR_W [18]]
          simp (disch := omega) only [tt_90, T_90, mx_90, Nat.reduceLT, Nat.reduceLeDiff, Nat.reduceEqDiff, Nat.reduceAdd, Nat.reduceMul, Nat.reduceSub, Nat.reducePow, Nat.reduceMod, Nat.reduceDiv, Nat.reduceBEq, ↓reduceIte, reduceCtorEq, and_true, true_and, and_false, false_and, and_self, zW_eq, zin, zop, zst, fw_ite, fw_K, fw_R, fw_F, fw_C, zBW_s, nth, stL, okL, nlg, ct, ctv, cI, cL, pu, tkC, iniL, pad, eL, Value.category, swK, bz_0, bz_n0, bz_n1, bI_bz, bI_0, bI_t, bI_f, List.headD_cons, decide_true, decide_false, Bool.true_and, Bool.and_true, Bool.false_and, Bool.and_false, Bool.and_self, Bool.not_true, Bool.not_false, Bool.or_false, Bool.false_or, Bool.true_or, Bool.or_true, Bool.or_self, Bool.false_eq_true, rf_45, rf_47, rf_49, rf_50, rf_51, rf_58, rf_63, rf_65, rf_267, rf45, rf50, rf58, rf63, rf267, ob_45, ob_49, ob_50, ob_58, ob_63, ob_267, ln_46, ln_46n, ln_46m, ln_47, ln_47n, ln_48, ln_48n, ln_51, ln_56, ln_57, ln_59, ln_60, ln_61, ln_62, ln_64, ln_64n, ln_65, ln_268, ln_269, ln_270, ln_270n, ln_271, ln_271n, ln_272, ln_272n, ln_272m, ln_273, ln_274, ln_275, ln_276, ln_277, ln_278, ln_278n, ln_279, ln_280, ln_281, ln_282, ln_283, ln_283n, ln_284, ln_285, ln_286, ln_286n, ln_287, ln_287n, ln_288, ln_289, ln_289n, gF_sF, gF_sG, gF_sI, gF_sJ, gF_sP, gF_sR, gF_sL, gG_sF, gG_sG, gG_sI, gG_sJ, gG_sP, gG_sR, gG_sL, gI_sF, gI_sG, gI_sI, gI_sJ, gI_sP, gI_sR, gI_sL, gJ_sF, gJ_sG, gJ_sI, gJ_sJ, gJ_sP, gJ_sR, gJ_sL, gP_sF, gP_sG, gP_sI, gP_sJ, gP_sP, gP_sR, gP_sL, inB_n, inC_n, iX_n, nI_add, pk_mul, pk_sub, n_and, n_or, n_xor, n_one, n_ush, n_shr, n_div, n_rem, n_ltm, m_ltn, m_ltm, n_eqm, m_eqn, m_eqm, n_lt, n_eq, n_eq0, n_addm, n_i2l, m_i2l, n_l2i, lN_add, lN_mul, lN_sub, l_div, l_rem, l_eq0, lc_lt, lc_gt, lc_eq, l_lt, l_eq, l_ltm, ml_ltn, ml_ltm, l_eqm, ml_eqn, ml_eqm, ls_1, ls_2, ls_3, ls_4, ls_5, ls_6, ls_7, ls_8, ls_10, ls_11, ls_12, ls_13, ls_14, ls_15, ls_16, ls_17, ob_0, ob_9, rf_0, rf_9, q, jl, u5, u6, hlt, g1, k1]
        · have e2 : h = R.length := by omega
          subst e1 e2
          refine ⟨R, W, ?_, sW, sp, qr, J, fW⟩
          rw [zR_W [18]]
          simp (disch := omega) only [tt_90, T_90, mx_90, Nat.reduceLT, Nat.reduceLeDiff, Nat.reduceEqDiff, Nat.reduceAdd, Nat.reduceMul, Nat.reduceSub, Nat.reducePow, Nat.reduceMod, Nat.reduceDiv, Nat.reduceBEq, ↓reduceIte, reduceCtorEq, and_true, true_and, and_false, false_and, and_self, zW_eq, zin, zop, zst, fw_ite, fw_K, fw_R, fw_F, fw_C, zBW_s, nth, stL, okL, nlg, ct, ctv, cI, cL, pu, tkC, iniL, pad, eL, Value.category, swK, bz_0, bz_n0, bz_n1, bI_bz, bI_0, bI_t, bI_f, List.headD_cons, decide_true, decide_false, Bool.true_and, Bool.and_true, Bool.false_and, Bool.and_false, Bool.and_self, Bool.not_true, Bool.not_false, Bool.or_false, Bool.false_or, Bool.true_or, Bool.or_true, Bool.or_self, Bool.false_eq_true, rf_45, rf_47, rf_49, rf_50, rf_51, rf_58, rf_63, rf_65, rf_267, rf45, rf50, rf58, rf63, rf267, ob_45, ob_49, ob_50, ob_58, ob_63, ob_267, ln_46, ln_46n, ln_46m, ln_47, ln_47n, ln_48, ln_48n, ln_51, ln_56, ln_57, ln_59, ln_60, ln_61, ln_62, ln_64, ln_64n, ln_65, ln_268, ln_269, ln_270, ln_270n, ln_271, ln_271n, ln_272, ln_272n, ln_272m, ln_273, ln_274, ln_275, ln_276, ln_277, ln_278, ln_278n, ln_279, ln_280, ln_281, ln_282, ln_283, ln_283n, ln_284, ln_285, ln_286, ln_286n, ln_287, ln_287n, ln_288, ln_289, ln_289n, gF_sF, gF_sG, gF_sI, gF_sJ, gF_sP, gF_sR, gF_sL, gG_sF, gG_sG, gG_sI, gG_sJ, gG_sP, gG_sR, gG_sL, gI_sF, gI_sG, gI_sI, gI_sJ, gI_sP, gI_sR, gI_sL, gJ_sF, gJ_sG, gJ_sI, gJ_sJ, gJ_sP, gJ_sR, gJ_sL, gP_sF, gP_sG, gP_sI, gP_sJ, gP_sP, gP_sR, gP_sL, inB_n, inC_n, iX_n, nI_add, pk_mul, pk_sub, n_and, n_or, n_xor, n_one, n_ush, n_shr, n_div, n_rem, n_ltm, m_ltn, m_ltm, n_eqm, m_eqn, m_eqm, n_lt, n_eq, n_eq0, n_addm, n_i2l, m_i2l, n_l2i, lN_add, lN_mul, lN_sub, l_div, l_rem, l_eq0, lc_lt, lc_gt, lc_eq, l_lt, l_eq, l_ltm, ml_ltn, ml_ltm, l_eqm, ml_eqn, ml_eqm, ls_1, ls_2, ls_3, ls_4, ls_5, ls_6, ls_7, ls_8, ls_10, ls_11, ls_12, ls_13, ls_14, ls_15, ls_16, ls_17, ob_0, ob_9, rf_0, rf_9, q, Nat.lt_irrefl, u5, u6]
  obtain ⟨R, w', k1, k2, k3, k4, k5, k6⟩ := lp 32768 [] 0 0 w2 jk rfl (Nat.zero_le _) (Nat.le_refl _) c2 sp2 (QB.nil _ _ _) (jv_nil _ _ _) c3
  refine ⟨R, w', ?_, k2, k4, k5.1, jv_end k5, k3.1, k3.2.1, hS1.tr (k6.scr ab'), fun k q3 q4 q7 q8 => (k6.2 k).trans (pk k q3 q4 q7 q8)⟩
  have k1 : zR 90 18 [.ref 58, .int (nI bits), .int (nI Q.length), .int (nI 0), .int (nI 0), jk] [] w2 = some (none, w') := k1
  rw [zE_W [18]]
  simp (disch := omega) only [tt_90, T_90, mx_90, Nat.reduceLT, Nat.reduceLeDiff, Nat.reduceEqDiff, Nat.reduceAdd, Nat.reduceMul, Nat.reduceSub, Nat.reducePow, Nat.reduceMod, Nat.reduceDiv, Nat.reduceBEq, ↓reduceIte, reduceCtorEq, and_true, true_and, and_false, false_and, and_self, zW_eq, zin, zop, zst, fw_ite, fw_K, fw_R, fw_F, fw_C, zBW_s, nth, stL, okL, nlg, ct, ctv, cI, cL, pu, tkC, iniL, pad, eL, Value.category, swK, bz_0, bz_n0, bz_n1, bI_bz, bI_0, bI_t, bI_f, List.headD_cons, decide_true, decide_false, Bool.true_and, Bool.and_true, Bool.false_and, Bool.and_false, Bool.and_self, Bool.not_true, Bool.not_false, Bool.or_false, Bool.false_or, Bool.true_or, Bool.or_true, Bool.or_self, Bool.false_eq_true, rf_45, rf_47, rf_49, rf_50, rf_51, rf_58, rf_63, rf_65, rf_267, rf45, rf50, rf58, rf63, rf267, ob_45, ob_49, ob_50, ob_58, ob_63, ob_267, ln_46, ln_46n, ln_46m, ln_47, ln_47n, ln_48, ln_48n, ln_51, ln_56, ln_57, ln_59, ln_60, ln_61, ln_62, ln_64, ln_64n, ln_65, ln_268, ln_269, ln_270, ln_270n, ln_271, ln_271n, ln_272, ln_272n, ln_272m, ln_273, ln_274, ln_275, ln_276, ln_277, ln_278, ln_278n, ln_279, ln_280, ln_281, ln_282, ln_283, ln_283n, ln_284, ln_285, ln_286, ln_286n, ln_287, ln_287n, ln_288, ln_289, ln_289n, gF_sF, gF_sG, gF_sI, gF_sJ, gF_sP, gF_sR, gF_sL, gG_sF, gG_sG, gG_sI, gG_sJ, gG_sP, gG_sR, gG_sL, gI_sF, gI_sG, gI_sI, gI_sJ, gI_sP, gI_sR, gI_sL, gJ_sF, gJ_sG, gJ_sI, gJ_sJ, gJ_sP, gJ_sR, gJ_sL, gP_sF, gP_sG, gP_sI, gP_sJ, gP_sP, gP_sR, gP_sL, inB_n, inC_n, iX_n, nI_add, pk_mul, pk_sub, n_and, n_or, n_xor, n_one, n_ush, n_shr, n_div, n_rem, n_ltm, m_ltn, m_ltm, n_eqm, m_eqn, m_eqm, n_lt, n_eq, n_eq0, n_addm, n_i2l, m_i2l, n_l2i, lN_add, lN_mul, lN_sub, l_div, l_rem, l_eq0, lc_lt, lc_gt, lc_eq, l_lt, l_eq, l_ltm, ml_ltn, ml_ltm, l_eqm, ml_eqn, ml_eqm, ls_1, ls_2, ls_3, ls_4, ls_5, ls_6, ls_7, ls_8, ls_10, ls_11, ls_12, ls_13, ls_14, ls_15, ls_16, ls_17, ob_0, ob_9, rf_0, rf_9, s6, ts, c1, k1]
