/-! ===== ways: the class ===== -/
theorem opS_top {sc : Sg} (g : Gd sc) {p lim m : Nat} (h : ¬ opS sc p lim / 2 ^ m = 0) : m < 14 + sc.1 4 := by
  by_cases z : m < 14 + sc.1 4
  · exact z
  · exfalso
    apply h
    apply Nat.eq_of_testBit_eq
    intro i
    rw [Nat.testBit_div_two_pow, Nat.zero_testBit]
    by_cases y : i + m < 28
    · exact opS_no g y (Or.inr (by omega))
    · exact Nat.testBit_lt_two_pow (Nat.lt_of_lt_of_le (opS_lt g) (Nat.pow_le_pow_right (by decide) (by omega)))
def MW : Nat := 1000000007
/-- a row of counts -/
def RtC (sc : Sg) (c : Nat) (R : Nat → Nat) (w : Wd) : Prop := ∀ p, p < 2 ^ sc.1 4 → gI w c p = nI (R p)
theorem aSm_s {sc : Sg} {lim : Nat} {F : Nat → Option Nat} {q e p m : Nat} : aSm sc lim F q e p (m + 1) = aSm sc lim F q e p m + (if ((opS sc q lim).testBit m && decide (q ^^^ flS sc m = p)) = true then nwN sc lim F e q else 0) := rfl
set_option maxHeartbeats 4000000 in
theorem t_passRoutesOn {sc : Sg} (g : Gd sc) {lim a b c B : Nat} {Q : Qu} {h i : Nat} {w : Wd} (F : Nat → Option Nat) (ab : AB a b) (s : SrC sc lim 0 a b Q h w) (qb : QB sc lim B Q) (hB : B ≤ 262144) (hlim : lim < 2 ^ 31) (hca : c ≠ a) (hcb : c ≠ b) (hc58 : c ≠ 58) (hc9 : 9 ≤ c) (lc : lnA c 0 = some 16384) (hi : i < Q.length) (R : Nat → Nat) (hR : RtC sc c R w) (hRM : ∀ p, R p < MW) (hq : R (qa Q i).1 = nwN sc lim F (qa Q i).2 (qa Q i).1 % MW) : ∃ w', zE 85 [.ref 58, .int (nI (qa Q i).1), .ref c] w = some (none, w') ∧ RtC sc c (fun p => if qd Q p = some ((qa Q i).2 + 1) then (R p + aSm sc lim F (qa Q i).1 (qa Q i).2 p 28) % MW else R p) w' ∧ SmO (fun k => k = c) w w' := by
  obtain ⟨hp, hl, hd⟩ := qb.hd hi
  have h16 := p14 g
  have hlen := qb.len14 g
  have hqd := qd_qa qb.1 hi
  generalize (qa Q i).1 = q at *
  generalize (qa Q i).2 = e at *
  have q16 : q < 16384 := by omega
  have la := ab.la
  have ho := opS_lt g (p := q) (lim := lim)
  have keep : ∀ W, SmO (fun k => k = c) w W → SrC sc lim 0 a b Q h W := by
    intro W hS
    obtain ⟨s0, s3, s4, s1, s2, s5, s6, sd, sq⟩ := s
    have eP := hS.2 (Ne.symm hc58)
    have e58 := (hS.1 58 (Ne.symm hc58)).1
    exact ⟨s0.fr hS (fun k k1 k2 => by omega), (eP 3).trans s3, (eP 4).trans s4, (e58 1).trans s1, (e58 2).trans s2, (e58 5).trans s5, (e58 6).trans s6, fun p hp => by rw [(hS.1 a (Ne.symm hca)).2.2.1]; exact sd p hp, fun i hi => by rw [(hS.1 b (Ne.symm hcb)).2.2.1]; exact sq i hi⟩
  have lp : ∀ f m W X6, m + f = 28 → RtC sc c (fun p => if qd Q p = some (e + 1) then (R p + aSm sc lim F q e p m) % MW else R p) W → SmO (fun k => k = c) w W → ∃ w', zR 85 26 [.ref 58, .int (nI q), .ref c, .int (nI (e + 1)), .int (nI (opS sc q lim)), .int (nI m), X6] [] W = some (none, w') ∧ RtC sc c (fun p => if qd Q p = some (e + 1) then (R p + aSm sc lim F q e p 28) % MW else R p) w' ∧ SmO (fun k => k = c) w w' := by
    intro f
    induction f with
    | zero =>
      intro m W X6 hm hW hS
      have hm : m = 28 := by omega
      subst hm
      refine ⟨W, ?_, hW, hS⟩
      rw [zR_W [26]]
      simp (disch := omega) only [tt_85, T_85, mx_85, Nat.reduceLT, Nat.reduceLeDiff, Nat.reduceEqDiff, Nat.reduceAdd, Nat.reduceMul, Nat.reduceSub, Nat.reducePow, Nat.reduceMod, Nat.reduceDiv, Nat.reduceBEq, ↓reduceIte, reduceCtorEq, and_true, true_and, and_false, false_and, and_self, zW_eq, zin, zop, zst, fw_ite, fw_K, fw_R, fw_F, fw_C, zBW_s, nth, stL, okL, nlg, ct, ctv, cI, cL, pu, tkC, iniL, pad, eL, Value.category, swK, bz_0, bz_n0, bz_n1, bI_bz, bI_0, bI_t, bI_f, List.headD_cons, decide_true, decide_false, Bool.true_and, Bool.and_true, Bool.false_and, Bool.and_false, Bool.and_self, Bool.not_true, Bool.not_false, Bool.or_false, Bool.false_or, Bool.true_or, Bool.or_true, Bool.or_self, Bool.false_eq_true, rf_45, rf_47, rf_49, rf_50, rf_51, rf_58, rf_63, rf_65, rf_267, rf45, rf50, rf58, rf63, rf267, ob_45, ob_49, ob_50, ob_58, ob_63, ob_267, ln_46, ln_46n, ln_46m, ln_47, ln_47n, ln_48, ln_48n, ln_51, ln_56, ln_57, ln_59, ln_60, ln_61, ln_62, ln_64, ln_64n, ln_65, ln_268, ln_269, ln_270, ln_270n, ln_271, ln_271n, ln_272, ln_272n, ln_272m, ln_273, ln_274, ln_275, ln_276, ln_277, ln_278, ln_278n, ln_279, ln_280, ln_281, ln_282, ln_283, ln_283n, ln_284, ln_285, ln_286, ln_286n, ln_287, ln_287n, ln_288, ln_289, ln_289n, gF_sF, gF_sG, gF_sI, gF_sJ, gF_sP, gF_sR, gF_sL, gG_sF, gG_sG, gG_sI, gG_sJ, gG_sP, gG_sR, gG_sL, gI_sF, gI_sG, gI_sI, gI_sJ, gI_sP, gI_sR, gI_sL, gJ_sF, gJ_sG, gJ_sI, gJ_sJ, gJ_sP, gJ_sR, gJ_sL, gP_sF, gP_sG, gP_sI, gP_sJ, gP_sP, gP_sR, gP_sL, inB_n, inC_n, iX_n, nI_add, pk_mul, pk_sub, n_and, n_or, n_xor, n_one, n_ush, n_shr, n_div, n_rem, n_ltm, m_ltn, m_ltm, n_eqm, m_eqn, m_eqm, n_lt, n_eq, n_eq0, n_addm, n_i2l, m_i2l, n_l2i, lN_add, lN_mul, lN_sub, l_div, l_rem, l_eq0, lc_lt, lc_gt, lc_eq, l_lt, l_eq, l_ltm, ml_ltn, ml_ltm, l_eqm, ml_eqn, ml_eqm, ls_1, ls_2, ls_3, ls_4, ls_5, ls_6, ls_7, ls_8, ls_10, ls_11, ls_12, ls_13, ls_14, ls_15, ls_16, ls_17, ob_0, ob_9, rf_0, rf_9]
    | succ f ih =>
      intro m W X6 hm hW hS
      have m28 : m < 28 := by omega
      have hdv : opS sc q lim / 2 ^ m < 2 ^ 28 := div_lt31 ho
      by_cases hz : opS sc q lim / 2 ^ m = 0
      · refine ⟨W, ?_, ?_, hS⟩
        · rw [zR_W [26]]
          simp (disch := omega) only [tt_85, T_85, mx_85, Nat.reduceLT, Nat.reduceLeDiff, Nat.reduceEqDiff, Nat.reduceAdd, Nat.reduceMul, Nat.reduceSub, Nat.reducePow, Nat.reduceMod, Nat.reduceDiv, Nat.reduceBEq, ↓reduceIte, reduceCtorEq, and_true, true_and, and_false, false_and, and_self, zW_eq, zin, zop, zst, fw_ite, fw_K, fw_R, fw_F, fw_C, zBW_s, nth, stL, okL, nlg, ct, ctv, cI, cL, pu, tkC, iniL, pad, eL, Value.category, swK, bz_0, bz_n0, bz_n1, bI_bz, bI_0, bI_t, bI_f, List.headD_cons, decide_true, decide_false, Bool.true_and, Bool.and_true, Bool.false_and, Bool.and_false, Bool.and_self, Bool.not_true, Bool.not_false, Bool.or_false, Bool.false_or, Bool.true_or, Bool.or_true, Bool.or_self, Bool.false_eq_true, rf_45, rf_47, rf_49, rf_50, rf_51, rf_58, rf_63, rf_65, rf_267, rf45, rf50, rf58, rf63, rf267, ob_45, ob_49, ob_50, ob_58, ob_63, ob_267, ln_46, ln_46n, ln_46m, ln_47, ln_47n, ln_48, ln_48n, ln_51, ln_56, ln_57, ln_59, ln_60, ln_61, ln_62, ln_64, ln_64n, ln_65, ln_268, ln_269, ln_270, ln_270n, ln_271, ln_271n, ln_272, ln_272n, ln_272m, ln_273, ln_274, ln_275, ln_276, ln_277, ln_278, ln_278n, ln_279, ln_280, ln_281, ln_282, ln_283, ln_283n, ln_284, ln_285, ln_286, ln_286n, ln_287, ln_287n, ln_288, ln_289, ln_289n, gF_sF, gF_sG, gF_sI, gF_sJ, gF_sP, gF_sR, gF_sL, gG_sF, gG_sG, gG_sI, gG_sJ, gG_sP, gG_sR, gG_sL, gI_sF, gI_sG, gI_sI, gI_sJ, gI_sP, gI_sR, gI_sL, gJ_sF, gJ_sG, gJ_sI, gJ_sJ, gJ_sP, gJ_sR, gJ_sL, gP_sF, gP_sG, gP_sI, gP_sJ, gP_sP, gP_sR, gP_sL, inB_n, inC_n, iX_n, nI_add, pk_mul, pk_sub, n_and, n_or, n_xor, n_one, n_ush, n_shr, n_div, n_rem, n_ltm, m_ltn, m_ltm, n_eqm, m_eqn, m_eqm, n_lt, n_eq, n_eq0, n_addm, n_i2l, m_i2l, n_l2i, lN_add, lN_mul, lN_sub, l_div, l_rem, l_eq0, lc_lt, lc_gt, lc_eq, l_lt, l_eq, l_ltm, ml_ltn, ml_ltm, l_eqm, ml_eqn, ml_eqm, ls_1, ls_2, ls_3, ls_4, ls_5, ls_6, ls_7, ls_8, ls_10, ls_11, ls_12, ls_13, ls_14, ls_15, ls_16, ls_17, ob_0, ob_9, rf_0, rf_9, m28, hz]
        · intro p hp
          dsimp only
          rw [aSm_top g (by omega) hz]
          exact hW p hp
      · have sW := keep W hS
        have s3 := sW.2.1
        have hfl : zE 63 [.ref 0, .int (nI m)] W = some (some (.int (nI (flS sc m))), W) := by
          refine t_flip sW.1 g ?_
          have := opS_top g hz
          by_cases z : m < 14
          · exact Or.inl z
          · exact Or.inr ⟨by omega, by omega⟩
        cases hb : (opS sc q lim).testBit m with
        | false =>
          have ea : ∀ p, aSm sc lim F q e p (m + 1) = aSm sc lim F q e p m := fun p => by rw [aSm_s, hb]; rfl
          obtain ⟨w', e1, e2⟩ := ih (m + 1) W (.int (nI (q ^^^ flS sc m))) (by omega) (fun p hp => by dsimp only; rw [ea]; exact hW p hp) hS
          refine ⟨w', ?_, e2⟩
          rw [zR_W [26]]
          simp (disch := omega) only [tt_85, T_85, mx_85, Nat.reduceLT, Nat.reduceLeDiff, Nat.reduceEqDiff, Nat.reduceAdd, Nat.reduceMul, Nat.reduceSub, Nat.reducePow, Nat.reduceMod, Nat.reduceDiv, Nat.reduceBEq, ↓reduceIte, reduceCtorEq, and_true, true_and, and_false, false_and, and_self, zW_eq, zin, zop, zst, fw_ite, fw_K, fw_R, fw_F, fw_C, zBW_s, nth, stL, okL, nlg, ct, ctv, cI, cL, pu, tkC, iniL, pad, eL, Value.category, swK, bz_0, bz_n0, bz_n1, bI_bz, bI_0, bI_t, bI_f, List.headD_cons, decide_true, decide_false, Bool.true_and, Bool.and_true, Bool.false_and, Bool.and_false, Bool.and_self, Bool.not_true, Bool.not_false, Bool.or_false, Bool.false_or, Bool.true_or, Bool.or_true, Bool.or_self, Bool.false_eq_true, rf_45, rf_47, rf_49, rf_50, rf_51, rf_58, rf_63, rf_65, rf_267, rf45, rf50, rf58, rf63, rf267, ob_45, ob_49, ob_50, ob_58, ob_63, ob_267, ln_46, ln_46n, ln_46m, ln_47, ln_47n, ln_48, ln_48n, ln_51, ln_56, ln_57, ln_59, ln_60, ln_61, ln_62, ln_64, ln_64n, ln_65, ln_268, ln_269, ln_270, ln_270n, ln_271, ln_271n, ln_272, ln_272n, ln_272m, ln_273, ln_274, ln_275, ln_276, ln_277, ln_278, ln_278n, ln_279, ln_280, ln_281, ln_282, ln_283, ln_283n, ln_284, ln_285, ln_286, ln_286n, ln_287, ln_287n, ln_288, ln_289, ln_289n, gF_sF, gF_sG, gF_sI, gF_sJ, gF_sP, gF_sR, gF_sL, gG_sF, gG_sG, gG_sI, gG_sJ, gG_sP, gG_sR, gG_sL, gI_sF, gI_sG, gI_sI, gI_sJ, gI_sP, gI_sR, gI_sL, gJ_sF, gJ_sG, gJ_sI, gJ_sJ, gJ_sP, gJ_sR, gJ_sL, gP_sF, gP_sG, gP_sI, gP_sJ, gP_sP, gP_sR, gP_sL, inB_n, inC_n, iX_n, nI_add, pk_mul, pk_sub, n_and, n_or, n_xor, n_one, n_ush, n_shr, n_div, n_rem, n_ltm, m_ltn, m_ltm, n_eqm, m_eqn, m_eqm, n_lt, n_eq, n_eq0, n_addm, n_i2l, m_i2l, n_l2i, lN_add, lN_mul, lN_sub, l_div, l_rem, l_eq0, lc_lt, lc_gt, lc_eq, l_lt, l_eq, l_ltm, ml_ltn, ml_ltm, l_eqm, ml_eqn, ml_eqm, ls_1, ls_2, ls_3, ls_4, ls_5, ls_6, ls_7, ls_8, ls_10, ls_11, ls_12, ls_13, ls_14, ls_15, ls_16, ls_17, ob_0, ob_9, rf_0, rf_9, m28, hz, hfl, bitV, hb, e1]
        | true =>
          have ci := ch_inv g hp hl m28 hb
          have o16 : q ^^^ flS sc m < 16384 := by omega
          have rd := sW.2.2.2.2.2.2.2.1 _ ci.1
          have ea : ∀ p, p ≠ q ^^^ flS sc m → aSm sc lim F q e p (m + 1) = aSm sc lim F q e p m := fun p hne => by
            rw [aSm_s, hb, decide_eq_false (Ne.symm hne)]
            rfl
          by_cases y : qd Q (q ^^^ flS sc m) = some (e + 1)
          · rw [y] at rd
            have rd : gI W a (q ^^^ flS sc m) = nI (e + 1) := rd
            have ro := hW _ ci.1
            dsimp only at ro
            rw [if_pos y] at ro
            have rq := hW q hp
            dsimp only at rq
            rw [if_neg (by rw [hqd]; intro z; have := Option.some.inj z; omega), hq] at rq
            have b1 := Nat.mod_lt (R (q ^^^ flS sc m) + aSm sc lim F q e (q ^^^ flS sc m) m) (show 0 < MW by decide)
            have b2 := Nat.mod_lt (nwN sc lim F e q) (show 0 < MW by decide)
            have hM : MW = 1000000007 := rfl
            have ev : ((R (q ^^^ flS sc m) + aSm sc lim F q e (q ^^^ flS sc m) m) % MW + nwN sc lim F e q % MW) % 1000000007 = (R (q ^^^ flS sc m) + aSm sc lim F q e (q ^^^ flS sc m) (m + 1)) % MW := by
              rw [aSm_s, hb, decide_eq_true rfl, ← hM, ← Nat.add_mod]
              show _ = (R (q ^^^ flS sc m) + (aSm sc lim F q e (q ^^^ flS sc m) m + nwN sc lim F e q)) % MW
              rw [Nat.add_assoc]
            obtain ⟨w', e1, e2⟩ := ih (m + 1) (sI W c (q ^^^ flS sc m) (nI ((R (q ^^^ flS sc m) + aSm sc lim F q e (q ^^^ flS sc m) (m + 1)) % MW))) (.int (nI (q ^^^ flS sc m))) (by omega) (fun p hp2 => by
              rw [gI_sI]
              by_cases x : p = q ^^^ flS sc m
              · rw [if_pos ⟨rfl, x⟩, x]
                dsimp only
                rw [if_pos y]
              · rw [if_neg (fun z => x z.2)]
                dsimp only
                rw [ea p x]
                exact hW p hp2) (hS.tr (SmO.sI rfl))
            generalize (R (q ^^^ flS sc m) + aSm sc lim F q e (q ^^^ flS sc m) m) % MW = u1 at *
            generalize nwN sc lim F e q % MW = u2 at *
            refine ⟨w', ?_, e2⟩
            rw [zR_W [26]]
            simp (disch := omega) only [tt_85, T_85, mx_85, Nat.reduceLT, Nat.reduceLeDiff, Nat.reduceEqDiff, Nat.reduceAdd, Nat.reduceMul, Nat.reduceSub, Nat.reducePow, Nat.reduceMod, Nat.reduceDiv, Nat.reduceBEq, ↓reduceIte, reduceCtorEq, and_true, true_and, and_false, false_and, and_self, zW_eq, zin, zop, zst, fw_ite, fw_K, fw_R, fw_F, fw_C, zBW_s, nth, stL, okL, nlg, ct, ctv, cI, cL, pu, tkC, iniL, pad, eL, Value.category, swK, bz_0, bz_n0, bz_n1, bI_bz, bI_0, bI_t, bI_f, List.headD_cons, decide_true, decide_false, Bool.true_and, Bool.and_true, Bool.false_and, Bool.and_false, Bool.and_self, Bool.not_true, Bool.not_false, Bool.or_false, Bool.false_or, Bool.true_or, Bool.or_true, Bool.or_self, Bool.false_eq_true, rf_45, rf_47, rf_49, rf_50, rf_51, rf_58, rf_63, rf_65, rf_267, rf45, rf50, rf58, rf63, rf267, ob_45, ob_49, ob_50, ob_58, ob_63, ob_267, ln_46, ln_46n, ln_46m, ln_47, ln_47n, ln_48, ln_48n, ln_51, ln_56, ln_57, ln_59, ln_60, ln_61, ln_62, ln_64, ln_64n, ln_65, ln_268, ln_269, ln_270, ln_270n, ln_271, ln_271n, ln_272, ln_272n, ln_272m, ln_273, ln_274, ln_275, ln_276, ln_277, ln_278, ln_278n, ln_279, ln_280, ln_281, ln_282, ln_283, ln_283n, ln_284, ln_285, ln_286, ln_286n, ln_287, ln_287n, ln_288, ln_289, ln_289n, gF_sF, gF_sG, gF_sI, gF_sJ, gF_sP, gF_sR, gF_sL, gG_sF, gG_sG, gG_sI, gG_sJ, gG_sP, gG_sR, gG_sL, gI_sF, gI_sG, gI_sI, gI_sJ, gI_sP, gI_sR, gI_sL, gJ_sF, gJ_sG, gJ_sI, gJ_sJ, gJ_sP, gJ_sR, gJ_sL, gP_sF, gP_sG, gP_sI, gP_sJ, gP_sP, gP_sR, gP_sL, inB_n, inC_n, iX_n, nI_add, pk_mul, pk_sub, n_and, n_or, n_xor, n_one, n_ush, n_shr, n_div, n_rem, n_ltm, m_ltn, m_ltm, n_eqm, m_eqn, m_eqm, n_lt, n_eq, n_eq0, n_addm, n_i2l, m_i2l, n_l2i, lN_add, lN_mul, lN_sub, l_div, l_rem, l_eq0, lc_lt, lc_gt, lc_eq, l_lt, l_eq, l_ltm, ml_ltn, ml_ltm, l_eqm, ml_eqn, ml_eqm, ls_1, ls_2, ls_3, ls_4, ls_5, ls_6, ls_7, ls_8, ls_10, ls_11, ls_12, ls_13, ls_14, ls_15, ls_16, ls_17, ob_0, ob_9, rf_0, rf_9, m28, hz, hfl, bitV, hb, s3, la, o16, rd, lc, ro, q16, rq, ev, e1]
          · obtain ⟨w', e1, e2⟩ := ih (m + 1) W (.int (nI (q ^^^ flS sc m))) (by omega) (fun p hp2 => by
              dsimp only
              by_cases x : p = q ^^^ flS sc m
              · have := hW p hp2
                dsimp only at this
                rw [x] at this ⊢
                rw [if_neg y] at this ⊢
                exact this
              · rw [ea p x]; exact hW p hp2) hS
            refine ⟨w', ?_, e2⟩
            rw [zR_W [26]]
            cases hqo : qd Q (q ^^^ flS sc m) with
            | none =>
              rw [hqo] at rd
              have rd : gI W a (q ^^^ flS sc m) = mI 1 := rd
              simp (disch := omega) only [tt_85, T_85, mx_85, Nat.reduceLT, Nat.reduceLeDiff, Nat.reduceEqDiff, Nat.reduceAdd, Nat.reduceMul, Nat.reduceSub, Nat.reducePow, Nat.reduceMod, Nat.reduceDiv, Nat.reduceBEq, ↓reduceIte, reduceCtorEq, and_true, true_and, and_false, false_and, and_self, zW_eq, zin, zop, zst, fw_ite, fw_K, fw_R, fw_F, fw_C, zBW_s, nth, stL, okL, nlg, ct, ctv, cI, cL, pu, tkC, iniL, pad, eL, Value.category, swK, bz_0, bz_n0, bz_n1, bI_bz, bI_0, bI_t, bI_f, List.headD_cons, decide_true, decide_false, Bool.true_and, Bool.and_true, Bool.false_and, Bool.and_false, Bool.and_self, Bool.not_true, Bool.not_false, Bool.or_false, Bool.false_or, Bool.true_or, Bool.or_true, Bool.or_self, Bool.false_eq_true, rf_45, rf_47, rf_49, rf_50, rf_51, rf_58, rf_63, rf_65, rf_267, rf45, rf50, rf58, rf63, rf267, ob_45, ob_49, ob_50, ob_58, ob_63, ob_267, ln_46, ln_46n, ln_46m, ln_47, ln_47n, ln_48, ln_48n, ln_51, ln_56, ln_57, ln_59, ln_60, ln_61, ln_62, ln_64, ln_64n, ln_65, ln_268, ln_269, ln_270, ln_270n, ln_271, ln_271n, ln_272, ln_272n, ln_272m, ln_273, ln_274, ln_275, ln_276, ln_277, ln_278, ln_278n, ln_279, ln_280, ln_281, ln_282, ln_283, ln_283n, ln_284, ln_285, ln_286, ln_286n, ln_287, ln_287n, ln_288, ln_289, ln_289n, gF_sF, gF_sG, gF_sI, gF_sJ, gF_sP, gF_sR, gF_sL, gG_sF, gG_sG, gG_sI, gG_sJ, gG_sP, gG_sR, gG_sL, gI_sF, gI_sG, gI_sI, gI_sJ, gI_sP, gI_sR, gI_sL, gJ_sF, gJ_sG, gJ_sI, gJ_sJ, gJ_sP, gJ_sR, gJ_sL, gP_sF, gP_sG, gP_sI, gP_sJ, gP_sP, gP_sR, gP_sL, inB_n, inC_n, iX_n, nI_add, pk_mul, pk_sub, n_and, n_or, n_xor, n_one, n_ush, n_shr, n_div, n_rem, n_ltm, m_ltn, m_ltm, n_eqm, m_eqn, m_eqm, n_lt, n_eq, n_eq0, n_addm, n_i2l, m_i2l, n_l2i, lN_add, lN_mul, lN_sub, l_div, l_rem, l_eq0, lc_lt, lc_gt, lc_eq, l_lt, l_eq, l_ltm, ml_ltn, ml_ltm, l_eqm, ml_eqn, ml_eqm, ls_1, ls_2, ls_3, ls_4, ls_5, ls_6, ls_7, ls_8, ls_10, ls_11, ls_12, ls_13, ls_14, ls_15, ls_16, ls_17, ob_0, ob_9, rf_0, rf_9, m28, hz, hfl, bitV, hb, s3, la, o16, rd, e1]
            | some k =>
              have hk : k < 2 ^ 20 := by
                have := (qb.2 _ (qd_mem hqo)).2.2
                have : k < B + Q.length := this
                omega
              rw [hqo] at rd y
              have rd : gI W a (q ^^^ flS sc m) = nI k := rd
              have y : ¬ k = e + 1 := fun z => y (by rw [z])
              simp (disch := omega) only [tt_85, T_85, mx_85, Nat.reduceLT, Nat.reduceLeDiff, Nat.reduceEqDiff, Nat.reduceAdd, Nat.reduceMul, Nat.reduceSub, Nat.reducePow, Nat.reduceMod, Nat.reduceDiv, Nat.reduceBEq, ↓reduceIte, reduceCtorEq, and_true, true_and, and_false, false_and, and_self, zW_eq, zin, zop, zst, fw_ite, fw_K, fw_R, fw_F, fw_C, zBW_s, nth, stL, okL, nlg, ct, ctv, cI, cL, pu, tkC, iniL, pad, eL, Value.category, swK, bz_0, bz_n0, bz_n1, bI_bz, bI_0, bI_t, bI_f, List.headD_cons, decide_true, decide_false, Bool.true_and, Bool.and_true, Bool.false_and, Bool.and_false, Bool.and_self, Bool.not_true, Bool.not_false, Bool.or_false, Bool.false_or, Bool.true_or, Bool.or_true, Bool.or_self, Bool.false_eq_true, rf_45, rf_47, rf_49, rf_50, rf_51, rf_58, rf_63, rf_65, rf_267, rf45, rf50, rf58, rf63, rf267, ob_45, ob_49, ob_50, ob_58, ob_63, ob_267, ln_46, ln_46n, ln_46m, ln_47, ln_47n, ln_48, ln_48n, ln_51, ln_56, ln_57, ln_59, ln_60, ln_61, ln_62, ln_64, ln_64n, ln_65, ln_268, ln_269, ln_270, ln_270n, ln_271, ln_271n, ln_272, ln_272n, ln_272m, ln_273, ln_274, ln_275, ln_276, ln_277, ln_278, ln_278n, ln_279, ln_280, ln_281, ln_282, ln_283, ln_283n, ln_284, ln_285, ln_286, ln_286n, ln_287, ln_287n, ln_288, ln_289, ln_289n, gF_sF, gF_sG, gF_sI, gF_sJ, gF_sP, gF_sR, gF_sL, gG_sF, gG_sG, gG_sI, gG_sJ, gG_sP, gG_sR, gG_sL, gI_sF, gI_sG, gI_sI, gI_sJ, gI_sP, gI_sR, gI_sL, gJ_sF, gJ_sG, gJ_sI, gJ_sJ, gJ_sP, gJ_sR, gJ_sL, gP_sF, gP_sG, gP_sI, gP_sJ, gP_sP, gP_sR, gP_sL, inB_n, inC_n, iX_n, nI_add, pk_mul, pk_sub, n_and, n_or, n_xor, n_one, n_ush, n_shr, n_div, n_rem, n_ltm, m_ltn, m_ltm, n_eqm, m_eqn, m_eqm, n_lt, n_eq, n_eq0, n_addm, n_i2l, m_i2l, n_l2i, lN_add, lN_mul, lN_sub, l_div, l_rem, l_eq0, lc_lt, lc_gt, lc_eq, l_lt, l_eq, l_ltm, ml_ltn, ml_ltm, l_eqm, ml_eqn, ml_eqm, ls_1, ls_2, ls_3, ls_4, ls_5, ls_6, ls_7, ls_8, ls_10, ls_11, ls_12, ls_13, ls_14, ls_15, ls_16, ls_17, ob_0, ob_9, rf_0, rf_9, m28, hz, hfl, bitV, hb, s3, la, o16, rd, y, e1]
  obtain ⟨w', e1, e2⟩ := lp 28 0 w jk rfl (fun p hp => by
    dsimp only
    show gI w c p = nI (if qd Q p = some (e + 1) then R p % MW else R p)
    rw [Nat.mod_eq_of_lt (hRM p)]
    split <;> exact hR p hp) (SmO.rf _ _)
  have hop := t_open (p := q) (lim := lim) s.1 g q16 hlim
  have rd := s.2.2.2.2.2.2.2.1 q hp
  rw [hqd] at rd
  have rd : gI w a q = nI e := rd
  have s3 := s.2.1
  have s1 := s.2.2.2.1
  refine ⟨w', ?_, e2⟩
  rw [zE_W [26]]
  simp (disch := omega) only [tt_85, T_85, mx_85, Nat.reduceLT, Nat.reduceLeDiff, Nat.reduceEqDiff, Nat.reduceAdd, Nat.reduceMul, Nat.reduceSub, Nat.reducePow, Nat.reduceMod, Nat.reduceDiv, Nat.reduceBEq, ↓reduceIte, reduceCtorEq, and_true, true_and, and_false, false_and, and_self, zW_eq, zin, zop, zst, fw_ite, fw_K, fw_R, fw_F, fw_C, zBW_s, nth, stL, okL, nlg, ct, ctv, cI, cL, pu, tkC, iniL, pad, eL, Value.category, swK, bz_0, bz_n0, bz_n1, bI_bz, bI_0, bI_t, bI_f, List.headD_cons, decide_true, decide_false, Bool.true_and, Bool.and_true, Bool.false_and, Bool.and_false, Bool.and_self, Bool.not_true, Bool.not_false, Bool.or_false, Bool.false_or, Bool.true_or, Bool.or_true, Bool.or_self, Bool.false_eq_true, rf_45, rf_47, rf_49, rf_50, rf_51, rf_58, rf_63, rf_65, rf_267, rf45, rf50, rf58, rf63, rf267, ob_45, ob_49, ob_50, ob_58, ob_63, ob_267, ln_46, ln_46n, ln_46m, ln_47, ln_47n, ln_48, ln_48n, ln_51, ln_56, ln_57, ln_59, ln_60, ln_61, ln_62, ln_64, ln_64n, ln_65, ln_268, ln_269, ln_270, ln_270n, ln_271, ln_271n, ln_272, ln_272n, ln_272m, ln_273, ln_274, ln_275, ln_276, ln_277, ln_278, ln_278n, ln_279, ln_280, ln_281, ln_282, ln_283, ln_283n, ln_284, ln_285, ln_286, ln_286n, ln_287, ln_287n, ln_288, ln_289, ln_289n, gF_sF, gF_sG, gF_sI, gF_sJ, gF_sP, gF_sR, gF_sL, gG_sF, gG_sG, gG_sI, gG_sJ, gG_sP, gG_sR, gG_sL, gI_sF, gI_sG, gI_sI, gI_sJ, gI_sP, gI_sR, gI_sL, gJ_sF, gJ_sG, gJ_sI, gJ_sJ, gJ_sP, gJ_sR, gJ_sL, gP_sF, gP_sG, gP_sI, gP_sJ, gP_sP, gP_sR, gP_sL, inB_n, inC_n, iX_n, nI_add, pk_mul, pk_sub, n_and, n_or, n_xor, n_one, n_ush, n_shr, n_div, n_rem, n_ltm, m_ltn, m_ltm, n_eqm, m_eqn, m_eqm, n_lt, n_eq, n_eq0, n_addm, n_i2l, m_i2l, n_l2i, lN_add, lN_mul, lN_sub, l_div, l_rem, l_eq0, lc_lt, lc_gt, lc_eq, l_lt, l_eq, l_ltm, ml_ltn, ml_ltm, l_eqm, ml_eqn, ml_eqm, ls_1, ls_2, ls_3, ls_4, ls_5, ls_6, ls_7, ls_8, ls_10, ls_11, ls_12, ls_13, ls_14, ls_15, ls_16, ls_17, ob_0, ob_9, rf_0, rf_9, s3, la, q16, rd, s1, hop, e1]
