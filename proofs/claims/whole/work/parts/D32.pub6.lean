/-! ===== feed, stands, write ===== -/
theorem i2b_i (x : Int32) : i2bI (i2bI x) = i2bI x := by
  unfold i2bI
  rw [Int8.toInt8_toInt32]
theorem i2b_us {s : Nat} (hs : s ≤ 24) (x : Int32) : i2bI (ushI x (nI s)) = i2bI (shrI x (nI s)) := by
  unfold i2bI
  congr 1
  apply Int8.toBitVec_inj.1
  apply BitVec.eq_of_getLsbD_eq
  intro i hi
  have h1 : (ushI x (nI s)).toBitVec.getLsbD i = x.toBitVec.getLsbD (s + i) := by
    unfold ushI
    show (x.toUInt32 >>> ((nI s).toUInt32 &&& Int32.toUInt32 31)).toBitVec.getLsbD i = x.toUInt32.toBitVec.getLsbD (s + i)
    rw [UInt32.toBitVec_shiftRight]
    show (x.toUInt32.toBitVec >>> (((nI s).toUInt32 &&& Int32.toUInt32 31).toBitVec % 32).toNat).getLsbD i = _
    rw [n_su s (by omega), BitVec.getLsbD_ushiftRight]
  have h2 : (shrI x (nI s)).toBitVec.getLsbD i = x.toBitVec.getLsbD (s + i) := by
    unfold shrI
    rw [Int32.toBitVec_shiftRight]
    show (x.toBitVec.sshiftRight ((nI s &&& 31).toBitVec.smod 32).toNat).getLsbD i = _
    rw [n_sl s (by omega), BitVec.getLsbD_sshiftRight]
    simp [show ¬ 32 ≤ i by omega, show s + i < 32 by omega]
  have h3 : i < 32 := by omega
  first
    | (show (((ushI x (nI s)).toBitVec).signExtend 8).getLsbD i = ((shrI x (nI s)).toBitVec.signExtend 8).getLsbD i; rw [BitVec.getLsbD_signExtend, BitVec.getLsbD_signExtend, if_pos h3, if_pos h3, h1, h2])
    | (show (((ushI x (nI s)).toBitVec).setWidth 8).getLsbD i = ((shrI x (nI s)).toBitVec.setWidth 8).getLsbD i; rw [BitVec.getLsbD_setWidth, BitVec.getLsbD_setWidth, h1, h2])
def byA (x : Int32) (s : Nat) : Int32 := i2bI (shrI x (nI s))
/-- four bytes behind the tape c, whose length is the field j of k -/
def wF4 (c k j t : Nat) (x : Int32) (w : Wd) : Wd := sF (sI (sF (sI (sF (sI (sF (sI w c t (byA x 24)) k j (nI (t + 1))) c (t + 1) (byA x 16)) k j (nI (t + 2))) c (t + 2) (byA x 8)) k j (nI (t + 3))) c (t + 3) (byA x 0)) k j (nI (t + 4))
theorem wF4_F (c k j t : Nat) (x : Int32) (w : Wd) : gF (wF4 c k j t x w) k j = nI (t + 4) := by
  unfold wF4
  rw [gF_sF, if_pos ⟨rfl, rfl⟩]
theorem wF4_Fn {c k j t a b : Nat} {x : Int32} {w : Wd} (h : ¬ (a = k ∧ b = j)) : gF (wF4 c k j t x w) a b = gF w a b := by
  unfold wF4
  simp only [gF_sF, gF_sI, if_neg h]
theorem wF4_I (c k j t : Nat) (x : Int32) (w : Wd) (i : Nat) : gI (wF4 c k j t x w) c i = if i = t then byA x 24 else if i = t + 1 then byA x 16 else if i = t + 2 then byA x 8 else if i = t + 3 then byA x 0 else gI w c i := by
  unfold wF4
  simp only [gI_sF, gI_sI, true_and]
  by_cases h0 : i = t
  · subst h0; simp
  · by_cases h1 : i = t + 1
    · subst h1; simp
    · by_cases h2 : i = t + 2
      · subst h2; simp
      · by_cases h3 : i = t + 3
        · subst h3; simp
        · simp [h0, h1, h2, h3]
theorem wF4_In {c k j t a : Nat} {x : Int32} {w : Wd} (h : a ≠ c) (i : Nat) : gI (wF4 c k j t x w) a i = gI w a i := by
  unfold wF4
  simp only [gI_sF, gI_sI]
  simp [h]
theorem wF4_S (c k j t : Nat) (x : Int32) (w : Wd) : SmO (fun a => a = c ∨ a = k) w (wF4 c k j t x w) := by
  unfold wF4
  exact ((((((((SmO.sI (Or.inl rfl)).tr (SmO.sF (Or.inr rfl))).tr (SmO.sI (Or.inl rfl))).tr (SmO.sF (Or.inr rfl))).tr (SmO.sI (Or.inl rfl))).tr (SmO.sF (Or.inr rfl))).tr (SmO.sI (Or.inl rfl))).tr (SmO.sF (Or.inr rfl)))
theorem m8 : nI 0 + mI 8 = mI 8 := by decide +kernel
theorem t_tapeNumber {t : Nat} {w : Wd} (x : Int32) (ht : t + 4 ≤ 1600) (h : gF w 45 1 = nI t) : zE 100 [.ref 45, .int x] w = some (none, wF4 46 45 1 t x w) := by
  have b0 : t < 1600 := by omega
  have b1 : t + 1 < 1600 := by omega
  have b2 : t + 2 < 1600 := by omega
  have b3 : t + 3 < 1600 := by omega
  have u0 := i2b_us (s := 0) (by decide) x
  have u1 := i2b_us (s := 8) (by decide) x
  have u2 := i2b_us (s := 16) (by decide) x
  have u3 := i2b_us (s := 24) (by decide) x
  rw [zE_W []]
  unfold wF4 byA
  simp (disch := omega) only [tt_100, T_100, mx_100, Nat.reduceLT, Nat.reduceLeDiff, Nat.reduceEqDiff, Nat.reduceAdd, Nat.reduceMul, Nat.reduceSub, Nat.reducePow, Nat.reduceMod, Nat.reduceDiv, Nat.reduceBEq, ↓reduceIte, reduceCtorEq, and_true, true_and, and_false, false_and, and_self, zW_eq, zin, zop, zst, fw_ite, fw_K, fw_R, fw_F, fw_C, zBW_s, nth, stL, okL, nlg, ct, ctv, cI, cL, pu, tkC, iniL, pad, eL, Value.category, swK, bz_0, bz_n0, bz_n1, bI_bz, bI_0, bI_t, bI_f, List.headD_cons, decide_true, decide_false, Bool.true_and, Bool.and_true, Bool.false_and, Bool.and_false, Bool.and_self, Bool.not_true, Bool.not_false, Bool.or_false, Bool.false_or, Bool.true_or, Bool.or_true, Bool.or_self, Bool.false_eq_true, rf_45, rf_47, rf_49, rf_50, rf_51, rf_58, rf_63, rf_65, rf_267, rf45, rf50, rf58, rf63, rf267, ob_45, ob_49, ob_50, ob_58, ob_63, ob_267, ln_46, ln_46n, ln_46m, ln_47, ln_47n, ln_48, ln_48n, ln_51, ln_56, ln_57, ln_59, ln_60, ln_61, ln_62, ln_64, ln_64n, ln_65, ln_268, ln_269, ln_270, ln_270n, ln_271, ln_271n, ln_272, ln_272n, ln_272m, ln_273, ln_274, ln_275, ln_276, ln_277, ln_278, ln_278n, ln_279, ln_280, ln_281, ln_282, ln_283, ln_283n, ln_284, ln_285, ln_286, ln_286n, ln_287, ln_287n, ln_288, ln_289, ln_289n, gF_sF, gF_sG, gF_sI, gF_sJ, gF_sP, gF_sR, gF_sL, gG_sF, gG_sG, gG_sI, gG_sJ, gG_sP, gG_sR, gG_sL, gI_sF, gI_sG, gI_sI, gI_sJ, gI_sP, gI_sR, gI_sL, gJ_sF, gJ_sG, gJ_sI, gJ_sJ, gJ_sP, gJ_sR, gJ_sL, gP_sF, gP_sG, gP_sI, gP_sJ, gP_sP, gP_sR, gP_sL, inB_n, inC_n, iX_n, nI_add, pk_mul, pk_sub, n_and, n_or, n_xor, n_one, n_ush, n_shr, n_div, n_rem, n_ltm, m_ltn, m_ltm, n_eqm, m_eqn, m_eqm, n_lt, n_eq, n_eq0, n_addm, n_i2l, m_i2l, n_l2i, lN_add, lN_mul, lN_sub, l_div, l_rem, l_eq0, lc_lt, lc_gt, lc_eq, l_lt, l_eq, l_ltm, ml_ltn, ml_ltm, l_eqm, ml_eqn, ml_eqm, ls_1, ls_2, ls_3, ls_4, ls_5, ls_6, ls_7, ls_8, ls_10, ls_11, ls_12, ls_13, ls_14, ls_15, ls_16, ls_17, ob_0, ob_9, rf_0, rf_9, h, b0, b1, b2, b3, m8, i2b_i, u0, u1, u2, u3, Nat.not_lt_zero, Nat.add_assoc]
theorem t_four {t : Nat} {w : Wd} (x : Int32) (ht : t + 4 ≤ 1600) (h : gF w 267 6 = nI t) : zE 177 [.ref 267, .int x] w = some (none, wF4 272 267 6 t x w) := by
  have b0 : t < 1600 := by omega
  have b1 : t + 1 < 1600 := by omega
  have b2 : t + 2 < 1600 := by omega
  have b3 : t + 3 < 1600 := by omega
  rw [zE_W []]
  unfold wF4 byA
  simp (disch := omega) only [tt_177, T_177, mx_177, Nat.reduceLT, Nat.reduceLeDiff, Nat.reduceEqDiff, Nat.reduceAdd, Nat.reduceMul, Nat.reduceSub, Nat.reducePow, Nat.reduceMod, Nat.reduceDiv, Nat.reduceBEq, ↓reduceIte, reduceCtorEq, and_true, true_and, and_false, false_and, and_self, zW_eq, zin, zop, zst, fw_ite, fw_K, fw_R, fw_F, fw_C, zBW_s, nth, stL, okL, nlg, ct, ctv, cI, cL, pu, tkC, iniL, pad, eL, Value.category, swK, bz_0, bz_n0, bz_n1, bI_bz, bI_0, bI_t, bI_f, List.headD_cons, decide_true, decide_false, Bool.true_and, Bool.and_true, Bool.false_and, Bool.and_false, Bool.and_self, Bool.not_true, Bool.not_false, Bool.or_false, Bool.false_or, Bool.true_or, Bool.or_true, Bool.or_self, Bool.false_eq_true, rf_45, rf_47, rf_49, rf_50, rf_51, rf_58, rf_63, rf_65, rf_267, rf45, rf50, rf58, rf63, rf267, ob_45, ob_49, ob_50, ob_58, ob_63, ob_267, ln_46, ln_46n, ln_46m, ln_47, ln_47n, ln_48, ln_48n, ln_51, ln_56, ln_57, ln_59, ln_60, ln_61, ln_62, ln_64, ln_64n, ln_65, ln_268, ln_269, ln_270, ln_270n, ln_271, ln_271n, ln_272, ln_272n, ln_272m, ln_273, ln_274, ln_275, ln_276, ln_277, ln_278, ln_278n, ln_279, ln_280, ln_281, ln_282, ln_283, ln_283n, ln_284, ln_285, ln_286, ln_286n, ln_287, ln_287n, ln_288, ln_289, ln_289n, gF_sF, gF_sG, gF_sI, gF_sJ, gF_sP, gF_sR, gF_sL, gG_sF, gG_sG, gG_sI, gG_sJ, gG_sP, gG_sR, gG_sL, gI_sF, gI_sG, gI_sI, gI_sJ, gI_sP, gI_sR, gI_sL, gJ_sF, gJ_sG, gJ_sI, gJ_sJ, gJ_sP, gJ_sR, gJ_sL, gP_sF, gP_sG, gP_sI, gP_sJ, gP_sP, gP_sR, gP_sL, inB_n, inC_n, iX_n, nI_add, pk_mul, pk_sub, n_and, n_or, n_xor, n_one, n_ush, n_shr, n_div, n_rem, n_ltm, m_ltn, m_ltm, n_eqm, m_eqn, m_eqm, n_lt, n_eq, n_eq0, n_addm, n_i2l, m_i2l, n_l2i, lN_add, lN_mul, lN_sub, l_div, l_rem, l_eq0, lc_lt, lc_gt, lc_eq, l_lt, l_eq, l_ltm, ml_ltn, ml_ltm, l_eqm, ml_eqn, ml_eqm, ls_1, ls_2, ls_3, ls_4, ls_5, ls_6, ls_7, ls_8, ls_10, ls_11, ls_12, ls_13, ls_14, ls_15, ls_16, ls_17, ob_0, ob_9, rf_0, rf_9, h, b0, b1, b2, b3, m8, i2b_i, Nat.not_lt_zero, Nat.add_assoc]
/-- twenty bytes -/
def wF20 (c k j t : Nat) (a b d e f : Int32) (w : Wd) : Wd := wF4 c k j (t + 16) f (wF4 c k j (t + 12) e (wF4 c k j (t + 8) d (wF4 c k j (t + 4) b (wF4 c k j t a w))))
theorem pr_feed {A : Ab} {w : Wd} (h : Rel A w) (a b d e f : Int32) : Pair 99 176 [.int a, .int b, .int d, .int e, .int f] A w := by
  have hT : MoT A.2.2.1 w := h.2.1.2.2.1.1
  have hB : MoB 0 A.2.2.1 w := h.2.1.2.2.1.2
  have c1 := h.1.1.1
  have m1 := h.2.1.1.1
  have l0 := h.2.2.1
  by_cases q : 1580 < A.1.1
  · have q2 : 1600 < A.1.1 + 20 := by omega
    have e1 : zE 99 [.ref 45, .int a, .int b, .int d, .int e, .int f] w = some (some (.int (mI 1)), w) := by
      rw [zE_W []]
      simp (disch := omega) only [tt_99, T_99, mx_99, Nat.reduceLT, Nat.reduceLeDiff, Nat.reduceEqDiff, Nat.reduceAdd, Nat.reduceMul, Nat.reduceSub, Nat.reducePow, Nat.reduceMod, Nat.reduceDiv, Nat.reduceBEq, ↓reduceIte, reduceCtorEq, and_true, true_and, and_false, false_and, and_self, zW_eq, zin, zop, zst, fw_ite, fw_K, fw_R, fw_F, fw_C, zBW_s, nth, stL, okL, nlg, ct, ctv, cI, cL, pu, tkC, iniL, pad, eL, Value.category, swK, bz_0, bz_n0, bz_n1, bI_bz, bI_0, bI_t, bI_f, List.headD_cons, decide_true, decide_false, Bool.true_and, Bool.and_true, Bool.false_and, Bool.and_false, Bool.and_self, Bool.not_true, Bool.not_false, Bool.or_false, Bool.false_or, Bool.true_or, Bool.or_true, Bool.or_self, Bool.false_eq_true, rf_45, rf_47, rf_49, rf_50, rf_51, rf_58, rf_63, rf_65, rf_267, rf45, rf50, rf58, rf63, rf267, ob_45, ob_49, ob_50, ob_58, ob_63, ob_267, ln_46, ln_46n, ln_46m, ln_47, ln_47n, ln_48, ln_48n, ln_51, ln_56, ln_57, ln_59, ln_60, ln_61, ln_62, ln_64, ln_64n, ln_65, ln_268, ln_269, ln_270, ln_270n, ln_271, ln_271n, ln_272, ln_272n, ln_272m, ln_273, ln_274, ln_275, ln_276, ln_277, ln_278, ln_278n, ln_279, ln_280, ln_281, ln_282, ln_283, ln_283n, ln_284, ln_285, ln_286, ln_286n, ln_287, ln_287n, ln_288, ln_289, ln_289n, gF_sF, gF_sG, gF_sI, gF_sJ, gF_sP, gF_sR, gF_sL, gG_sF, gG_sG, gG_sI, gG_sJ, gG_sP, gG_sR, gG_sL, gI_sF, gI_sG, gI_sI, gI_sJ, gI_sP, gI_sR, gI_sL, gJ_sF, gJ_sG, gJ_sI, gJ_sJ, gJ_sP, gJ_sR, gJ_sL, gP_sF, gP_sG, gP_sI, gP_sJ, gP_sP, gP_sR, gP_sL, inB_n, inC_n, iX_n, nI_add, pk_mul, pk_sub, n_and, n_or, n_xor, n_one, n_ush, n_shr, n_div, n_rem, n_ltm, m_ltn, m_ltm, n_eqm, m_eqn, m_eqm, n_lt, n_eq, n_eq0, n_addm, n_i2l, m_i2l, n_l2i, lN_add, lN_mul, lN_sub, l_div, l_rem, l_eq0, lc_lt, lc_gt, lc_eq, l_lt, l_eq, l_ltm, ml_ltn, ml_ltm, l_eqm, ml_eqn, ml_eqm, ls_1, ls_2, ls_3, ls_4, ls_5, ls_6, ls_7, ls_8, ls_10, ls_11, ls_12, ls_13, ls_14, ls_15, ls_16, ls_17, ob_0, ob_9, rf_0, rf_9, c1, q]
    have e2 : zE 176 [.ref 267, .int a, .int b, .int d, .int e, .int f] w = some (some (.int (mI 1)), sF w 267 0 (nI 0)) := by
      rw [zE_W []]
      simp (disch := omega) only [tt_176, T_176, mx_176, Nat.reduceLT, Nat.reduceLeDiff, Nat.reduceEqDiff, Nat.reduceAdd, Nat.reduceMul, Nat.reduceSub, Nat.reducePow, Nat.reduceMod, Nat.reduceDiv, Nat.reduceBEq, ↓reduceIte, reduceCtorEq, and_true, true_and, and_false, false_and, and_self, zW_eq, zin, zop, zst, fw_ite, fw_K, fw_R, fw_F, fw_C, zBW_s, nth, stL, okL, nlg, ct, ctv, cI, cL, pu, tkC, iniL, pad, eL, Value.category, swK, bz_0, bz_n0, bz_n1, bI_bz, bI_0, bI_t, bI_f, List.headD_cons, decide_true, decide_false, Bool.true_and, Bool.and_true, Bool.false_and, Bool.and_false, Bool.and_self, Bool.not_true, Bool.not_false, Bool.or_false, Bool.false_or, Bool.true_or, Bool.or_true, Bool.or_self, Bool.false_eq_true, rf_45, rf_47, rf_49, rf_50, rf_51, rf_58, rf_63, rf_65, rf_267, rf45, rf50, rf58, rf63, rf267, ob_45, ob_49, ob_50, ob_58, ob_63, ob_267, ln_46, ln_46n, ln_46m, ln_47, ln_47n, ln_48, ln_48n, ln_51, ln_56, ln_57, ln_59, ln_60, ln_61, ln_62, ln_64, ln_64n, ln_65, ln_268, ln_269, ln_270, ln_270n, ln_271, ln_271n, ln_272, ln_272n, ln_272m, ln_273, ln_274, ln_275, ln_276, ln_277, ln_278, ln_278n, ln_279, ln_280, ln_281, ln_282, ln_283, ln_283n, ln_284, ln_285, ln_286, ln_286n, ln_287, ln_287n, ln_288, ln_289, ln_289n, gF_sF, gF_sG, gF_sI, gF_sJ, gF_sP, gF_sR, gF_sL, gG_sF, gG_sG, gG_sI, gG_sJ, gG_sP, gG_sR, gG_sL, gI_sF, gI_sG, gI_sI, gI_sJ, gI_sP, gI_sR, gI_sL, gJ_sF, gJ_sG, gJ_sI, gJ_sJ, gJ_sP, gJ_sR, gJ_sL, gP_sF, gP_sG, gP_sI, gP_sJ, gP_sP, gP_sR, gP_sL, inB_n, inC_n, iX_n, nI_add, pk_mul, pk_sub, n_and, n_or, n_xor, n_one, n_ush, n_shr, n_div, n_rem, n_ltm, m_ltn, m_ltm, n_eqm, m_eqn, m_eqm, n_lt, n_eq, n_eq0, n_addm, n_i2l, m_i2l, n_l2i, lN_add, lN_mul, lN_sub, l_div, l_rem, l_eq0, lc_lt, lc_gt, lc_eq, l_lt, l_eq, l_ltm, ml_ltn, ml_ltm, l_eqm, ml_eqn, ml_eqm, ls_1, ls_2, ls_3, ls_4, ls_5, ls_6, ls_7, ls_8, ls_10, ls_11, ls_12, ls_13, ls_14, ls_15, ls_16, ls_17, ob_0, ob_9, rf_0, rf_9, m1, q2]
    exact Pair.of (by simp [okV]) h.1 h.wp e1 h.1 e2 (keep0 h.2.1 h.2.2 (MoKeep.sF w 0 _ (by decide)) hT hB) h.2.2
  · have q2 : ¬ 1600 < A.1.1 + 20 := by omega
    have s1 := t_tapeNumber (w := w) (t := A.1.1) a (by omega) c1
    have s2 := t_tapeNumber (w := wF4 46 45 1 A.1.1 a w) (t := A.1.1 + 4) b (by omega) (wF4_F ..)
    have s3 := t_tapeNumber (w := wF4 46 45 1 (A.1.1 + 4) b (wF4 46 45 1 A.1.1 a w)) (t := A.1.1 + 8) d (by omega) (wF4_F ..)
    have s4 := t_tapeNumber (w := wF4 46 45 1 (A.1.1 + 8) d (wF4 46 45 1 (A.1.1 + 4) b (wF4 46 45 1 A.1.1 a w))) (t := A.1.1 + 12) e (by omega) (wF4_F ..)
    have s5 := t_tapeNumber (w := wF4 46 45 1 (A.1.1 + 12) e (wF4 46 45 1 (A.1.1 + 8) d (wF4 46 45 1 (A.1.1 + 4) b (wF4 46 45 1 A.1.1 a w)))) (t := A.1.1 + 16) f (by omega) (wF4_F ..)
    have fF : gF (wF20 46 45 1 A.1.1 a b d e f w) 45 1 = nI (A.1.1 + 20) := wF4_F ..
    have e1 : zE 99 [.ref 45, .int a, .int b, .int d, .int e, .int f] w = some (some (.int (nI (A.1.1 + 20))), wF20 46 45 1 A.1.1 a b d e f w) := by
      rw [zE_W []]
      unfold wF20 at fF ⊢
      simp (disch := omega) only [tt_99, T_99, mx_99, Nat.reduceLT, Nat.reduceLeDiff, Nat.reduceEqDiff, Nat.reduceAdd, Nat.reduceMul, Nat.reduceSub, Nat.reducePow, Nat.reduceMod, Nat.reduceDiv, Nat.reduceBEq, ↓reduceIte, reduceCtorEq, and_true, true_and, and_false, false_and, and_self, zW_eq, zin, zop, zst, fw_ite, fw_K, fw_R, fw_F, fw_C, zBW_s, nth, stL, okL, nlg, ct, ctv, cI, cL, pu, tkC, iniL, pad, eL, Value.category, swK, bz_0, bz_n0, bz_n1, bI_bz, bI_0, bI_t, bI_f, List.headD_cons, decide_true, decide_false, Bool.true_and, Bool.and_true, Bool.false_and, Bool.and_false, Bool.and_self, Bool.not_true, Bool.not_false, Bool.or_false, Bool.false_or, Bool.true_or, Bool.or_true, Bool.or_self, Bool.false_eq_true, rf_45, rf_47, rf_49, rf_50, rf_51, rf_58, rf_63, rf_65, rf_267, rf45, rf50, rf58, rf63, rf267, ob_45, ob_49, ob_50, ob_58, ob_63, ob_267, ln_46, ln_46n, ln_46m, ln_47, ln_47n, ln_48, ln_48n, ln_51, ln_56, ln_57, ln_59, ln_60, ln_61, ln_62, ln_64, ln_64n, ln_65, ln_268, ln_269, ln_270, ln_270n, ln_271, ln_271n, ln_272, ln_272n, ln_272m, ln_273, ln_274, ln_275, ln_276, ln_277, ln_278, ln_278n, ln_279, ln_280, ln_281, ln_282, ln_283, ln_283n, ln_284, ln_285, ln_286, ln_286n, ln_287, ln_287n, ln_288, ln_289, ln_289n, gF_sF, gF_sG, gF_sI, gF_sJ, gF_sP, gF_sR, gF_sL, gG_sF, gG_sG, gG_sI, gG_sJ, gG_sP, gG_sR, gG_sL, gI_sF, gI_sG, gI_sI, gI_sJ, gI_sP, gI_sR, gI_sL, gJ_sF, gJ_sG, gJ_sI, gJ_sJ, gJ_sP, gJ_sR, gJ_sL, gP_sF, gP_sG, gP_sI, gP_sJ, gP_sP, gP_sR, gP_sL, inB_n, inC_n, iX_n, nI_add, pk_mul, pk_sub, n_and, n_or, n_xor, n_one, n_ush, n_shr, n_div, n_rem, n_ltm, m_ltn, m_ltm, n_eqm, m_eqn, m_eqm, n_lt, n_eq, n_eq0, n_addm, n_i2l, m_i2l, n_l2i, lN_add, lN_mul, lN_sub, l_div, l_rem, l_eq0, lc_lt, lc_gt, lc_eq, l_lt, l_eq, l_ltm, ml_ltn, ml_ltm, l_eqm, ml_eqn, ml_eqm, ls_1, ls_2, ls_3, ls_4, ls_5, ls_6, ls_7, ls_8, ls_10, ls_11, ls_12, ls_13, ls_14, ls_15, ls_16, ls_17, ob_0, ob_9, rf_0, rf_9, c1, q, s1, s2, s3, s4, s5, fF]
    have hSm : SmO (fun a => a = 46 ∨ a = 45) w (wF20 46 45 1 A.1.1 a b d e f w) := by
      unfold wF20
      exact ((((wF4_S ..).tr (wF4_S ..)).tr (wF4_S ..)).tr (wF4_S ..)).tr (wF4_S ..)
    have hM1 : MoA A (wF20 46 45 1 A.1.1 a b d e f w) := cls_fr (by simp [okS, okV]) h.wp e1 h.2.1
    have c2 : gF (wF20 46 45 1 A.1.1 a b d e f w) 45 2 = gF w 45 2 := by unfold wF20; simp only [wF4_Fn (show ¬ (45 = 45 ∧ 2 = 1) by decide)]
    have c3 : gF (wF20 46 45 1 A.1.1 a b d e f w) 45 3 = gF w 45 3 := by unfold wF20; simp only [wF4_Fn (show ¬ (45 = 45 ∧ 3 = 1) by decide)]
    have gT : ∀ (c k j : Nat) (w0 : Wd) (i : Nat), gI (wF20 c k j A.1.1 a b d e f w0) c i = if A.1.1 ≤ i ∧ i < A.1.1 + 20 then gI (wF20 46 45 1 A.1.1 a b d e f w) 46 i else gI w0 c i := by
      intro c k j w0 i
      unfold wF20
      simp only [wF4_I]
      by_cases z : A.1.1 ≤ i ∧ i < A.1.1 + 20
      · rw [if_pos z]
        have hc : ∀ (P : Prop) [Decidable P] (u v v' : Int32), (¬ P → v = v') → (if P then u else v) = if P then u else v' := by
          intro P _ u v v' hv
          by_cases hp : P
          · rw [if_pos hp, if_pos hp]
          · rw [if_neg hp, if_neg hp]; exact hv hp
        iterate 20 (apply hc; intro _)
        exfalso
        omega
      · rw [if_neg z]
        repeat (rw [if_neg (by omega)])
    have hbt : ∀ i, A.1.1 ≤ i → i < A.1.1 + 20 → i2bI (gI (wF20 46 45 1 A.1.1 a b d e f w) 46 i) = gI (wF20 46 45 1 A.1.1 a b d e f w) 46 i := by
      intro i i1 i2
      unfold wF20
      simp only [wF4_I]
      have hc : ∀ (P : Prop) [Decidable P] (y : Int32) (s : Nat) (v : Int32), (¬ P → i2bI v = v) → i2bI (if P then byA y s else v) = if P then byA y s else v := by
        intro P _ y s v hv
        by_cases hp : P
        · rw [if_pos hp]; exact i2b_i _
        · rw [if_neg hp]; exact hv hp
      generalize gI w 46 i = vv
      iterate 20 (apply hc; intro _)
      exfalso
      omega
    have hC : ClA ((A.1.1 + 20, gI (wF20 46 45 1 A.1.1 a b d e f w) 46), A.2) (wF20 46 45 1 A.1.1 a b d e f w) := by
      obtain ⟨x1, y, z⟩ := h.1
      exact ⟨⟨fF, fun i _ => rfl⟩, ⟨c2.trans y.1, c3.trans y.2⟩, z.1.fr hSm (fun c c1 c2 => by omega), fun k hk => (z.2.1 k hk).fr hk hSm (by decide) (fun c c1 c2 => by omega), fun s hs => (z.2.2.1 s hs).fr hs hSm (fun c c1 c2 => by omega), z.2.2.2.1.fr hSm (by decide) (fun c c1 c2 => by omega), z.2.2.2.2.same (hSm.2 (by decide))⟩
    have old : ∀ i, i < A.1.1 → gI (wF20 46 45 1 A.1.1 a b d e f w) 46 i = A.1.2 i := by
      intro i hi
      rw [gT 46 45 1 w i, if_neg (by omega)]
      exact h.1.1.2 i hi
    generalize hw1 : wF20 46 45 1 A.1.1 a b d e f w = w1 at e1 hM1 hC gT hbt old
    have hM1' := hM1
    obtain ⟨⟨u1, u2⟩, v, t⟩ := hM1
    have f1 : gF (sF w1 267 0 (nI 0)) 267 6 = nI A.1.1 := u1
    have r1 := t_four (w := sF w1 267 0 (nI 0)) (t := A.1.1) a (by omega) f1
    have r2 := t_four (w := wF4 272 267 6 A.1.1 a (sF w1 267 0 (nI 0))) (t := A.1.1 + 4) b (by omega) (wF4_F ..)
    have r3 := t_four (w := wF4 272 267 6 (A.1.1 + 4) b (wF4 272 267 6 A.1.1 a (sF w1 267 0 (nI 0)))) (t := A.1.1 + 8) d (by omega) (wF4_F ..)
    have r4 := t_four (w := wF4 272 267 6 (A.1.1 + 8) d (wF4 272 267 6 (A.1.1 + 4) b (wF4 272 267 6 A.1.1 a (sF w1 267 0 (nI 0))))) (t := A.1.1 + 12) e (by omega) (wF4_F ..)
    have r5 := t_four (w := wF4 272 267 6 (A.1.1 + 12) e (wF4 272 267 6 (A.1.1 + 8) d (wF4 272 267 6 (A.1.1 + 4) b (wF4 272 267 6 A.1.1 a (sF w1 267 0 (nI 0)))))) (t := A.1.1 + 16) f (by omega) (wF4_F ..)
    have fM : gF (wF20 272 267 6 A.1.1 a b d e f (sF w1 267 0 (nI 0))) 267 6 = nI (A.1.1 + 20) := wF4_F ..
    have e2 : zE 176 [.ref 267, .int a, .int b, .int d, .int e, .int f] w1 = some (some (.int (nI (A.1.1 + 20))), wF20 272 267 6 A.1.1 a b d e f (sF w1 267 0 (nI 0))) := by
      rw [zE_W []]
      unfold wF20 at fM ⊢
      simp (disch := omega) only [tt_176, T_176, mx_176, Nat.reduceLT, Nat.reduceLeDiff, Nat.reduceEqDiff, Nat.reduceAdd, Nat.reduceMul, Nat.reduceSub, Nat.reducePow, Nat.reduceMod, Nat.reduceDiv, Nat.reduceBEq, ↓reduceIte, reduceCtorEq, and_true, true_and, and_false, false_and, and_self, zW_eq, zin, zop, zst, fw_ite, fw_K, fw_R, fw_F, fw_C, zBW_s, nth, stL, okL, nlg, ct, ctv, cI, cL, pu, tkC, iniL, pad, eL, Value.category, swK, bz_0, bz_n0, bz_n1, bI_bz, bI_0, bI_t, bI_f, List.headD_cons, decide_true, decide_false, Bool.true_and, Bool.and_true, Bool.false_and, Bool.and_false, Bool.and_self, Bool.not_true, Bool.not_false, Bool.or_false, Bool.false_or, Bool.true_or, Bool.or_true, Bool.or_self, Bool.false_eq_true, rf_45, rf_47, rf_49, rf_50, rf_51, rf_58, rf_63, rf_65, rf_267, rf45, rf50, rf58, rf63, rf267, ob_45, ob_49, ob_50, ob_58, ob_63, ob_267, ln_46, ln_46n, ln_46m, ln_47, ln_47n, ln_48, ln_48n, ln_51, ln_56, ln_57, ln_59, ln_60, ln_61, ln_62, ln_64, ln_64n, ln_65, ln_268, ln_269, ln_270, ln_270n, ln_271, ln_271n, ln_272, ln_272n, ln_272m, ln_273, ln_274, ln_275, ln_276, ln_277, ln_278, ln_278n, ln_279, ln_280, ln_281, ln_282, ln_283, ln_283n, ln_284, ln_285, ln_286, ln_286n, ln_287, ln_287n, ln_288, ln_289, ln_289n, gF_sF, gF_sG, gF_sI, gF_sJ, gF_sP, gF_sR, gF_sL, gG_sF, gG_sG, gG_sI, gG_sJ, gG_sP, gG_sR, gG_sL, gI_sF, gI_sG, gI_sI, gI_sJ, gI_sP, gI_sR, gI_sL, gJ_sF, gJ_sG, gJ_sI, gJ_sJ, gJ_sP, gJ_sR, gJ_sL, gP_sF, gP_sG, gP_sI, gP_sJ, gP_sP, gP_sR, gP_sL, inB_n, inC_n, iX_n, nI_add, pk_mul, pk_sub, n_and, n_or, n_xor, n_one, n_ush, n_shr, n_div, n_rem, n_ltm, m_ltn, m_ltm, n_eqm, m_eqn, m_eqm, n_lt, n_eq, n_eq0, n_addm, n_i2l, m_i2l, n_l2i, lN_add, lN_mul, lN_sub, l_div, l_rem, l_eq0, lc_lt, lc_gt, lc_eq, l_lt, l_eq, l_ltm, ml_ltn, ml_ltm, l_eqm, ml_eqn, ml_eqm, ls_1, ls_2, ls_3, ls_4, ls_5, ls_6, ls_7, ls_8, ls_10, ls_11, ls_12, ls_13, ls_14, ls_15, ls_16, ls_17, ob_0, ob_9, rf_0, rf_9, u1, q2, r1, r2, r3, r4, r5, fM]
    have oF : ∀ j, j ≠ 6 → j ≠ 0 → gF (wF20 272 267 6 A.1.1 a b d e f (sF w1 267 0 (nI 0))) 267 j = gF w1 267 j := by
      intro j j6 j0
      unfold wF20
      simp only [wF4_Fn (show ¬ (267 = 267 ∧ j = 6) from fun z => j6 z.2)]
      rw [gF_sF, if_neg (fun z => j0 z.2)]
    have oI : ∀ c, c ≠ 272 → ∀ i, gI (wF20 272 267 6 A.1.1 a b d e f (sF w1 267 0 (nI 0))) c i = gI w1 c i := by
      intro c hc i
      unfold wF20
      simp only [wF4_In hc]
      rfl
    have oJ : ∀ c i, gJ (wF20 272 267 6 A.1.1 a b d e f (sF w1 267 0 (nI 0))) c i = gJ w1 c i := fun _ _ => rfl
    have hMs := hM1'.slt (w' := wF20 272 267 6 A.1.1 a b d e f (sF w1 267 0 (nI 0))) (F := A.2.2.2.2)
    refine Pair.of (A' := ((A.1.1 + 20, gI w1 46), A.2)) (by simp [okV]) h.1 h.wp e1 hC e2 ?_ ?_
    · have e273 := oI 273 (by decide)
      have e274 := oI 274 (by decide)
      have e275 := oI 275 (by decide)
      have e276 := oI 276 (by decide)
      have e277 := oI 277 (by decide)
      have e278 := oI 278 (by decide)
      refine ⟨⟨fM, fun i hi => ?_⟩, ⟨(oF 14 (by decide) (by decide)).trans v.1, (oF 15 (by decide) (by decide)).trans v.2⟩, ⟨t.1.1.to rfl rfl rfl rfl rfl e273 e274 e276, t.1.2.fr (fun _ _ => e275 _) (fun _ _ => e277 _)⟩, fun k hk => ?_, fun s hs => ?_, (oF 28 (by decide) (by decide)).trans t.2.2.2⟩
      · rw [gT 272 267 6 (sF w1 267 0 (nI 0)) i]
        have hi : i < A.1.1 + 20 := hi
        by_cases z : A.1.1 ≤ i ∧ i < A.1.1 + 20
        · rw [if_pos z]
        · rw [if_neg z]
          exact (u2 i (by omega)).trans (old i (by omega)).symm
      · have h4 := t.2.1 k hk
        show ImM k (A.2.2.2.1 k) _
        cases hk2 : A.2.2.2.1 k with
        | none => rw [hk2] at h4; exact (e278 k).trans h4
        | some s =>
          rw [hk2] at h4
          obtain ⟨p, q1, q2, q3, q4⟩ := h4
          exact ⟨(e278 k).trans p, (e273 _).trans q1, (e274 _).trans q2, fun v hv => ⟨(e276 _).trans (q3 v hv).1, (e276 _).trans (q3 v hv).2.1, (e276 _).trans (q3 v hv).2.2⟩, q4.fr (fun _ _ => e275 _) (fun _ _ => e277 _)⟩
      · have h5 := t.2.2.1 s hs
        show SlM s (A.2.2.2.2 s) _
        cases hs2 : A.2.2.2.2 s with
        | none => rw [hs2] at h5; exact (oI 268 (by decide) s).trans h5
        | some q =>
          rw [hs2] at h5
          exact ⟨(oI 268 (by decide) s).trans h5.1, (oI 269 (by decide) s).trans h5.2.1, fun i hi => (oJ 270 _).trans (h5.2.2 i hi)⟩
    · refine ⟨show A.1.1 + 20 ≤ 1600 by omega, fun i hi => ?_, h.2.2.2.2⟩
      have hi : i < A.1.1 + 20 := hi
      show i2bI (gI w1 46 i) = gI w1 46 i
      by_cases z : A.1.1 ≤ i
      · exact hbt i z hi
      · rw [old i (by omega)]
        exact h.2.2.2.1 i (by omega)
