/-! ===== move, swap ===== -/
theorem seS_st (sc : Sg) (S : Nat) : seS sc 5 S = stS sc S := rfl
theorem or_tb {S v u : Nat} (h : (S ||| 2 ^ v).testBit u = true) : u = v ∨ S.testBit u = true := by
  by_cases e : u = v
  · exact Or.inl e
  · right
    rw [Nat.testBit_or, Nat.testBit_two_pow_of_ne (Ne.symm e), Bool.or_false] at h
    exact h
theorem free_pos {sc : Sg} (h : ¬ freeS sc < 1) : pop (sc.1 5) + 1 + sc.1 3 ≤ sc.1 1 + sc.1 2 := by
  unfold freeS at h
  omega
theorem Gd.mv {sc : Sg} (g : Gd sc) {v : Nat} (hv : v < sc.1 4) : Gd (mvS sc v).2 := by
  have h14 := g.1
  have l3 := g.2.2.2.2.1
  unfold mvS
  split
  · rename_i hn
    split
    · rename_i hb
      split
      · have hx := pop_xs (S := sc.1 5) (v := v) (by omega) hb
        refine g.to rfl rfl rfl rfl (show sc.1 5 ^^^ 2 ^ v < 2 ^ sc.1 4 from xor_lt14 g.2.1 (p2_lt hv)) g.2.2.1 g.2.2.2.1 (show pop (sc.1 5 ^^^ 2 ^ v) + sc.1 3 ≤ sc.1 1 + sc.1 2 by omega) g.2.2.2.2.2.1 (fun u hu hs => g.2.2.2.2.2.2.2 u hu ?_)
        have hs : (sc.1 5 ^^^ 2 ^ v).testBit u = true := hs
        by_cases e : u = v
        · subst e; exact hb
        · rw [tb_xor e] at hs; exact hs
      · exact g
    · rename_i hb
      have hb : (sc.1 5).testBit v = false := by simpa using hb
      split
      · exact g
      · rename_i hf
        have hx := pop_xc (S := sc.1 5) (v := v) (by omega) hb
        have hp := free_pos hf
        refine g.to rfl rfl rfl rfl (show sc.1 5 ||| 2 ^ v < 2 ^ sc.1 4 from or_lt14 g.2.1 (p2_lt hv)) g.2.2.1 g.2.2.2.1 (show pop (sc.1 5 ||| 2 ^ v) + sc.1 3 ≤ sc.1 1 + sc.1 2 by rw [or_xor hb]; omega) g.2.2.2.2.2.1 (fun u hu hs => ?_)
        have hs : (sc.1 5 ||| 2 ^ v).testBit u = true := hs
        show upd1 (sc.2 3) v (wkS sc (sc.2 3) v) u < 1000003
        unfold upd1
        split
        · exact wkN_lt g hv hn
        · rename_i e
          exact g.2.2.2.2.2.2.2 u hu ((or_tb hs).resolve_left e)
  · exact g
/-- the class's cells behind a move -/
theorem ClS.mv {k v : Nat} {sc : Sg} {w : Wd} (h : ClS k sc w) : ClS k (mvS sc v).2 (wMv k sc v w) := by
  unfold mvS wMv
  by_cases hn : sc.1 5 &&& needS sc v = needS sc v
  · rw [if_pos hn, if_pos hn]
    cases hb : (sc.1 5).testBit v with
    | true =>
      by_cases q : sc.2 3 v = wkS sc (sc.2 3) v
      · simp only [if_pos q, ↓reduceIte]
        refine h.se (by decide) (by decide) (fun _ u _ hu => ?_)
        by_cases e : u = v
        · subst e; exact hb
        · rw [tb_xor e] at hu; exact hu
      · simp only [if_neg q, ↓reduceIte]; exact h
    | false =>
      by_cases q : freeS sc < 1
      · simp only [if_pos q, Bool.false_eq_true, ↓reduceIte]; exact h
      · simp only [if_neg q, Bool.false_eq_true, ↓reduceIte]
        exact h.ns (fun u _ hu => or_tb hu)
  · rw [if_neg hn, if_neg hn]; exact h
theorem SmO.mv {k v : Nat} {sc : Sg} {w : Wd} : SmO (fun c => c = k ∨ c = k + 8) w (wMv k sc v w) := by
  unfold wMv
  repeat' split
  all_goals first
    | exact SmO.rf _ _
    | exact SmO.sF (Or.inl rfl)
    | exact (SmO.sI (Or.inr rfl)).tr (SmO.sF (Or.inl rfl))
/-- the reference's cells behind a move -/
theorem MoB.mv {q v : Nat} {sc : Sg} {w : Wd} (h : MoB q sc w) (hn : sc.1 5 &&& needS sc v = needS sc v) (hy : whyS sc v = nI 0) : MoB q (mvS sc v).2 (mMv q sc v w) := by
  obtain ⟨p1, p2, p3, p4, p5⟩ := h
  unfold whyS at hy
  unfold mvS mMv
  rw [if_pos hn] at hy ⊢
  cases hb : (sc.1 5).testBit v with
  | true =>
    rw [hb] at hy
    simp only [↓reduceIte] at hy ⊢
    have z : sc.2 3 v = wkS sc (sc.2 3) v := by
      by_cases z : sc.2 3 v = wkS sc (sc.2 3) v
      · exact z
      · rw [if_neg z] at hy; exact absurd hy (by decide)
    rw [if_pos z]
    refine MoB.to (sc := sc) rfl ?_ ?_ ?_ ?_ (fun u hu hs => ?_)
    · rw [gI_sI, if_neg (by omega)]; exact p1
    · rw [gI_sI, if_neg (by omega)]; exact p2
    · rw [gI_sI, if_neg (by omega)]; exact p3
    · rw [gI_sI, if_pos (by omega)]; rfl
    · rw [gI_sI, if_neg (by omega)]
      refine p5 u hu ?_
      have hs : (sc.1 5 ^^^ 2 ^ v).testBit u = true := hs
      by_cases e : u = v
      · subst e; exact hb
      · rw [tb_xor e] at hs; exact hs
  | false =>
    rw [hb] at hy
    simp only [Bool.false_eq_true, ↓reduceIte] at hy ⊢
    have z : ¬ freeS sc < 1 := by
      by_cases z : 0 < freeS sc
      · omega
      · rw [if_neg z] at hy; exact absurd hy (by decide)
    rw [if_neg z]
    refine MoB.to (sc := sc) rfl ?_ ?_ ?_ ?_ (fun u hu hs => ?_)
    · rw [gI_sI, if_neg (by omega), gI_sI, if_neg (by omega)]; exact p1
    · rw [gI_sI, if_neg (by omega), gI_sI, if_neg (by omega)]; exact p2
    · rw [gI_sI, if_neg (by omega), gI_sI, if_neg (by omega)]; exact p3
    · rw [gI_sI, if_pos (by omega), ← or_xor hb]; rfl
    · rw [gI_sI, if_neg (by omega), gI_sI]
      show _ = nI (upd1 (sc.2 3) v (wkS sc (sc.2 3) v) u)
      unfold upd1
      have hs : (sc.1 5 ||| 2 ^ v).testBit u = true := hs
      by_cases e : u = v
      · rw [if_pos (by omega), if_pos e]
      · rw [if_neg (by omega), if_neg e]
        exact p5 u hu ((or_tb hs).resolve_left e)
theorem mv_T {sc : Sg} {v : Nat} : (mvS sc v).2.1 0 = sc.1 0 ∧ (mvS sc v).2.1 4 = sc.1 4 ∧ (mvS sc v).2.2 0 = sc.2 0 ∧ (mvS sc v).2.2 1 = sc.2 1 ∧ (mvS sc v).2.2 2 = sc.2 2 := by
  unfold mvS
  repeat' split
  all_goals exact ⟨rfl, rfl, rfl, rfl, rfl⟩
theorem why_mv {sc : Sg} {v : Nat} : (whyS sc v = nI 0 ∧ sc.1 5 &&& needS sc v = needS sc v ∧ (mvS sc v).1 = bI ((mvS sc v).2.1 5 |>.testBit v) ∧ (mvS sc v).2.1 5 = sc.1 5 ^^^ 2 ^ v) ∨ (¬ whyS sc v = nI 0 ∧ whyS sc v = (mvS sc v).1 ∧ (mvS sc v).2 = sc ∧ ∀ (k : Nat) (w : Wd), wMv k sc v w = w) := by
  unfold whyS mvS wMv
  by_cases hn : sc.1 5 &&& needS sc v = needS sc v
  · simp only [if_pos hn]
    cases hb : (sc.1 5).testBit v with
    | true =>
      simp only [↓reduceIte]
      by_cases z : sc.2 3 v = wkS sc (sc.2 3) v
      · simp only [if_pos z]
        left
        refine ⟨(by first | rfl | trivial), hn, ?_, (by first | rfl | trivial)⟩
        show nI 0 = bI ((sc.1 5 ^^^ 2 ^ v).testBit v)
        rw [tb_xv, hb]
        rfl
      · simp only [if_neg z]
        exact Or.inr ⟨by decide, (by first | rfl | trivial), (by first | rfl | trivial), fun _ _ => (by first | rfl | trivial)⟩
    | false =>
      simp only [Bool.false_eq_true, ↓reduceIte]
      by_cases z : 0 < freeS sc
      · have z2 : ¬ freeS sc < 1 := by omega
        simp only [if_pos z, if_neg z2]
        left
        refine ⟨(by first | rfl | trivial), hn, ?_, or_xor hb⟩
        show nI 1 = bI ((sc.1 5 ||| 2 ^ v).testBit v)
        rw [Nat.testBit_or, Nat.testBit_two_pow_self, Bool.or_true]
        rfl
      · have z2 : freeS sc < 1 := by omega
        simp only [if_neg z, if_pos z2]
        exact Or.inr ⟨by decide, (by first | rfl | trivial), (by first | rfl | trivial), fun _ _ => (by first | rfl | trivial)⟩
  · simp only [if_neg hn]
    exact Or.inr ⟨by decide, (by first | rfl | trivial), (by first | rfl | trivial), fun _ _ => (by first | rfl | trivial)⟩
theorem pr_move {A : Ab} {w : Wd} (h : Rel A w) (x : Int32) : Pair 114 221 [.int x] A w := by
  have hc := h.cC
  have g := h.g
  have h14 := g.1
  have hT : MoT A.2.2.1 w := h.2.1.2.2.1.1
  have hT1 : MoT A.2.2.1 (sF w 267 0 (nI 0)) := hT
  have hB : MoB 0 A.2.2.1 w := h.2.1.2.2.1.2
  have hB1 : MoB 0 A.2.2.1 (sF w 267 0 (nI 0)) := hB
  rcases isNat_cases x (n := A.2.2.1.1 4) (by omega) with ⟨v, hv, rfl⟩ | e
  · have hv14 : v < 14 := by omega
    have ht := isNat_t hv (by omega)
    have e1 : zE 114 [.ref 45, .int (nI v)] w = some (some (.int (mvS A.2.2.1 v).1), wMv 0 A.2.2.1 v w) := by
      rw [zE_W []]
      simp (disch := omega) only [tt_114, T_114, mx_114, Nat.reduceLT, Nat.reduceLeDiff, Nat.reduceEqDiff, Nat.reduceAdd, Nat.reduceMul, Nat.reduceSub, Nat.reducePow, Nat.reduceMod, Nat.reduceDiv, Nat.reduceBEq, ↓reduceIte, reduceCtorEq, and_true, true_and, and_false, false_and, and_self, zW_eq, zin, zop, zst, fw_ite, fw_K, fw_R, fw_F, fw_C, zBW_s, nth, stL, okL, nlg, ct, ctv, cI, cL, pu, tkC, iniL, pad, eL, Value.category, swK, bz_0, bz_n0, bz_n1, bI_bz, bI_0, bI_t, bI_f, List.headD_cons, decide_true, decide_false, Bool.true_and, Bool.and_true, Bool.false_and, Bool.and_false, Bool.and_self, Bool.not_true, Bool.not_false, Bool.or_false, Bool.false_or, Bool.true_or, Bool.or_true, Bool.or_self, Bool.false_eq_true, rf_45, rf_47, rf_49, rf_50, rf_51, rf_58, rf_63, rf_65, rf_267, rf45, rf50, rf58, rf63, rf267, ob_45, ob_49, ob_50, ob_58, ob_63, ob_267, ln_46, ln_46n, ln_46m, ln_47, ln_47n, ln_48, ln_48n, ln_51, ln_56, ln_57, ln_59, ln_60, ln_61, ln_62, ln_64, ln_64n, ln_65, ln_268, ln_269, ln_270, ln_270n, ln_271, ln_271n, ln_272, ln_272n, ln_272m, ln_273, ln_274, ln_275, ln_276, ln_277, ln_278, ln_278n, ln_279, ln_280, ln_281, ln_282, ln_283, ln_283n, ln_284, ln_285, ln_286, ln_286n, ln_287, ln_287n, ln_288, ln_289, ln_289n, gF_sF, gF_sG, gF_sI, gF_sJ, gF_sP, gF_sR, gF_sL, gG_sF, gG_sG, gG_sI, gG_sJ, gG_sP, gG_sR, gG_sL, gI_sF, gI_sG, gI_sI, gI_sJ, gI_sP, gI_sR, gI_sL, gJ_sF, gJ_sG, gJ_sI, gJ_sJ, gJ_sP, gJ_sR, gJ_sL, gP_sF, gP_sG, gP_sI, gP_sJ, gP_sP, gP_sR, gP_sL, inB_n, inC_n, iX_n, nI_add, pk_mul, pk_sub, n_and, n_or, n_xor, n_one, n_ush, n_shr, n_div, n_rem, n_ltm, m_ltn, m_ltm, n_eqm, m_eqn, m_eqm, n_lt, n_eq, n_eq0, n_addm, n_i2l, m_i2l, n_l2i, lN_add, lN_mul, lN_sub, l_div, l_rem, l_eq0, lc_lt, lc_gt, lc_eq, l_lt, l_eq, l_ltm, ml_ltn, ml_ltm, l_eqm, ml_eqn, ml_eqm, ls_1, ls_2, ls_3, ls_4, ls_5, ls_6, ls_7, ls_8, ls_10, ls_11, ls_12, ls_13, ls_14, ls_15, ls_16, ls_17, ob_0, ob_9, rf_0, rf_9, t_cNoSum h.1 g, ht, t_makeMove hc g hv]
    have hs1 : SmO (fun c => c < 9) w (wMv 0 A.2.2.1 v w) := SmO.wk (SmO.mv (k := 0)) (fun c hc => by omega)
    have hTx : MoT A.2.2.1 (wMv 0 A.2.2.1 v w) := hT.sm hs1 (by decide) (by decide) (by decide)
    have hBx : MoB 0 A.2.2.1 (wMv 0 A.2.2.1 v w) := hB.sm hs1 (by decide) (by decide)
    have hTa : MoT A.2.2.1 (sF (wMv 0 A.2.2.1 v w) 267 0 (nI 0)) := hTx
    have hBa : MoB 0 A.2.2.1 (sF (wMv 0 A.2.2.1 v w) 267 0 (nI 0)) := hBx
    have hw1 := hc.mv (v := v)
    rcases why_mv (sc := A.2.2.1) (v := v) with ⟨y1, y2, y3, y4⟩ | ⟨y1, y2, y3, y4⟩
    · have hB2 : MoB 0 (mvS A.2.2.1 v).2 (mMv 0 A.2.2.1 v (sF (wMv 0 A.2.2.1 v w) 267 0 (nI 0))) := hBa.mv y2 y1
      have hg := g.mv hv
      have hst := t_isStanding hB2 hg (show 0 < 6 by decide) hv14
      have e2 : zE 221 [.ref 267, .int (nI v)] (wMv 0 A.2.2.1 v w) = some (some (.int (mvS A.2.2.1 v).1), mMv 0 A.2.2.1 v (sF (wMv 0 A.2.2.1 v w) 267 0 (nI 0))) := by
        rw [zE_W [], y3]
        cases z : ((mvS A.2.2.1 v).2.1 5).testBit v with
        | true =>
          rw [z] at hst
          simp (disch := omega) only [tt_221, T_221, mx_221, Nat.reduceLT, Nat.reduceLeDiff, Nat.reduceEqDiff, Nat.reduceAdd, Nat.reduceMul, Nat.reduceSub, Nat.reducePow, Nat.reduceMod, Nat.reduceDiv, Nat.reduceBEq, ↓reduceIte, reduceCtorEq, and_true, true_and, and_false, false_and, and_self, zW_eq, zin, zop, zst, fw_ite, fw_K, fw_R, fw_F, fw_C, zBW_s, nth, stL, okL, nlg, ct, ctv, cI, cL, pu, tkC, iniL, pad, eL, Value.category, swK, bz_0, bz_n0, bz_n1, bI_bz, bI_0, bI_t, bI_f, List.headD_cons, decide_true, decide_false, Bool.true_and, Bool.and_true, Bool.false_and, Bool.and_false, Bool.and_self, Bool.not_true, Bool.not_false, Bool.or_false, Bool.false_or, Bool.true_or, Bool.or_true, Bool.or_self, Bool.false_eq_true, rf_45, rf_47, rf_49, rf_50, rf_51, rf_58, rf_63, rf_65, rf_267, rf45, rf50, rf58, rf63, rf267, ob_45, ob_49, ob_50, ob_58, ob_63, ob_267, ln_46, ln_46n, ln_46m, ln_47, ln_47n, ln_48, ln_48n, ln_51, ln_56, ln_57, ln_59, ln_60, ln_61, ln_62, ln_64, ln_64n, ln_65, ln_268, ln_269, ln_270, ln_270n, ln_271, ln_271n, ln_272, ln_272n, ln_272m, ln_273, ln_274, ln_275, ln_276, ln_277, ln_278, ln_278n, ln_279, ln_280, ln_281, ln_282, ln_283, ln_283n, ln_284, ln_285, ln_286, ln_286n, ln_287, ln_287n, ln_288, ln_289, ln_289n, gF_sF, gF_sG, gF_sI, gF_sJ, gF_sP, gF_sR, gF_sL, gG_sF, gG_sG, gG_sI, gG_sJ, gG_sP, gG_sR, gG_sL, gI_sF, gI_sG, gI_sI, gI_sJ, gI_sP, gI_sR, gI_sL, gJ_sF, gJ_sG, gJ_sI, gJ_sJ, gJ_sP, gJ_sR, gJ_sL, gP_sF, gP_sG, gP_sI, gP_sJ, gP_sP, gP_sR, gP_sL, inB_n, inC_n, iX_n, nI_add, pk_mul, pk_sub, n_and, n_or, n_xor, n_one, n_ush, n_shr, n_div, n_rem, n_ltm, m_ltn, m_ltm, n_eqm, m_eqn, m_eqm, n_lt, n_eq, n_eq0, n_addm, n_i2l, m_i2l, n_l2i, lN_add, lN_mul, lN_sub, l_div, l_rem, l_eq0, lc_lt, lc_gt, lc_eq, l_lt, l_eq, l_ltm, ml_ltn, ml_ltm, l_eqm, ml_eqn, ml_eqm, ls_1, ls_2, ls_3, ls_4, ls_5, ls_6, ls_7, ls_8, ls_10, ls_11, ls_12, ls_13, ls_14, ls_15, ls_16, ls_17, ob_0, ob_9, rf_0, rf_9, t_isSum hTa g, ht, t_whyNotMove hTa hBa g (show 0 < 6 by decide) hv, y1, t_moves hTa hBa g (show 0 < 6 by decide) hv y2, hst]
        | false =>
          rw [z] at hst
          simp (disch := omega) only [tt_221, T_221, mx_221, Nat.reduceLT, Nat.reduceLeDiff, Nat.reduceEqDiff, Nat.reduceAdd, Nat.reduceMul, Nat.reduceSub, Nat.reducePow, Nat.reduceMod, Nat.reduceDiv, Nat.reduceBEq, ↓reduceIte, reduceCtorEq, and_true, true_and, and_false, false_and, and_self, zW_eq, zin, zop, zst, fw_ite, fw_K, fw_R, fw_F, fw_C, zBW_s, nth, stL, okL, nlg, ct, ctv, cI, cL, pu, tkC, iniL, pad, eL, Value.category, swK, bz_0, bz_n0, bz_n1, bI_bz, bI_0, bI_t, bI_f, List.headD_cons, decide_true, decide_false, Bool.true_and, Bool.and_true, Bool.false_and, Bool.and_false, Bool.and_self, Bool.not_true, Bool.not_false, Bool.or_false, Bool.false_or, Bool.true_or, Bool.or_true, Bool.or_self, Bool.false_eq_true, rf_45, rf_47, rf_49, rf_50, rf_51, rf_58, rf_63, rf_65, rf_267, rf45, rf50, rf58, rf63, rf267, ob_45, ob_49, ob_50, ob_58, ob_63, ob_267, ln_46, ln_46n, ln_46m, ln_47, ln_47n, ln_48, ln_48n, ln_51, ln_56, ln_57, ln_59, ln_60, ln_61, ln_62, ln_64, ln_64n, ln_65, ln_268, ln_269, ln_270, ln_270n, ln_271, ln_271n, ln_272, ln_272n, ln_272m, ln_273, ln_274, ln_275, ln_276, ln_277, ln_278, ln_278n, ln_279, ln_280, ln_281, ln_282, ln_283, ln_283n, ln_284, ln_285, ln_286, ln_286n, ln_287, ln_287n, ln_288, ln_289, ln_289n, gF_sF, gF_sG, gF_sI, gF_sJ, gF_sP, gF_sR, gF_sL, gG_sF, gG_sG, gG_sI, gG_sJ, gG_sP, gG_sR, gG_sL, gI_sF, gI_sG, gI_sI, gI_sJ, gI_sP, gI_sR, gI_sL, gJ_sF, gJ_sG, gJ_sI, gJ_sJ, gJ_sP, gJ_sR, gJ_sL, gP_sF, gP_sG, gP_sI, gP_sJ, gP_sP, gP_sR, gP_sL, inB_n, inC_n, iX_n, nI_add, pk_mul, pk_sub, n_and, n_or, n_xor, n_one, n_ush, n_shr, n_div, n_rem, n_ltm, m_ltn, m_ltm, n_eqm, m_eqn, m_eqm, n_lt, n_eq, n_eq0, n_addm, n_i2l, m_i2l, n_l2i, lN_add, lN_mul, lN_sub, l_div, l_rem, l_eq0, lc_lt, lc_gt, lc_eq, l_lt, l_eq, l_ltm, ml_ltn, ml_ltm, l_eqm, ml_eqn, ml_eqm, ls_1, ls_2, ls_3, ls_4, ls_5, ls_6, ls_7, ls_8, ls_10, ls_11, ls_12, ls_13, ls_14, ls_15, ls_16, ls_17, ob_0, ob_9, rf_0, rf_9, t_isSum hTa g, ht, t_whyNotMove hTa hBa g (show 0 < 6 by decide) hv, y1, t_moves hTa hBa g (show 0 < 6 by decide) hv y2, hst]
      have hke : ∀ w0 : Wd, MoKeep w0 (mMv 0 A.2.2.1 v w0) := by
        intro w0
        unfold mMv
        split
        · exact MoKeep.sI _ _ _ _ (by omega)
        · exact (MoKeep.sI _ _ _ _ (by omega)).tr (MoKeep.sI _ _ _ _ (by omega))
      have hmT : ∀ w0 : Wd, MoT A.2.2.1 w0 → MoT (mvS A.2.2.1 v).2 (mMv 0 A.2.2.1 v w0) := by
        intro w0 h0
        obtain ⟨t1, t2, t3, t4, t5⟩ := mv_T (sc := A.2.2.1) (v := v)
        refine h0.to t1 t2 t3 t4 t5 (fun i => ?_) (fun i => ?_) (fun i => ?_) <;>
          (unfold mMv; split <;> simp only [gI_sI] <;> simp)
      exact Pair.ch h (by simp [okV]) e1 hs1 hw1 e2 ((MoKeep.sF _ 0 _ (by decide)).tr (hke _)) (hmT _ hTa) hB2 hg
    · have e2 : zE 221 [.ref 267, .int (nI v)] (wMv 0 A.2.2.1 v w) = some (some (.int (mvS A.2.2.1 v).1), sF (wMv 0 A.2.2.1 v w) 267 0 (nI 0)) := by
        rw [zE_W [], ← y2]
        simp (disch := omega) only [tt_221, T_221, mx_221, Nat.reduceLT, Nat.reduceLeDiff, Nat.reduceEqDiff, Nat.reduceAdd, Nat.reduceMul, Nat.reduceSub, Nat.reducePow, Nat.reduceMod, Nat.reduceDiv, Nat.reduceBEq, ↓reduceIte, reduceCtorEq, and_true, true_and, and_false, false_and, and_self, zW_eq, zin, zop, zst, fw_ite, fw_K, fw_R, fw_F, fw_C, zBW_s, nth, stL, okL, nlg, ct, ctv, cI, cL, pu, tkC, iniL, pad, eL, Value.category, swK, bz_0, bz_n0, bz_n1, bI_bz, bI_0, bI_t, bI_f, List.headD_cons, decide_true, decide_false, Bool.true_and, Bool.and_true, Bool.false_and, Bool.and_false, Bool.and_self, Bool.not_true, Bool.not_false, Bool.or_false, Bool.false_or, Bool.true_or, Bool.or_true, Bool.or_self, Bool.false_eq_true, rf_45, rf_47, rf_49, rf_50, rf_51, rf_58, rf_63, rf_65, rf_267, rf45, rf50, rf58, rf63, rf267, ob_45, ob_49, ob_50, ob_58, ob_63, ob_267, ln_46, ln_46n, ln_46m, ln_47, ln_47n, ln_48, ln_48n, ln_51, ln_56, ln_57, ln_59, ln_60, ln_61, ln_62, ln_64, ln_64n, ln_65, ln_268, ln_269, ln_270, ln_270n, ln_271, ln_271n, ln_272, ln_272n, ln_272m, ln_273, ln_274, ln_275, ln_276, ln_277, ln_278, ln_278n, ln_279, ln_280, ln_281, ln_282, ln_283, ln_283n, ln_284, ln_285, ln_286, ln_286n, ln_287, ln_287n, ln_288, ln_289, ln_289n, gF_sF, gF_sG, gF_sI, gF_sJ, gF_sP, gF_sR, gF_sL, gG_sF, gG_sG, gG_sI, gG_sJ, gG_sP, gG_sR, gG_sL, gI_sF, gI_sG, gI_sI, gI_sJ, gI_sP, gI_sR, gI_sL, gJ_sF, gJ_sG, gJ_sI, gJ_sJ, gJ_sP, gJ_sR, gJ_sL, gP_sF, gP_sG, gP_sI, gP_sJ, gP_sP, gP_sR, gP_sL, inB_n, inC_n, iX_n, nI_add, pk_mul, pk_sub, n_and, n_or, n_xor, n_one, n_ush, n_shr, n_div, n_rem, n_ltm, m_ltn, m_ltm, n_eqm, m_eqn, m_eqm, n_lt, n_eq, n_eq0, n_addm, n_i2l, m_i2l, n_l2i, lN_add, lN_mul, lN_sub, l_div, l_rem, l_eq0, lc_lt, lc_gt, lc_eq, l_lt, l_eq, l_ltm, ml_ltn, ml_ltm, l_eqm, ml_eqn, ml_eqm, ls_1, ls_2, ls_3, ls_4, ls_5, ls_6, ls_7, ls_8, ls_10, ls_11, ls_12, ls_13, ls_14, ls_15, ls_16, ls_17, ob_0, ob_9, rf_0, rf_9, t_isSum hTa g, ht, t_whyNotMove hTa hBa g (show 0 < 6 by decide) hv, y1]
      rw [y3] at hw1
      exact Pair.ch h (by simp [okV]) e1 hs1 hw1 e2 (MoKeep.sF _ 0 _ (by decide)) hTa hBa g
  · have e1 : zE 114 [.ref 45, .int x] w = some (some (.int (mI 2)), w) := by
      rw [zE_W []]
      simp (disch := omega) only [tt_114, T_114, mx_114, Nat.reduceLT, Nat.reduceLeDiff, Nat.reduceEqDiff, Nat.reduceAdd, Nat.reduceMul, Nat.reduceSub, Nat.reducePow, Nat.reduceMod, Nat.reduceDiv, Nat.reduceBEq, ↓reduceIte, reduceCtorEq, and_true, true_and, and_false, false_and, and_self, zW_eq, zin, zop, zst, fw_ite, fw_K, fw_R, fw_F, fw_C, zBW_s, nth, stL, okL, nlg, ct, ctv, cI, cL, pu, tkC, iniL, pad, eL, Value.category, swK, bz_0, bz_n0, bz_n1, bI_bz, bI_0, bI_t, bI_f, List.headD_cons, decide_true, decide_false, Bool.true_and, Bool.and_true, Bool.false_and, Bool.and_false, Bool.and_self, Bool.not_true, Bool.not_false, Bool.or_false, Bool.false_or, Bool.true_or, Bool.or_true, Bool.or_self, Bool.false_eq_true, rf_45, rf_47, rf_49, rf_50, rf_51, rf_58, rf_63, rf_65, rf_267, rf45, rf50, rf58, rf63, rf267, ob_45, ob_49, ob_50, ob_58, ob_63, ob_267, ln_46, ln_46n, ln_46m, ln_47, ln_47n, ln_48, ln_48n, ln_51, ln_56, ln_57, ln_59, ln_60, ln_61, ln_62, ln_64, ln_64n, ln_65, ln_268, ln_269, ln_270, ln_270n, ln_271, ln_271n, ln_272, ln_272n, ln_272m, ln_273, ln_274, ln_275, ln_276, ln_277, ln_278, ln_278n, ln_279, ln_280, ln_281, ln_282, ln_283, ln_283n, ln_284, ln_285, ln_286, ln_286n, ln_287, ln_287n, ln_288, ln_289, ln_289n, gF_sF, gF_sG, gF_sI, gF_sJ, gF_sP, gF_sR, gF_sL, gG_sF, gG_sG, gG_sI, gG_sJ, gG_sP, gG_sR, gG_sL, gI_sF, gI_sG, gI_sI, gI_sJ, gI_sP, gI_sR, gI_sL, gJ_sF, gJ_sG, gJ_sI, gJ_sJ, gJ_sP, gJ_sR, gJ_sL, gP_sF, gP_sG, gP_sI, gP_sJ, gP_sP, gP_sR, gP_sL, inB_n, inC_n, iX_n, nI_add, pk_mul, pk_sub, n_and, n_or, n_xor, n_one, n_ush, n_shr, n_div, n_rem, n_ltm, m_ltn, m_ltm, n_eqm, m_eqn, m_eqm, n_lt, n_eq, n_eq0, n_addm, n_i2l, m_i2l, n_l2i, lN_add, lN_mul, lN_sub, l_div, l_rem, l_eq0, lc_lt, lc_gt, lc_eq, l_lt, l_eq, l_ltm, ml_ltn, ml_ltm, l_eqm, ml_eqn, ml_eqm, ls_1, ls_2, ls_3, ls_4, ls_5, ls_6, ls_7, ls_8, ls_10, ls_11, ls_12, ls_13, ls_14, ls_15, ls_16, ls_17, ob_0, ob_9, rf_0, rf_9, t_cNoSum h.1 g, e]
    have e2 : zE 221 [.ref 267, .int x] w = some (some (.int (mI 2)), sF w 267 0 (nI 0)) := by
      rw [zE_W []]
      simp (disch := omega) only [tt_221, T_221, mx_221, Nat.reduceLT, Nat.reduceLeDiff, Nat.reduceEqDiff, Nat.reduceAdd, Nat.reduceMul, Nat.reduceSub, Nat.reducePow, Nat.reduceMod, Nat.reduceDiv, Nat.reduceBEq, ↓reduceIte, reduceCtorEq, and_true, true_and, and_false, false_and, and_self, zW_eq, zin, zop, zst, fw_ite, fw_K, fw_R, fw_F, fw_C, zBW_s, nth, stL, okL, nlg, ct, ctv, cI, cL, pu, tkC, iniL, pad, eL, Value.category, swK, bz_0, bz_n0, bz_n1, bI_bz, bI_0, bI_t, bI_f, List.headD_cons, decide_true, decide_false, Bool.true_and, Bool.and_true, Bool.false_and, Bool.and_false, Bool.and_self, Bool.not_true, Bool.not_false, Bool.or_false, Bool.false_or, Bool.true_or, Bool.or_true, Bool.or_self, Bool.false_eq_true, rf_45, rf_47, rf_49, rf_50, rf_51, rf_58, rf_63, rf_65, rf_267, rf45, rf50, rf58, rf63, rf267, ob_45, ob_49, ob_50, ob_58, ob_63, ob_267, ln_46, ln_46n, ln_46m, ln_47, ln_47n, ln_48, ln_48n, ln_51, ln_56, ln_57, ln_59, ln_60, ln_61, ln_62, ln_64, ln_64n, ln_65, ln_268, ln_269, ln_270, ln_270n, ln_271, ln_271n, ln_272, ln_272n, ln_272m, ln_273, ln_274, ln_275, ln_276, ln_277, ln_278, ln_278n, ln_279, ln_280, ln_281, ln_282, ln_283, ln_283n, ln_284, ln_285, ln_286, ln_286n, ln_287, ln_287n, ln_288, ln_289, ln_289n, gF_sF, gF_sG, gF_sI, gF_sJ, gF_sP, gF_sR, gF_sL, gG_sF, gG_sG, gG_sI, gG_sJ, gG_sP, gG_sR, gG_sL, gI_sF, gI_sG, gI_sI, gI_sJ, gI_sP, gI_sR, gI_sL, gJ_sF, gJ_sG, gJ_sI, gJ_sJ, gJ_sP, gJ_sR, gJ_sL, gP_sF, gP_sG, gP_sI, gP_sJ, gP_sP, gP_sR, gP_sL, inB_n, inC_n, iX_n, nI_add, pk_mul, pk_sub, n_and, n_or, n_xor, n_one, n_ush, n_shr, n_div, n_rem, n_ltm, m_ltn, m_ltm, n_eqm, m_eqn, m_eqm, n_lt, n_eq, n_eq0, n_addm, n_i2l, m_i2l, n_l2i, lN_add, lN_mul, lN_sub, l_div, l_rem, l_eq0, lc_lt, lc_gt, lc_eq, l_lt, l_eq, l_ltm, ml_ltn, ml_ltm, l_eqm, ml_eqn, ml_eqm, ls_1, ls_2, ls_3, ls_4, ls_5, ls_6, ls_7, ls_8, ls_10, ls_11, ls_12, ls_13, ls_14, ls_15, ls_16, ls_17, ob_0, ob_9, rf_0, rf_9, t_isSum hT1 g, e]
    exact Pair.of (by simp [okV]) h.1 h.wp e1 h.1 e2 (keep0 h.2.1 h.2.2 (MoKeep.sF w 0 _ (by decide)) hT hB) h.2.2

/-! swap -/
def swS (sc : Sg) (v : Nat) : Sg := if (sc.1 5).testBit v = true then seS (nuS sc (sc.2 1 v) ((sc.2 3 v + 1000003 - sc.2 2 v) % 1000003)) 5 (sc.1 5 ^^^ (2 ^ v ||| 2 ^ sc.2 1 v)) else seS (nuS sc v (wkS sc (sc.2 3) v)) 5 (sc.1 5 ^^^ (2 ^ v ||| 2 ^ sc.2 1 v))
theorem sw_xor {v f : Nat} (h : f ≠ v) : 2 ^ v ||| 2 ^ f = 2 ^ v ^^^ 2 ^ f := or_xor (Nat.testBit_two_pow_of_ne (Ne.symm h))
theorem sw_tb {S v f u : Nat} (hne : f ≠ v) : (S ^^^ (2 ^ v ||| 2 ^ f)).testBit u = (if u = v ∨ u = f then !S.testBit u else S.testBit u) := by
  rw [Nat.testBit_xor, Nat.testBit_or]
  by_cases e : u = v
  · subst e; rw [Nat.testBit_two_pow_self]; simp
  · by_cases e2 : u = f
    · subst e2; rw [Nat.testBit_two_pow_self]; simp
    · rw [Nat.testBit_two_pow_of_ne (Ne.symm e), Nat.testBit_two_pow_of_ne (Ne.symm e2)]; simp [e, e2]
theorem sw_pop {S v f : Nat} (hv : v < 32) (hf : f < 32) (hne : f ≠ v) (hx : S.testBit v ≠ S.testBit f) : pop (S ^^^ (2 ^ v ||| 2 ^ f)) = pop S := by
  rw [sw_xor hne, ← Nat.xor_assoc]
  cases hb : S.testBit v with
  | true =>
    have hbf : S.testBit f = false := by rw [hb] at hx; simpa using hx.symm
    have h1 := pop_xs (S := S) hv hb
    have h2 := pop_xc (S := S ^^^ 2 ^ v) (v := f) hf (by rw [tb_xor hne]; exact hbf)
    have h3 := pop_pos hv hb
    omega
  | false =>
    have hbf : S.testBit f = true := by rw [hb] at hx; simpa using hx.symm
    have h1 := pop_xc (S := S) hv hb
    have h2 := pop_xs (S := S ^^^ 2 ^ v) (v := f) hf (by rw [tb_xor hne]; exact hbf)
    omega
theorem Gd.sw {sc : Sg} (g : Gd sc) {v : Nat} (hv : v < sc.1 4) (h5 : sc.2 0 v = 5) (hx : (sc.1 5).testBit v ≠ (sc.1 5).testBit (sc.2 1 v)) : Gd (swS sc v) := by
  have h14 := g.1
  have gv := g.2.2.2.2.2.2.1 v hv
  have a3 := gv.2.2.1 (by omega)
  have hp := sw_pop (S := sc.1 5) (v := v) (f := sc.2 1 v) (by omega) (by omega) (by omega) hx
  have hlt : sc.1 5 ^^^ (2 ^ v ||| 2 ^ sc.2 1 v) < 2 ^ sc.1 4 := xor_lt14 g.2.1 (or_lt14 (p2_lt hv) (p2_lt (by omega)))
  have l3 := g.2.2.2.2.1
  unfold swS
  cases hb : (sc.1 5).testBit v with
  | true =>
    simp only [↓reduceIte]
    refine g.to rfl rfl rfl rfl hlt g.2.2.1 g.2.2.2.1 (show pop (sc.1 5 ^^^ (2 ^ v ||| 2 ^ sc.2 1 v)) + sc.1 3 ≤ sc.1 1 + sc.1 2 by omega) g.2.2.2.2.2.1 (fun u hu hs => ?_)
    have hs : (sc.1 5 ^^^ (2 ^ v ||| 2 ^ sc.2 1 v)).testBit u = true := hs
    show upd1 (sc.2 3) (sc.2 1 v) ((sc.2 3 v + 1000003 - sc.2 2 v) % 1000003) u < 1000003
    unfold upd1
    split
    · exact Nat.mod_lt _ (by decide)
    · rename_i e
      rw [sw_tb (by omega)] at hs
      by_cases e2 : u = v
      · subst e2; rw [if_pos (Or.inl rfl), hb] at hs; cases hs
      · rw [if_neg (by omega)] at hs
        exact g.2.2.2.2.2.2.2 u hu hs
  | false =>
    simp only [Bool.false_eq_true, ↓reduceIte]
    have hbf : (sc.1 5).testBit (sc.2 1 v) = true := by rw [hb] at hx; simpa using hx.symm
    refine g.to rfl rfl rfl rfl hlt g.2.2.1 g.2.2.2.1 (show pop (sc.1 5 ^^^ (2 ^ v ||| 2 ^ sc.2 1 v)) + sc.1 3 ≤ sc.1 1 + sc.1 2 by omega) g.2.2.2.2.2.1 (fun u hu hs => ?_)
    have hs : (sc.1 5 ^^^ (2 ^ v ||| 2 ^ sc.2 1 v)).testBit u = true := hs
    show upd1 (sc.2 3) v (wkS sc (sc.2 3) v) u < 1000003
    unfold upd1
    split
    · exact wkN_lt g hv (sw_need h5 hbf)
    · rename_i e
      rw [sw_tb (by omega)] at hs
      by_cases e2 : u = sc.2 1 v
      · subst e2; rw [if_pos (Or.inr rfl), hbf] at hs; cases hs
      · rw [if_neg (by omega)] at hs
        exact g.2.2.2.2.2.2.2 u hu hs
theorem ClS.sw {k v : Nat} {sc : Sg} {w : Wd} (h : ClS k sc w) (hne : sc.2 1 v ≠ v) (hx : (sc.1 5).testBit v ≠ (sc.1 5).testBit (sc.2 1 v)) : ClS k (swS sc v) (wSw k sc v w) := by
  unfold swS wSw
  cases hb : (sc.1 5).testBit v with
  | true =>
    simp only [↓reduceIte]
    refine h.ns (fun u _ hu => ?_)
    rw [sw_tb hne] at hu
    by_cases e : u = sc.2 1 v
    · exact Or.inl e
    · by_cases e2 : u = v
      · subst e2; rw [if_pos (Or.inl rfl), hb] at hu; cases hu
      · rw [if_neg (by omega)] at hu; exact Or.inr hu
  | false =>
    simp only [Bool.false_eq_true, ↓reduceIte]
    have hbf : (sc.1 5).testBit (sc.2 1 v) = true := by rw [hb] at hx; simpa using hx.symm
    refine h.ns (fun u _ hu => ?_)
    rw [sw_tb hne] at hu
    by_cases e : u = v
    · exact Or.inl e
    · by_cases e2 : u = sc.2 1 v
      · subst e2; rw [if_pos (Or.inr rfl), hbf] at hu; cases hu
      · rw [if_neg (by omega)] at hu; exact Or.inr hu
theorem SmO.sw {k v : Nat} {sc : Sg} {w : Wd} : SmO (fun c => c = k ∨ c = k + 8) w (wSw k sc v w) := by
  unfold wSw
  split <;> exact (SmO.sI (Or.inr rfl)).tr (SmO.sF (Or.inl rfl))
theorem MoB.sw {q v : Nat} {sc : Sg} {w : Wd} (h : MoB q sc w) (hne : sc.2 1 v ≠ v) (hx : (sc.1 5).testBit v ≠ (sc.1 5).testBit (sc.2 1 v)) : MoB q (swS sc v) (mSw q sc v w) := by
  obtain ⟨p1, p2, p3, p4, p5⟩ := h
  unfold swS mSw
  cases hb : (sc.1 5).testBit v with
  | true =>
    simp only [↓reduceIte]
    refine MoB.to (sc := sc) rfl ?_ ?_ ?_ ?_ (fun u hu hs => ?_)
    · rw [gI_sI, if_neg (by omega), gI_sI, if_neg (by omega)]; exact p1
    · rw [gI_sI, if_neg (by omega), gI_sI, if_neg (by omega)]; exact p2
    · rw [gI_sI, if_neg (by omega), gI_sI, if_neg (by omega)]; exact p3
    · rw [gI_sI, if_pos (by omega)]; rfl
    · rw [gI_sI, if_neg (by omega), gI_sI]
      have hs : (sc.1 5 ^^^ (2 ^ v ||| 2 ^ sc.2 1 v)).testBit u = true := hs
      show _ = nI (upd1 (sc.2 3) (sc.2 1 v) ((sc.2 3 v + 1000003 - sc.2 2 v) % 1000003) u)
      unfold upd1
      rw [sw_tb hne] at hs
      by_cases e : u = sc.2 1 v
      · rw [if_pos (by omega), if_pos e]
      · rw [if_neg (by omega), if_neg e]
        by_cases e2 : u = v
        · subst e2; rw [if_pos (Or.inl rfl), hb] at hs; cases hs
        · rw [if_neg (by omega)] at hs; exact p5 u hu hs
  | false =>
    simp only [Bool.false_eq_true, ↓reduceIte]
    have hbf : (sc.1 5).testBit (sc.2 1 v) = true := by rw [hb] at hx; simpa using hx.symm
    refine MoB.to (sc := sc) rfl ?_ ?_ ?_ ?_ (fun u hu hs => ?_)
    · rw [gI_sI, if_neg (by omega), gI_sI, if_neg (by omega)]; exact p1
    · rw [gI_sI, if_neg (by omega), gI_sI, if_neg (by omega)]; exact p2
    · rw [gI_sI, if_neg (by omega), gI_sI, if_neg (by omega)]; exact p3
    · rw [gI_sI, if_pos (by omega)]; rfl
    · rw [gI_sI, if_neg (by omega), gI_sI]
      have hs : (sc.1 5 ^^^ (2 ^ v ||| 2 ^ sc.2 1 v)).testBit u = true := hs
      show _ = nI (upd1 (sc.2 3) v (wkS sc (sc.2 3) v) u)
      unfold upd1
      rw [sw_tb hne] at hs
      by_cases e : u = v
      · rw [if_pos (by omega), if_pos e]
      · rw [if_neg (by omega), if_neg e]
        by_cases e2 : u = sc.2 1 v
        · subst e2; rw [if_pos (Or.inr rfl), hbf] at hs; cases hs
        · rw [if_neg (by omega)] at hs; exact p5 u hu hs
theorem sw_T {sc : Sg} {v : Nat} : (swS sc v).1 0 = sc.1 0 ∧ (swS sc v).1 4 = sc.1 4 ∧ (swS sc v).2 0 = sc.2 0 ∧ (swS sc v).2 1 = sc.2 1 ∧ (swS sc v).2 2 = sc.2 2 ∧ (swS sc v).1 5 = sc.1 5 ^^^ (2 ^ v ||| 2 ^ sc.2 1 v) := by
  unfold swS
  split
  all_goals exact ⟨rfl, rfl, rfl, rfl, rfl, rfl⟩
theorem pr_swap {A : Ab} {w : Wd} (h : Rel A w) (x : Int32) : Pair 115 226 [.int x] A w := by
  have hc := h.cC
  have g := h.g
  have h14 := g.1
  have hT : MoT A.2.2.1 w := h.2.1.2.2.1.1
  have hT1 : MoT A.2.2.1 (sF w 267 0 (nI 0)) := hT
  have hB : MoB 0 A.2.2.1 w := h.2.1.2.2.1.2
  have hS := g.st
  have key : ∀ r, zE 115 [.ref 45, .int x] w = some (some (.int r), w) → zE 226 [.ref 267, .int x] w = some (some (.int r), sF w 267 0 (nI 0)) → Pair 115 226 [.int x] A w := fun r e1 e2 => Pair.of (by simp [okV]) h.1 h.wp e1 h.1 e2 (keep0 h.2.1 h.2.2 (MoKeep.sF w 0 _ (by decide)) hT hB) h.2.2
  rcases isNat_cases x (n := A.2.2.1.1 4) (by omega) with ⟨v, hv, rfl⟩ | e
  · have hv14 : v < 14 := by omega
    have ht := isNat_t hv (by omega)
    have gv := g.2.2.2.2.2.2.1 v hv
    have a1 := gv.1
    have hA := (hc.2.2.1 v hv).1
    have hA : gI w 1 v = nI (A.2.2.1.2 0 v) := hA
    have hM := (hT.2.2 v hv).1
    have hM : gI w 276 (3 * v) = nI (A.2.2.1.2 0 v) := hM
    by_cases h5 : A.2.2.1.2 0 v = 5
    · have a3 := gv.2.2.1 (by omega)
      by_cases hx : (A.2.2.1.1 5).testBit v = (A.2.2.1.1 5).testBit (A.2.2.1.2 1 v)
      · have hsw := t_makeSwap hc g hv h5
        rw [if_pos hx] at hsw
        have b3 := hB.2.2.2.1
        simp only [Nat.mul_zero, Nat.zero_add] at b3
        refine key (mI 5) ?_ ?_
        · rw [zE_W []]
          simp (disch := omega) only [tt_115, T_115, mx_115, Nat.reduceLT, Nat.reduceLeDiff, Nat.reduceEqDiff, Nat.reduceAdd, Nat.reduceMul, Nat.reduceSub, Nat.reducePow, Nat.reduceMod, Nat.reduceDiv, Nat.reduceBEq, ↓reduceIte, reduceCtorEq, and_true, true_and, and_false, false_and, and_self, zW_eq, zin, zop, zst, fw_ite, fw_K, fw_R, fw_F, fw_C, zBW_s, nth, stL, okL, nlg, ct, ctv, cI, cL, pu, tkC, iniL, pad, eL, Value.category, swK, bz_0, bz_n0, bz_n1, bI_bz, bI_0, bI_t, bI_f, List.headD_cons, decide_true, decide_false, Bool.true_and, Bool.and_true, Bool.false_and, Bool.and_false, Bool.and_self, Bool.not_true, Bool.not_false, Bool.or_false, Bool.false_or, Bool.true_or, Bool.or_true, Bool.or_self, Bool.false_eq_true, rf_45, rf_47, rf_49, rf_50, rf_51, rf_58, rf_63, rf_65, rf_267, rf45, rf50, rf58, rf63, rf267, ob_45, ob_49, ob_50, ob_58, ob_63, ob_267, ln_46, ln_46n, ln_46m, ln_47, ln_47n, ln_48, ln_48n, ln_51, ln_56, ln_57, ln_59, ln_60, ln_61, ln_62, ln_64, ln_64n, ln_65, ln_268, ln_269, ln_270, ln_270n, ln_271, ln_271n, ln_272, ln_272n, ln_272m, ln_273, ln_274, ln_275, ln_276, ln_277, ln_278, ln_278n, ln_279, ln_280, ln_281, ln_282, ln_283, ln_283n, ln_284, ln_285, ln_286, ln_286n, ln_287, ln_287n, ln_288, ln_289, ln_289n, gF_sF, gF_sG, gF_sI, gF_sJ, gF_sP, gF_sR, gF_sL, gG_sF, gG_sG, gG_sI, gG_sJ, gG_sP, gG_sR, gG_sL, gI_sF, gI_sG, gI_sI, gI_sJ, gI_sP, gI_sR, gI_sL, gJ_sF, gJ_sG, gJ_sI, gJ_sJ, gJ_sP, gJ_sR, gJ_sL, gP_sF, gP_sG, gP_sI, gP_sJ, gP_sP, gP_sR, gP_sL, inB_n, inC_n, iX_n, nI_add, pk_mul, pk_sub, n_and, n_or, n_xor, n_one, n_ush, n_shr, n_div, n_rem, n_ltm, m_ltn, m_ltm, n_eqm, m_eqn, m_eqm, n_lt, n_eq, n_eq0, n_addm, n_i2l, m_i2l, n_l2i, lN_add, lN_mul, lN_sub, l_div, l_rem, l_eq0, lc_lt, lc_gt, lc_eq, l_lt, l_eq, l_ltm, ml_ltn, ml_ltm, l_eqm, ml_eqn, ml_eqm, ls_1, ls_2, ls_3, ls_4, ls_5, ls_6, ls_7, ls_8, ls_10, ls_11, ls_12, ls_13, ls_14, ls_15, ls_16, ls_17, ob_0, ob_9, rf_0, rf_9, t_cNoSum h.1 g, ht, hA, hv14, h5, hsw]
        · rw [zE_W []]
          simp (disch := omega) only [tt_226, T_226, mx_226, Nat.reduceLT, Nat.reduceLeDiff, Nat.reduceEqDiff, Nat.reduceAdd, Nat.reduceMul, Nat.reduceSub, Nat.reducePow, Nat.reduceMod, Nat.reduceDiv, Nat.reduceBEq, ↓reduceIte, reduceCtorEq, and_true, true_and, and_false, false_and, and_self, zW_eq, zin, zop, zst, fw_ite, fw_K, fw_R, fw_F, fw_C, zBW_s, nth, stL, okL, nlg, ct, ctv, cI, cL, pu, tkC, iniL, pad, eL, Value.category, swK, bz_0, bz_n0, bz_n1, bI_bz, bI_0, bI_t, bI_f, List.headD_cons, decide_true, decide_false, Bool.true_and, Bool.and_true, Bool.false_and, Bool.and_false, Bool.and_self, Bool.not_true, Bool.not_false, Bool.or_false, Bool.false_or, Bool.true_or, Bool.or_true, Bool.or_self, Bool.false_eq_true, rf_45, rf_47, rf_49, rf_50, rf_51, rf_58, rf_63, rf_65, rf_267, rf45, rf50, rf58, rf63, rf267, ob_45, ob_49, ob_50, ob_58, ob_63, ob_267, ln_46, ln_46n, ln_46m, ln_47, ln_47n, ln_48, ln_48n, ln_51, ln_56, ln_57, ln_59, ln_60, ln_61, ln_62, ln_64, ln_64n, ln_65, ln_268, ln_269, ln_270, ln_270n, ln_271, ln_271n, ln_272, ln_272n, ln_272m, ln_273, ln_274, ln_275, ln_276, ln_277, ln_278, ln_278n, ln_279, ln_280, ln_281, ln_282, ln_283, ln_283n, ln_284, ln_285, ln_286, ln_286n, ln_287, ln_287n, ln_288, ln_289, ln_289n, gF_sF, gF_sG, gF_sI, gF_sJ, gF_sP, gF_sR, gF_sL, gG_sF, gG_sG, gG_sI, gG_sJ, gG_sP, gG_sR, gG_sL, gI_sF, gI_sG, gI_sI, gI_sJ, gI_sP, gI_sR, gI_sL, gJ_sF, gJ_sG, gJ_sI, gJ_sJ, gJ_sP, gJ_sR, gJ_sL, gP_sF, gP_sG, gP_sI, gP_sJ, gP_sP, gP_sR, gP_sL, inB_n, inC_n, iX_n, nI_add, pk_mul, pk_sub, n_and, n_or, n_xor, n_one, n_ush, n_shr, n_div, n_rem, n_ltm, m_ltn, m_ltm, n_eqm, m_eqn, m_eqm, n_lt, n_eq, n_eq0, n_addm, n_i2l, m_i2l, n_l2i, lN_add, lN_mul, lN_sub, l_div, l_rem, l_eq0, lc_lt, lc_gt, lc_eq, l_lt, l_eq, l_ltm, ml_ltn, ml_ltm, l_eqm, ml_eqn, ml_eqm, ls_1, ls_2, ls_3, ls_4, ls_5, ls_6, ls_7, ls_8, ls_10, ls_11, ls_12, ls_13, ls_14, ls_15, ls_16, ls_17, ob_0, ob_9, rf_0, rf_9, t_isTurn hT1 g, ht, hM, h5, b3, t_canSwap hT1 g hv h5, hx, beq_self_eq_true]
      · have hsw := t_makeSwap hc g hv h5
        rw [if_neg hx] at hsw
        have e1 : zE 115 [.ref 45, .int (nI v)] w = some (some (.int (bI ((A.2.2.1.1 5).testBit (A.2.2.1.2 1 v)))), wSw 0 A.2.2.1 v w) := by
          rw [zE_W []]
          simp (disch := omega) only [tt_115, T_115, mx_115, Nat.reduceLT, Nat.reduceLeDiff, Nat.reduceEqDiff, Nat.reduceAdd, Nat.reduceMul, Nat.reduceSub, Nat.reducePow, Nat.reduceMod, Nat.reduceDiv, Nat.reduceBEq, ↓reduceIte, reduceCtorEq, and_true, true_and, and_false, false_and, and_self, zW_eq, zin, zop, zst, fw_ite, fw_K, fw_R, fw_F, fw_C, zBW_s, nth, stL, okL, nlg, ct, ctv, cI, cL, pu, tkC, iniL, pad, eL, Value.category, swK, bz_0, bz_n0, bz_n1, bI_bz, bI_0, bI_t, bI_f, List.headD_cons, decide_true, decide_false, Bool.true_and, Bool.and_true, Bool.false_and, Bool.and_false, Bool.and_self, Bool.not_true, Bool.not_false, Bool.or_false, Bool.false_or, Bool.true_or, Bool.or_true, Bool.or_self, Bool.false_eq_true, rf_45, rf_47, rf_49, rf_50, rf_51, rf_58, rf_63, rf_65, rf_267, rf45, rf50, rf58, rf63, rf267, ob_45, ob_49, ob_50, ob_58, ob_63, ob_267, ln_46, ln_46n, ln_46m, ln_47, ln_47n, ln_48, ln_48n, ln_51, ln_56, ln_57, ln_59, ln_60, ln_61, ln_62, ln_64, ln_64n, ln_65, ln_268, ln_269, ln_270, ln_270n, ln_271, ln_271n, ln_272, ln_272n, ln_272m, ln_273, ln_274, ln_275, ln_276, ln_277, ln_278, ln_278n, ln_279, ln_280, ln_281, ln_282, ln_283, ln_283n, ln_284, ln_285, ln_286, ln_286n, ln_287, ln_287n, ln_288, ln_289, ln_289n, gF_sF, gF_sG, gF_sI, gF_sJ, gF_sP, gF_sR, gF_sL, gG_sF, gG_sG, gG_sI, gG_sJ, gG_sP, gG_sR, gG_sL, gI_sF, gI_sG, gI_sI, gI_sJ, gI_sP, gI_sR, gI_sL, gJ_sF, gJ_sG, gJ_sI, gJ_sJ, gJ_sP, gJ_sR, gJ_sL, gP_sF, gP_sG, gP_sI, gP_sJ, gP_sP, gP_sR, gP_sL, inB_n, inC_n, iX_n, nI_add, pk_mul, pk_sub, n_and, n_or, n_xor, n_one, n_ush, n_shr, n_div, n_rem, n_ltm, m_ltn, m_ltm, n_eqm, m_eqn, m_eqm, n_lt, n_eq, n_eq0, n_addm, n_i2l, m_i2l, n_l2i, lN_add, lN_mul, lN_sub, l_div, l_rem, l_eq0, lc_lt, lc_gt, lc_eq, l_lt, l_eq, l_ltm, ml_ltn, ml_ltm, l_eqm, ml_eqn, ml_eqm, ls_1, ls_2, ls_3, ls_4, ls_5, ls_6, ls_7, ls_8, ls_10, ls_11, ls_12, ls_13, ls_14, ls_15, ls_16, ls_17, ob_0, ob_9, rf_0, rf_9, t_cNoSum h.1 g, ht, hA, hv14, h5, hsw]
        have hs1 : SmO (fun c => c < 9) w (wSw 0 A.2.2.1 v w) := SmO.wk (SmO.sw (k := 0)) (fun c hc => by omega)
        have hw1 := hc.sw (v := v) (by omega) hx
        generalize wSw 0 A.2.2.1 v w = w1 at e1 hs1 hw1
        have hTx : MoT A.2.2.1 w1 := hT.sm hs1 (by decide) (by decide) (by decide)
        have hBx : MoB 0 A.2.2.1 w1 := hB.sm hs1 (by decide) (by decide)
        have hTa : MoT A.2.2.1 (sF w1 267 0 (nI 0)) := hTx
        have hBa : MoB 0 A.2.2.1 (sF w1 267 0 (nI 0)) := hBx
        have b3 := hBx.2.2.2.1
        simp only [Nat.mul_zero, Nat.zero_add] at b3
        have hM := (hTx.2.2 v hv).1
        have hg := g.sw hv h5 hx
        have hB2 := hBa.sw (v := v) (by omega) hx
        have hst := t_isStanding hB2 hg (show 0 < 6 by decide) hv14
        have hz : ((swS A.2.2.1 v).1 5).testBit v = (A.2.2.1.1 5).testBit (A.2.2.1.2 1 v) := by
          rw [sw_T.2.2.2.2.2, sw_tb (by omega), if_pos (Or.inl rfl)]
          cases z1 : (A.2.2.1.1 5).testBit v <;> cases z2 : (A.2.2.1.1 5).testBit (A.2.2.1.2 1 v) <;> simp_all
        rw [hz] at hst
        have hxb : ((A.2.2.1.1 5).testBit v == (A.2.2.1.1 5).testBit (A.2.2.1.2 1 v)) = false := by simpa using hx
        have e2 : zE 226 [.ref 267, .int (nI v)] w1 = some (some (.int (bI ((A.2.2.1.1 5).testBit (A.2.2.1.2 1 v)))), mSw 0 A.2.2.1 v (sF w1 267 0 (nI 0))) := by
          rw [zE_W []]
          cases z : (A.2.2.1.1 5).testBit (A.2.2.1.2 1 v) with
          | true =>
            rw [z] at hst
            simp (disch := omega) only [tt_226, T_226, mx_226, Nat.reduceLT, Nat.reduceLeDiff, Nat.reduceEqDiff, Nat.reduceAdd, Nat.reduceMul, Nat.reduceSub, Nat.reducePow, Nat.reduceMod, Nat.reduceDiv, Nat.reduceBEq, ↓reduceIte, reduceCtorEq, and_true, true_and, and_false, false_and, and_self, zW_eq, zin, zop, zst, fw_ite, fw_K, fw_R, fw_F, fw_C, zBW_s, nth, stL, okL, nlg, ct, ctv, cI, cL, pu, tkC, iniL, pad, eL, Value.category, swK, bz_0, bz_n0, bz_n1, bI_bz, bI_0, bI_t, bI_f, List.headD_cons, decide_true, decide_false, Bool.true_and, Bool.and_true, Bool.false_and, Bool.and_false, Bool.and_self, Bool.not_true, Bool.not_false, Bool.or_false, Bool.false_or, Bool.true_or, Bool.or_true, Bool.or_self, Bool.false_eq_true, rf_45, rf_47, rf_49, rf_50, rf_51, rf_58, rf_63, rf_65, rf_267, rf45, rf50, rf58, rf63, rf267, ob_45, ob_49, ob_50, ob_58, ob_63, ob_267, ln_46, ln_46n, ln_46m, ln_47, ln_47n, ln_48, ln_48n, ln_51, ln_56, ln_57, ln_59, ln_60, ln_61, ln_62, ln_64, ln_64n, ln_65, ln_268, ln_269, ln_270, ln_270n, ln_271, ln_271n, ln_272, ln_272n, ln_272m, ln_273, ln_274, ln_275, ln_276, ln_277, ln_278, ln_278n, ln_279, ln_280, ln_281, ln_282, ln_283, ln_283n, ln_284, ln_285, ln_286, ln_286n, ln_287, ln_287n, ln_288, ln_289, ln_289n, gF_sF, gF_sG, gF_sI, gF_sJ, gF_sP, gF_sR, gF_sL, gG_sF, gG_sG, gG_sI, gG_sJ, gG_sP, gG_sR, gG_sL, gI_sF, gI_sG, gI_sI, gI_sJ, gI_sP, gI_sR, gI_sL, gJ_sF, gJ_sG, gJ_sI, gJ_sJ, gJ_sP, gJ_sR, gJ_sL, gP_sF, gP_sG, gP_sI, gP_sJ, gP_sP, gP_sR, gP_sL, inB_n, inC_n, iX_n, nI_add, pk_mul, pk_sub, n_and, n_or, n_xor, n_one, n_ush, n_shr, n_div, n_rem, n_ltm, m_ltn, m_ltm, n_eqm, m_eqn, m_eqm, n_lt, n_eq, n_eq0, n_addm, n_i2l, m_i2l, n_l2i, lN_add, lN_mul, lN_sub, l_div, l_rem, l_eq0, lc_lt, lc_gt, lc_eq, l_lt, l_eq, l_ltm, ml_ltn, ml_ltm, l_eqm, ml_eqn, ml_eqm, ls_1, ls_2, ls_3, ls_4, ls_5, ls_6, ls_7, ls_8, ls_10, ls_11, ls_12, ls_13, ls_14, ls_15, ls_16, ls_17, ob_0, ob_9, rf_0, rf_9, t_isTurn hTa g, ht, hM, h5, b3, t_canSwap hTa g hv h5, hxb, t_swaps hTa hBa g (show 0 < 6 by decide) hv h5 hx, hst]
          | false =>
            rw [z] at hst
            simp (disch := omega) only [tt_226, T_226, mx_226, Nat.reduceLT, Nat.reduceLeDiff, Nat.reduceEqDiff, Nat.reduceAdd, Nat.reduceMul, Nat.reduceSub, Nat.reducePow, Nat.reduceMod, Nat.reduceDiv, Nat.reduceBEq, ↓reduceIte, reduceCtorEq, and_true, true_and, and_false, false_and, and_self, zW_eq, zin, zop, zst, fw_ite, fw_K, fw_R, fw_F, fw_C, zBW_s, nth, stL, okL, nlg, ct, ctv, cI, cL, pu, tkC, iniL, pad, eL, Value.category, swK, bz_0, bz_n0, bz_n1, bI_bz, bI_0, bI_t, bI_f, List.headD_cons, decide_true, decide_false, Bool.true_and, Bool.and_true, Bool.false_and, Bool.and_false, Bool.and_self, Bool.not_true, Bool.not_false, Bool.or_false, Bool.false_or, Bool.true_or, Bool.or_true, Bool.or_self, Bool.false_eq_true, rf_45, rf_47, rf_49, rf_50, rf_51, rf_58, rf_63, rf_65, rf_267, rf45, rf50, rf58, rf63, rf267, ob_45, ob_49, ob_50, ob_58, ob_63, ob_267, ln_46, ln_46n, ln_46m, ln_47, ln_47n, ln_48, ln_48n, ln_51, ln_56, ln_57, ln_59, ln_60, ln_61, ln_62, ln_64, ln_64n, ln_65, ln_268, ln_269, ln_270, ln_270n, ln_271, ln_271n, ln_272, ln_272n, ln_272m, ln_273, ln_274, ln_275, ln_276, ln_277, ln_278, ln_278n, ln_279, ln_280, ln_281, ln_282, ln_283, ln_283n, ln_284, ln_285, ln_286, ln_286n, ln_287, ln_287n, ln_288, ln_289, ln_289n, gF_sF, gF_sG, gF_sI, gF_sJ, gF_sP, gF_sR, gF_sL, gG_sF, gG_sG, gG_sI, gG_sJ, gG_sP, gG_sR, gG_sL, gI_sF, gI_sG, gI_sI, gI_sJ, gI_sP, gI_sR, gI_sL, gJ_sF, gJ_sG, gJ_sI, gJ_sJ, gJ_sP, gJ_sR, gJ_sL, gP_sF, gP_sG, gP_sI, gP_sJ, gP_sP, gP_sR, gP_sL, inB_n, inC_n, iX_n, nI_add, pk_mul, pk_sub, n_and, n_or, n_xor, n_one, n_ush, n_shr, n_div, n_rem, n_ltm, m_ltn, m_ltm, n_eqm, m_eqn, m_eqm, n_lt, n_eq, n_eq0, n_addm, n_i2l, m_i2l, n_l2i, lN_add, lN_mul, lN_sub, l_div, l_rem, l_eq0, lc_lt, lc_gt, lc_eq, l_lt, l_eq, l_ltm, ml_ltn, ml_ltm, l_eqm, ml_eqn, ml_eqm, ls_1, ls_2, ls_3, ls_4, ls_5, ls_6, ls_7, ls_8, ls_10, ls_11, ls_12, ls_13, ls_14, ls_15, ls_16, ls_17, ob_0, ob_9, rf_0, rf_9, t_isTurn hTa g, ht, hM, h5, b3, t_canSwap hTa g hv h5, hxb, t_swaps hTa hBa g (show 0 < 6 by decide) hv h5 hx, hst]
        have hke : ∀ w0 : Wd, MoKeep w0 (mSw 0 A.2.2.1 v w0) := by
          intro w0
          unfold mSw
          split
          · exact (MoKeep.sI _ _ _ _ (by omega)).tr (MoKeep.sI _ _ _ _ (by omega))
          · exact (MoKeep.sI _ _ _ _ (by omega)).tr (MoKeep.sI _ _ _ _ (by omega))
        have hmT : ∀ w0 : Wd, MoT A.2.2.1 w0 → MoT (swS A.2.2.1 v) (mSw 0 A.2.2.1 v w0) := by
          intro w0 h0
          obtain ⟨t1, t2, t3, t4, t5, t6⟩ := sw_T (sc := A.2.2.1) (v := v)
          refine h0.to t1 t2 t3 t4 t5 (fun i => ?_) (fun i => ?_) (fun i => ?_) <;>
            (unfold mSw; split <;> simp only [gI_sI] <;> simp)
        exact Pair.ch h (by simp [okV]) e1 hs1 hw1 e2 ((MoKeep.sF _ 0 _ (by decide)).tr (hke _)) (hmT _ hTa) hB2 hg
    · refine key (mI 2) ?_ ?_
      · rw [zE_W []]
        simp (disch := omega) only [tt_115, T_115, mx_115, Nat.reduceLT, Nat.reduceLeDiff, Nat.reduceEqDiff, Nat.reduceAdd, Nat.reduceMul, Nat.reduceSub, Nat.reducePow, Nat.reduceMod, Nat.reduceDiv, Nat.reduceBEq, ↓reduceIte, reduceCtorEq, and_true, true_and, and_false, false_and, and_self, zW_eq, zin, zop, zst, fw_ite, fw_K, fw_R, fw_F, fw_C, zBW_s, nth, stL, okL, nlg, ct, ctv, cI, cL, pu, tkC, iniL, pad, eL, Value.category, swK, bz_0, bz_n0, bz_n1, bI_bz, bI_0, bI_t, bI_f, List.headD_cons, decide_true, decide_false, Bool.true_and, Bool.and_true, Bool.false_and, Bool.and_false, Bool.and_self, Bool.not_true, Bool.not_false, Bool.or_false, Bool.false_or, Bool.true_or, Bool.or_true, Bool.or_self, Bool.false_eq_true, rf_45, rf_47, rf_49, rf_50, rf_51, rf_58, rf_63, rf_65, rf_267, rf45, rf50, rf58, rf63, rf267, ob_45, ob_49, ob_50, ob_58, ob_63, ob_267, ln_46, ln_46n, ln_46m, ln_47, ln_47n, ln_48, ln_48n, ln_51, ln_56, ln_57, ln_59, ln_60, ln_61, ln_62, ln_64, ln_64n, ln_65, ln_268, ln_269, ln_270, ln_270n, ln_271, ln_271n, ln_272, ln_272n, ln_272m, ln_273, ln_274, ln_275, ln_276, ln_277, ln_278, ln_278n, ln_279, ln_280, ln_281, ln_282, ln_283, ln_283n, ln_284, ln_285, ln_286, ln_286n, ln_287, ln_287n, ln_288, ln_289, ln_289n, gF_sF, gF_sG, gF_sI, gF_sJ, gF_sP, gF_sR, gF_sL, gG_sF, gG_sG, gG_sI, gG_sJ, gG_sP, gG_sR, gG_sL, gI_sF, gI_sG, gI_sI, gI_sJ, gI_sP, gI_sR, gI_sL, gJ_sF, gJ_sG, gJ_sI, gJ_sJ, gJ_sP, gJ_sR, gJ_sL, gP_sF, gP_sG, gP_sI, gP_sJ, gP_sP, gP_sR, gP_sL, inB_n, inC_n, iX_n, nI_add, pk_mul, pk_sub, n_and, n_or, n_xor, n_one, n_ush, n_shr, n_div, n_rem, n_ltm, m_ltn, m_ltm, n_eqm, m_eqn, m_eqm, n_lt, n_eq, n_eq0, n_addm, n_i2l, m_i2l, n_l2i, lN_add, lN_mul, lN_sub, l_div, l_rem, l_eq0, lc_lt, lc_gt, lc_eq, l_lt, l_eq, l_ltm, ml_ltn, ml_ltm, l_eqm, ml_eqn, ml_eqm, ls_1, ls_2, ls_3, ls_4, ls_5, ls_6, ls_7, ls_8, ls_10, ls_11, ls_12, ls_13, ls_14, ls_15, ls_16, ls_17, ob_0, ob_9, rf_0, rf_9, t_cNoSum h.1 g, ht, hA, hv14, h5]
      · rw [zE_W []]
        simp (disch := omega) only [tt_226, T_226, mx_226, Nat.reduceLT, Nat.reduceLeDiff, Nat.reduceEqDiff, Nat.reduceAdd, Nat.reduceMul, Nat.reduceSub, Nat.reducePow, Nat.reduceMod, Nat.reduceDiv, Nat.reduceBEq, ↓reduceIte, reduceCtorEq, and_true, true_and, and_false, false_and, and_self, zW_eq, zin, zop, zst, fw_ite, fw_K, fw_R, fw_F, fw_C, zBW_s, nth, stL, okL, nlg, ct, ctv, cI, cL, pu, tkC, iniL, pad, eL, Value.category, swK, bz_0, bz_n0, bz_n1, bI_bz, bI_0, bI_t, bI_f, List.headD_cons, decide_true, decide_false, Bool.true_and, Bool.and_true, Bool.false_and, Bool.and_false, Bool.and_self, Bool.not_true, Bool.not_false, Bool.or_false, Bool.false_or, Bool.true_or, Bool.or_true, Bool.or_self, Bool.false_eq_true, rf_45, rf_47, rf_49, rf_50, rf_51, rf_58, rf_63, rf_65, rf_267, rf45, rf50, rf58, rf63, rf267, ob_45, ob_49, ob_50, ob_58, ob_63, ob_267, ln_46, ln_46n, ln_46m, ln_47, ln_47n, ln_48, ln_48n, ln_51, ln_56, ln_57, ln_59, ln_60, ln_61, ln_62, ln_64, ln_64n, ln_65, ln_268, ln_269, ln_270, ln_270n, ln_271, ln_271n, ln_272, ln_272n, ln_272m, ln_273, ln_274, ln_275, ln_276, ln_277, ln_278, ln_278n, ln_279, ln_280, ln_281, ln_282, ln_283, ln_283n, ln_284, ln_285, ln_286, ln_286n, ln_287, ln_287n, ln_288, ln_289, ln_289n, gF_sF, gF_sG, gF_sI, gF_sJ, gF_sP, gF_sR, gF_sL, gG_sF, gG_sG, gG_sI, gG_sJ, gG_sP, gG_sR, gG_sL, gI_sF, gI_sG, gI_sI, gI_sJ, gI_sP, gI_sR, gI_sL, gJ_sF, gJ_sG, gJ_sI, gJ_sJ, gJ_sP, gJ_sR, gJ_sL, gP_sF, gP_sG, gP_sI, gP_sJ, gP_sP, gP_sR, gP_sL, inB_n, inC_n, iX_n, nI_add, pk_mul, pk_sub, n_and, n_or, n_xor, n_one, n_ush, n_shr, n_div, n_rem, n_ltm, m_ltn, m_ltm, n_eqm, m_eqn, m_eqm, n_lt, n_eq, n_eq0, n_addm, n_i2l, m_i2l, n_l2i, lN_add, lN_mul, lN_sub, l_div, l_rem, l_eq0, lc_lt, lc_gt, lc_eq, l_lt, l_eq, l_ltm, ml_ltn, ml_ltm, l_eqm, ml_eqn, ml_eqm, ls_1, ls_2, ls_3, ls_4, ls_5, ls_6, ls_7, ls_8, ls_10, ls_11, ls_12, ls_13, ls_14, ls_15, ls_16, ls_17, ob_0, ob_9, rf_0, rf_9, t_isTurn hT1 g, ht, hM, h5]
  · refine key (mI 2) ?_ ?_
    · rw [zE_W []]
      simp (disch := omega) only [tt_115, T_115, mx_115, Nat.reduceLT, Nat.reduceLeDiff, Nat.reduceEqDiff, Nat.reduceAdd, Nat.reduceMul, Nat.reduceSub, Nat.reducePow, Nat.reduceMod, Nat.reduceDiv, Nat.reduceBEq, ↓reduceIte, reduceCtorEq, and_true, true_and, and_false, false_and, and_self, zW_eq, zin, zop, zst, fw_ite, fw_K, fw_R, fw_F, fw_C, zBW_s, nth, stL, okL, nlg, ct, ctv, cI, cL, pu, tkC, iniL, pad, eL, Value.category, swK, bz_0, bz_n0, bz_n1, bI_bz, bI_0, bI_t, bI_f, List.headD_cons, decide_true, decide_false, Bool.true_and, Bool.and_true, Bool.false_and, Bool.and_false, Bool.and_self, Bool.not_true, Bool.not_false, Bool.or_false, Bool.false_or, Bool.true_or, Bool.or_true, Bool.or_self, Bool.false_eq_true, rf_45, rf_47, rf_49, rf_50, rf_51, rf_58, rf_63, rf_65, rf_267, rf45, rf50, rf58, rf63, rf267, ob_45, ob_49, ob_50, ob_58, ob_63, ob_267, ln_46, ln_46n, ln_46m, ln_47, ln_47n, ln_48, ln_48n, ln_51, ln_56, ln_57, ln_59, ln_60, ln_61, ln_62, ln_64, ln_64n, ln_65, ln_268, ln_269, ln_270, ln_270n, ln_271, ln_271n, ln_272, ln_272n, ln_272m, ln_273, ln_274, ln_275, ln_276, ln_277, ln_278, ln_278n, ln_279, ln_280, ln_281, ln_282, ln_283, ln_283n, ln_284, ln_285, ln_286, ln_286n, ln_287, ln_287n, ln_288, ln_289, ln_289n, gF_sF, gF_sG, gF_sI, gF_sJ, gF_sP, gF_sR, gF_sL, gG_sF, gG_sG, gG_sI, gG_sJ, gG_sP, gG_sR, gG_sL, gI_sF, gI_sG, gI_sI, gI_sJ, gI_sP, gI_sR, gI_sL, gJ_sF, gJ_sG, gJ_sI, gJ_sJ, gJ_sP, gJ_sR, gJ_sL, gP_sF, gP_sG, gP_sI, gP_sJ, gP_sP, gP_sR, gP_sL, inB_n, inC_n, iX_n, nI_add, pk_mul, pk_sub, n_and, n_or, n_xor, n_one, n_ush, n_shr, n_div, n_rem, n_ltm, m_ltn, m_ltm, n_eqm, m_eqn, m_eqm, n_lt, n_eq, n_eq0, n_addm, n_i2l, m_i2l, n_l2i, lN_add, lN_mul, lN_sub, l_div, l_rem, l_eq0, lc_lt, lc_gt, lc_eq, l_lt, l_eq, l_ltm, ml_ltn, ml_ltm, l_eqm, ml_eqn, ml_eqm, ls_1, ls_2, ls_3, ls_4, ls_5, ls_6, ls_7, ls_8, ls_10, ls_11, ls_12, ls_13, ls_14, ls_15, ls_16, ls_17, ob_0, ob_9, rf_0, rf_9, t_cNoSum h.1 g, e]
    · rw [zE_W []]
      simp (disch := omega) only [tt_226, T_226, mx_226, Nat.reduceLT, Nat.reduceLeDiff, Nat.reduceEqDiff, Nat.reduceAdd, Nat.reduceMul, Nat.reduceSub, Nat.reducePow, Nat.reduceMod, Nat.reduceDiv, Nat.reduceBEq, ↓reduceIte, reduceCtorEq, and_true, true_and, and_false, false_and, and_self, zW_eq, zin, zop, zst, fw_ite, fw_K, fw_R, fw_F, fw_C, zBW_s, nth, stL, okL, nlg, ct, ctv, cI, cL, pu, tkC, iniL, pad, eL, Value.category, swK, bz_0, bz_n0, bz_n1, bI_bz, bI_0, bI_t, bI_f, List.headD_cons, decide_true, decide_false, Bool.true_and, Bool.and_true, Bool.false_and, Bool.and_false, Bool.and_self, Bool.not_true, Bool.not_false, Bool.or_false, Bool.false_or, Bool.true_or, Bool.or_true, Bool.or_self, Bool.false_eq_true, rf_45, rf_47, rf_49, rf_50, rf_51, rf_58, rf_63, rf_65, rf_267, rf45, rf50, rf58, rf63, rf267, ob_45, ob_49, ob_50, ob_58, ob_63, ob_267, ln_46, ln_46n, ln_46m, ln_47, ln_47n, ln_48, ln_48n, ln_51, ln_56, ln_57, ln_59, ln_60, ln_61, ln_62, ln_64, ln_64n, ln_65, ln_268, ln_269, ln_270, ln_270n, ln_271, ln_271n, ln_272, ln_272n, ln_272m, ln_273, ln_274, ln_275, ln_276, ln_277, ln_278, ln_278n, ln_279, ln_280, ln_281, ln_282, ln_283, ln_283n, ln_284, ln_285, ln_286, ln_286n, ln_287, ln_287n, ln_288, ln_289, ln_289n, gF_sF, gF_sG, gF_sI, gF_sJ, gF_sP, gF_sR, gF_sL, gG_sF, gG_sG, gG_sI, gG_sJ, gG_sP, gG_sR, gG_sL, gI_sF, gI_sG, gI_sI, gI_sJ, gI_sP, gI_sR, gI_sL, gJ_sF, gJ_sG, gJ_sI, gJ_sJ, gJ_sP, gJ_sR, gJ_sL, gP_sF, gP_sG, gP_sI, gP_sJ, gP_sP, gP_sR, gP_sL, inB_n, inC_n, iX_n, nI_add, pk_mul, pk_sub, n_and, n_or, n_xor, n_one, n_ush, n_shr, n_div, n_rem, n_ltm, m_ltn, m_ltm, n_eqm, m_eqn, m_eqm, n_lt, n_eq, n_eq0, n_addm, n_i2l, m_i2l, n_l2i, lN_add, lN_mul, lN_sub, l_div, l_rem, l_eq0, lc_lt, lc_gt, lc_eq, l_lt, l_eq, l_ltm, ml_ltn, ml_ltm, l_eqm, ml_eqn, ml_eqm, ls_1, ls_2, ls_3, ls_4, ls_5, ls_6, ls_7, ls_8, ls_10, ls_11, ls_12, ls_13, ls_14, ls_15, ls_16, ls_17, ob_0, ob_9, rf_0, rf_9, t_isTurn hT1 g, e]
