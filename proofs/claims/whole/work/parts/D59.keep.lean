/-! ===== keep, cost ===== -/
def bkS (F : Nat → Option Nat) (st : Nat) : Nat → Option Nat
  | 0 => none
  | p + 1 => if p &&& st = p then (match F p, bkS F st p with
    | none, b => b
    | some _, none => some p
    | some d, some b => match F b with
      | some e => if d < e then some p else some b
      | none => some b) else bkS F st p
theorem bkS_t {F : Nat → Option Nat} {st p : Nat} (h : p &&& st = p) : bkS F st (p + 1) = match F p, bkS F st p with
    | none, b => b
    | some _, none => some p
    | some d, some b => match F b with
      | some e => if d < e then some p else some b
      | none => some b := if_pos h
theorem bkS_f {F : Nat → Option Nat} {st p : Nat} (h : ¬ p &&& st = p) : bkS F st (p + 1) = bkS F st p := if_neg h
theorem bkS_m {F : Nat → Option Nat} {st : Nat} : ∀ N b, bkS F st N = some b → b < N ∧ ∃ D, F b = some D := by
  intro N
  induction N with
  | zero => intro b h; cases h
  | succ N ih =>
    intro b h
    by_cases z : N &&& st = N
    · rw [bkS_t z] at h
      cases hF : F N with
      | none =>
        rw [hF] at h
        have := ih b h
        exact ⟨by omega, this.2⟩
      | some d =>
        rw [hF] at h
        cases hb : bkS F st N with
        | none =>
          rw [hb] at h
          cases h
          exact ⟨by omega, d, hF⟩
        | some b0 =>
          rw [hb] at h
          obtain ⟨h1, D, h2⟩ := ih b0 hb
          dsimp only at h
          rw [h2] at h
          dsimp only at h
          split at h
          · cases h; exact ⟨by omega, d, hF⟩
          · cases h; exact ⟨by omega, D, h2⟩
    · rw [bkS_f z] at h
      have := ih b h
      exact ⟨by omega, this.2⟩
theorem bkS_gap {F : Nat → Option Nat} {st : Nat} : ∀ d, bkS F st (st + 1 + d) = bkS F st (st + 1) := by
  intro d
  induction d with
  | zero => rfl
  | succ d ih =>
    have : ¬ (st + 1 + d) &&& st = st + 1 + d := by
      intro z
      have : (st + 1 + d) &&& st ≤ st := Nat.and_le_right
      omega
    rw [← Nat.add_assoc, bkS_f this]
    exact ih
set_option maxHeartbeats 4000000 in
theorem c_best {A : Ab} {w : Wd} (h : Rel A w) {lim set : Nat} (hlim : lim < 2 ^ 31) (hset : set < 2 ^ A.2.2.1.1 4) : ∃ w', zE 142 [.ref 45, .int (nI set), .int (nI lim)] w = some (some (.int (dI (bkS (dsG A.2.2.1 lim set false) (A.2.2.1.1 5) (A.2.2.1.1 5 + 1)))), w') ∧ SfC (gP w 3) (gP w 4) w w' ∧ gP w' 3 = gP w 3 ∧ (∀ p, p < 2 ^ A.2.2.1.1 4 → gI w' (gP w 3) p = dI (dsG A.2.2.1 lim set false p)) ∧ ∀ p k, dsG A.2.2.1 lim set false p = some k → k < 16384 := by
  have g := h.g
  have hst := g.2.1
  have hs14 := g.st
  have h16 := p14 g
  have la := h.ab.la
  obtain ⟨w1, b1, b2, b3, b4, b5, b6⟩ := c_goal h hlim hset
  refine ⟨w1, ?_, b2, b3, b5, b6⟩
  have h5 := b4.2.1 5 (by decide)
  generalize hS : A.2.2.1.1 5 = S at *
  generalize hF : dsG A.2.2.1 lim set false = F at *
  have lp : ∀ d p, p + d = S + 1 → ∃ R, (∀ X, zR 142 14 [.ref 45, .int (nI set), .int (nI lim), .int (dI (bkS F S p)), .int (nI p), X] [] w1 = R) ∧ R = some (some (.int (dI (bkS F S (S + 1)))), w1) := by
    intro d
    induction d with
    | zero =>
      intro p hp
      have hp : p = S + 1 := by omega
      refine ⟨_, fun X => ?_, rfl⟩
      have q : S < S + 1 := by omega
      rw [hp, zR_W [14]]
      simp (disch := omega) only [tt_142, T_142, mx_142, Nat.reduceLT, Nat.reduceLeDiff, Nat.reduceEqDiff, Nat.reduceAdd, Nat.reduceMul, Nat.reduceSub, Nat.reducePow, Nat.reduceMod, Nat.reduceDiv, Nat.reduceBEq, ↓reduceIte, reduceCtorEq, and_true, true_and, and_false, false_and, and_self, zW_eq, zin, zop, zst, fw_ite, fw_K, fw_R, fw_F, fw_C, zBW_s, nth, stL, okL, nlg, ct, ctv, cI, cL, pu, tkC, iniL, pad, eL, Value.category, swK, bz_0, bz_n0, bz_n1, bI_bz, bI_0, bI_t, bI_f, List.headD_cons, decide_true, decide_false, Bool.true_and, Bool.and_true, Bool.false_and, Bool.and_false, Bool.and_self, Bool.not_true, Bool.not_false, Bool.or_false, Bool.false_or, Bool.true_or, Bool.or_true, Bool.or_self, Bool.false_eq_true, rf_45, rf_47, rf_49, rf_50, rf_51, rf_58, rf_63, rf_65, rf_267, rf45, rf50, rf58, rf63, rf267, ob_45, ob_49, ob_50, ob_58, ob_63, ob_267, ln_46, ln_46n, ln_46m, ln_47, ln_47n, ln_48, ln_48n, ln_51, ln_56, ln_57, ln_59, ln_60, ln_61, ln_62, ln_64, ln_64n, ln_65, ln_268, ln_269, ln_270, ln_270n, ln_271, ln_271n, ln_272, ln_272n, ln_272m, ln_273, ln_274, ln_275, ln_276, ln_277, ln_278, ln_278n, ln_279, ln_280, ln_281, ln_282, ln_283, ln_283n, ln_284, ln_285, ln_286, ln_286n, ln_287, ln_287n, ln_288, ln_289, ln_289n, gF_sF, gF_sG, gF_sI, gF_sJ, gF_sP, gF_sR, gF_sL, gG_sF, gG_sG, gG_sI, gG_sJ, gG_sP, gG_sR, gG_sL, gI_sF, gI_sG, gI_sI, gI_sJ, gI_sP, gI_sR, gI_sL, gJ_sF, gJ_sG, gJ_sI, gJ_sJ, gJ_sP, gJ_sR, gJ_sL, gP_sF, gP_sG, gP_sI, gP_sJ, gP_sP, gP_sR, gP_sL, inB_n, inC_n, iX_n, nI_add, pk_mul, pk_sub, n_and, n_or, n_xor, n_one, n_ush, n_shr, n_div, n_rem, n_ltm, m_ltn, m_ltm, n_eqm, m_eqn, m_eqm, n_lt, n_eq, n_eq0, n_addm, n_i2l, m_i2l, n_l2i, lN_add, lN_mul, lN_sub, l_div, l_rem, l_eq0, lc_lt, lc_gt, lc_eq, l_lt, l_eq, l_ltm, ml_ltn, ml_ltm, l_eqm, ml_eqn, ml_eqm, ls_1, ls_2, ls_3, ls_4, ls_5, ls_6, ls_7, ls_8, ls_10, ls_11, ls_12, ls_13, ls_14, ls_15, ls_16, ls_17, ob_0, ob_9, rf_0, rf_9, h5, q]
    | succ d ih =>
      intro p hp
      have q : ¬ S < p := by omega
      have p16 : p < 16384 := by omega
      have hand : p &&& S ≤ p := Nat.and_le_left
      have rp := b5 p (by omega)
      obtain ⟨R, e1, e2⟩ := ih (p + 1) (by omega)
      refine ⟨R, fun X => ?_, e2⟩
      by_cases z : p &&& S = p
      · rw [bkS_t z] at e1
        rw [zR_W [14]]
        cases hp2 : F p with
        | none =>
          rw [hp2] at rp e1
          have rp : gI w1 (gP w 3) p = mI 1 := rp
          dsimp only at e1
          simp (disch := omega) only [tt_142, T_142, mx_142, Nat.reduceLT, Nat.reduceLeDiff, Nat.reduceEqDiff, Nat.reduceAdd, Nat.reduceMul, Nat.reduceSub, Nat.reducePow, Nat.reduceMod, Nat.reduceDiv, Nat.reduceBEq, ↓reduceIte, reduceCtorEq, and_true, true_and, and_false, false_and, and_self, zW_eq, zin, zop, zst, fw_ite, fw_K, fw_R, fw_F, fw_C, zBW_s, nth, stL, okL, nlg, ct, ctv, cI, cL, pu, tkC, iniL, pad, eL, Value.category, swK, bz_0, bz_n0, bz_n1, bI_bz, bI_0, bI_t, bI_f, List.headD_cons, decide_true, decide_false, Bool.true_and, Bool.and_true, Bool.false_and, Bool.and_false, Bool.and_self, Bool.not_true, Bool.not_false, Bool.or_false, Bool.false_or, Bool.true_or, Bool.or_true, Bool.or_self, Bool.false_eq_true, rf_45, rf_47, rf_49, rf_50, rf_51, rf_58, rf_63, rf_65, rf_267, rf45, rf50, rf58, rf63, rf267, ob_45, ob_49, ob_50, ob_58, ob_63, ob_267, ln_46, ln_46n, ln_46m, ln_47, ln_47n, ln_48, ln_48n, ln_51, ln_56, ln_57, ln_59, ln_60, ln_61, ln_62, ln_64, ln_64n, ln_65, ln_268, ln_269, ln_270, ln_270n, ln_271, ln_271n, ln_272, ln_272n, ln_272m, ln_273, ln_274, ln_275, ln_276, ln_277, ln_278, ln_278n, ln_279, ln_280, ln_281, ln_282, ln_283, ln_283n, ln_284, ln_285, ln_286, ln_286n, ln_287, ln_287n, ln_288, ln_289, ln_289n, gF_sF, gF_sG, gF_sI, gF_sJ, gF_sP, gF_sR, gF_sL, gG_sF, gG_sG, gG_sI, gG_sJ, gG_sP, gG_sR, gG_sL, gI_sF, gI_sG, gI_sI, gI_sJ, gI_sP, gI_sR, gI_sL, gJ_sF, gJ_sG, gJ_sI, gJ_sJ, gJ_sP, gJ_sR, gJ_sL, gP_sF, gP_sG, gP_sI, gP_sJ, gP_sP, gP_sR, gP_sL, inB_n, inC_n, iX_n, nI_add, pk_mul, pk_sub, n_and, n_or, n_xor, n_one, n_ush, n_shr, n_div, n_rem, n_ltm, m_ltn, m_ltm, n_eqm, m_eqn, m_eqm, n_lt, n_eq, n_eq0, n_addm, n_i2l, m_i2l, n_l2i, lN_add, lN_mul, lN_sub, l_div, l_rem, l_eq0, lc_lt, lc_gt, lc_eq, l_lt, l_eq, l_ltm, ml_ltn, ml_ltm, l_eqm, ml_eqn, ml_eqm, ls_1, ls_2, ls_3, ls_4, ls_5, ls_6, ls_7, ls_8, ls_10, ls_11, ls_12, ls_13, ls_14, ls_15, ls_16, ls_17, ob_0, ob_9, rf_0, rf_9, h5, q, z, b3, la, p16, rp, e1]
        | some k =>
          have hk := b6 p k hp2
          rw [hp2] at rp e1
          have rp : gI w1 (gP w 3) p = nI k := rp
          cases hb : bkS F S p with
          | none =>
            rw [hb] at e1
            dsimp only [dI] at e1 ⊢
            simp (disch := omega) only [tt_142, T_142, mx_142, Nat.reduceLT, Nat.reduceLeDiff, Nat.reduceEqDiff, Nat.reduceAdd, Nat.reduceMul, Nat.reduceSub, Nat.reducePow, Nat.reduceMod, Nat.reduceDiv, Nat.reduceBEq, ↓reduceIte, reduceCtorEq, and_true, true_and, and_false, false_and, and_self, zW_eq, zin, zop, zst, fw_ite, fw_K, fw_R, fw_F, fw_C, zBW_s, nth, stL, okL, nlg, ct, ctv, cI, cL, pu, tkC, iniL, pad, eL, Value.category, swK, bz_0, bz_n0, bz_n1, bI_bz, bI_0, bI_t, bI_f, List.headD_cons, decide_true, decide_false, Bool.true_and, Bool.and_true, Bool.false_and, Bool.and_false, Bool.and_self, Bool.not_true, Bool.not_false, Bool.or_false, Bool.false_or, Bool.true_or, Bool.or_true, Bool.or_self, Bool.false_eq_true, rf_45, rf_47, rf_49, rf_50, rf_51, rf_58, rf_63, rf_65, rf_267, rf45, rf50, rf58, rf63, rf267, ob_45, ob_49, ob_50, ob_58, ob_63, ob_267, ln_46, ln_46n, ln_46m, ln_47, ln_47n, ln_48, ln_48n, ln_51, ln_56, ln_57, ln_59, ln_60, ln_61, ln_62, ln_64, ln_64n, ln_65, ln_268, ln_269, ln_270, ln_270n, ln_271, ln_271n, ln_272, ln_272n, ln_272m, ln_273, ln_274, ln_275, ln_276, ln_277, ln_278, ln_278n, ln_279, ln_280, ln_281, ln_282, ln_283, ln_283n, ln_284, ln_285, ln_286, ln_286n, ln_287, ln_287n, ln_288, ln_289, ln_289n, gF_sF, gF_sG, gF_sI, gF_sJ, gF_sP, gF_sR, gF_sL, gG_sF, gG_sG, gG_sI, gG_sJ, gG_sP, gG_sR, gG_sL, gI_sF, gI_sG, gI_sI, gI_sJ, gI_sP, gI_sR, gI_sL, gJ_sF, gJ_sG, gJ_sI, gJ_sJ, gJ_sP, gJ_sR, gJ_sL, gP_sF, gP_sG, gP_sI, gP_sJ, gP_sP, gP_sR, gP_sL, inB_n, inC_n, iX_n, nI_add, pk_mul, pk_sub, n_and, n_or, n_xor, n_one, n_ush, n_shr, n_div, n_rem, n_ltm, m_ltn, m_ltm, n_eqm, m_eqn, m_eqm, n_lt, n_eq, n_eq0, n_addm, n_i2l, m_i2l, n_l2i, lN_add, lN_mul, lN_sub, l_div, l_rem, l_eq0, lc_lt, lc_gt, lc_eq, l_lt, l_eq, l_ltm, ml_ltn, ml_ltm, l_eqm, ml_eqn, ml_eqm, ls_1, ls_2, ls_3, ls_4, ls_5, ls_6, ls_7, ls_8, ls_10, ls_11, ls_12, ls_13, ls_14, ls_15, ls_16, ls_17, ob_0, ob_9, rf_0, rf_9, h5, q, z, b3, la, p16, rp, e1]
          | some b0 =>
            obtain ⟨y1, D, y2⟩ := bkS_m p b0 hb
            have rb := b5 b0 (by omega)
            rw [y2] at rb
            have rb : gI w1 (gP w 3) b0 = nI D := rb
            have hD := b6 b0 D y2
            have b16 : b0 < 16384 := by omega
            rw [hb] at e1
            dsimp only at e1
            rw [y2] at e1
            dsimp only at e1
            by_cases y : k < D
            · rw [if_pos y] at e1
              dsimp only [dI] at e1 ⊢
              simp (disch := omega) only [tt_142, T_142, mx_142, Nat.reduceLT, Nat.reduceLeDiff, Nat.reduceEqDiff, Nat.reduceAdd, Nat.reduceMul, Nat.reduceSub, Nat.reducePow, Nat.reduceMod, Nat.reduceDiv, Nat.reduceBEq, ↓reduceIte, reduceCtorEq, and_true, true_and, and_false, false_and, and_self, zW_eq, zin, zop, zst, fw_ite, fw_K, fw_R, fw_F, fw_C, zBW_s, nth, stL, okL, nlg, ct, ctv, cI, cL, pu, tkC, iniL, pad, eL, Value.category, swK, bz_0, bz_n0, bz_n1, bI_bz, bI_0, bI_t, bI_f, List.headD_cons, decide_true, decide_false, Bool.true_and, Bool.and_true, Bool.false_and, Bool.and_false, Bool.and_self, Bool.not_true, Bool.not_false, Bool.or_false, Bool.false_or, Bool.true_or, Bool.or_true, Bool.or_self, Bool.false_eq_true, rf_45, rf_47, rf_49, rf_50, rf_51, rf_58, rf_63, rf_65, rf_267, rf45, rf50, rf58, rf63, rf267, ob_45, ob_49, ob_50, ob_58, ob_63, ob_267, ln_46, ln_46n, ln_46m, ln_47, ln_47n, ln_48, ln_48n, ln_51, ln_56, ln_57, ln_59, ln_60, ln_61, ln_62, ln_64, ln_64n, ln_65, ln_268, ln_269, ln_270, ln_270n, ln_271, ln_271n, ln_272, ln_272n, ln_272m, ln_273, ln_274, ln_275, ln_276, ln_277, ln_278, ln_278n, ln_279, ln_280, ln_281, ln_282, ln_283, ln_283n, ln_284, ln_285, ln_286, ln_286n, ln_287, ln_287n, ln_288, ln_289, ln_289n, gF_sF, gF_sG, gF_sI, gF_sJ, gF_sP, gF_sR, gF_sL, gG_sF, gG_sG, gG_sI, gG_sJ, gG_sP, gG_sR, gG_sL, gI_sF, gI_sG, gI_sI, gI_sJ, gI_sP, gI_sR, gI_sL, gJ_sF, gJ_sG, gJ_sI, gJ_sJ, gJ_sP, gJ_sR, gJ_sL, gP_sF, gP_sG, gP_sI, gP_sJ, gP_sP, gP_sR, gP_sL, inB_n, inC_n, iX_n, nI_add, pk_mul, pk_sub, n_and, n_or, n_xor, n_one, n_ush, n_shr, n_div, n_rem, n_ltm, m_ltn, m_ltm, n_eqm, m_eqn, m_eqm, n_lt, n_eq, n_eq0, n_addm, n_i2l, m_i2l, n_l2i, lN_add, lN_mul, lN_sub, l_div, l_rem, l_eq0, lc_lt, lc_gt, lc_eq, l_lt, l_eq, l_ltm, ml_ltn, ml_ltm, l_eqm, ml_eqn, ml_eqm, ls_1, ls_2, ls_3, ls_4, ls_5, ls_6, ls_7, ls_8, ls_10, ls_11, ls_12, ls_13, ls_14, ls_15, ls_16, ls_17, ob_0, ob_9, rf_0, rf_9, h5, q, z, b3, la, p16, rp, b16, rb, y, e1]
            · rw [if_neg y] at e1
              dsimp only [dI] at e1 ⊢
              simp (disch := omega) only [tt_142, T_142, mx_142, Nat.reduceLT, Nat.reduceLeDiff, Nat.reduceEqDiff, Nat.reduceAdd, Nat.reduceMul, Nat.reduceSub, Nat.reducePow, Nat.reduceMod, Nat.reduceDiv, Nat.reduceBEq, ↓reduceIte, reduceCtorEq, and_true, true_and, and_false, false_and, and_self, zW_eq, zin, zop, zst, fw_ite, fw_K, fw_R, fw_F, fw_C, zBW_s, nth, stL, okL, nlg, ct, ctv, cI, cL, pu, tkC, iniL, pad, eL, Value.category, swK, bz_0, bz_n0, bz_n1, bI_bz, bI_0, bI_t, bI_f, List.headD_cons, decide_true, decide_false, Bool.true_and, Bool.and_true, Bool.false_and, Bool.and_false, Bool.and_self, Bool.not_true, Bool.not_false, Bool.or_false, Bool.false_or, Bool.true_or, Bool.or_true, Bool.or_self, Bool.false_eq_true, rf_45, rf_47, rf_49, rf_50, rf_51, rf_58, rf_63, rf_65, rf_267, rf45, rf50, rf58, rf63, rf267, ob_45, ob_49, ob_50, ob_58, ob_63, ob_267, ln_46, ln_46n, ln_46m, ln_47, ln_47n, ln_48, ln_48n, ln_51, ln_56, ln_57, ln_59, ln_60, ln_61, ln_62, ln_64, ln_64n, ln_65, ln_268, ln_269, ln_270, ln_270n, ln_271, ln_271n, ln_272, ln_272n, ln_272m, ln_273, ln_274, ln_275, ln_276, ln_277, ln_278, ln_278n, ln_279, ln_280, ln_281, ln_282, ln_283, ln_283n, ln_284, ln_285, ln_286, ln_286n, ln_287, ln_287n, ln_288, ln_289, ln_289n, gF_sF, gF_sG, gF_sI, gF_sJ, gF_sP, gF_sR, gF_sL, gG_sF, gG_sG, gG_sI, gG_sJ, gG_sP, gG_sR, gG_sL, gI_sF, gI_sG, gI_sI, gI_sJ, gI_sP, gI_sR, gI_sL, gJ_sF, gJ_sG, gJ_sI, gJ_sJ, gJ_sP, gJ_sR, gJ_sL, gP_sF, gP_sG, gP_sI, gP_sJ, gP_sP, gP_sR, gP_sL, inB_n, inC_n, iX_n, nI_add, pk_mul, pk_sub, n_and, n_or, n_xor, n_one, n_ush, n_shr, n_div, n_rem, n_ltm, m_ltn, m_ltm, n_eqm, m_eqn, m_eqm, n_lt, n_eq, n_eq0, n_addm, n_i2l, m_i2l, n_l2i, lN_add, lN_mul, lN_sub, l_div, l_rem, l_eq0, lc_lt, lc_gt, lc_eq, l_lt, l_eq, l_ltm, ml_ltn, ml_ltm, l_eqm, ml_eqn, ml_eqm, ls_1, ls_2, ls_3, ls_4, ls_5, ls_6, ls_7, ls_8, ls_10, ls_11, ls_12, ls_13, ls_14, ls_15, ls_16, ls_17, ob_0, ob_9, rf_0, rf_9, h5, q, z, b3, la, p16, rp, b16, rb, y, e1]
      · rw [bkS_f z] at e1
        rw [zR_W [14]]
        simp (disch := omega) only [tt_142, T_142, mx_142, Nat.reduceLT, Nat.reduceLeDiff, Nat.reduceEqDiff, Nat.reduceAdd, Nat.reduceMul, Nat.reduceSub, Nat.reducePow, Nat.reduceMod, Nat.reduceDiv, Nat.reduceBEq, ↓reduceIte, reduceCtorEq, and_true, true_and, and_false, false_and, and_self, zW_eq, zin, zop, zst, fw_ite, fw_K, fw_R, fw_F, fw_C, zBW_s, nth, stL, okL, nlg, ct, ctv, cI, cL, pu, tkC, iniL, pad, eL, Value.category, swK, bz_0, bz_n0, bz_n1, bI_bz, bI_0, bI_t, bI_f, List.headD_cons, decide_true, decide_false, Bool.true_and, Bool.and_true, Bool.false_and, Bool.and_false, Bool.and_self, Bool.not_true, Bool.not_false, Bool.or_false, Bool.false_or, Bool.true_or, Bool.or_true, Bool.or_self, Bool.false_eq_true, rf_45, rf_47, rf_49, rf_50, rf_51, rf_58, rf_63, rf_65, rf_267, rf45, rf50, rf58, rf63, rf267, ob_45, ob_49, ob_50, ob_58, ob_63, ob_267, ln_46, ln_46n, ln_46m, ln_47, ln_47n, ln_48, ln_48n, ln_51, ln_56, ln_57, ln_59, ln_60, ln_61, ln_62, ln_64, ln_64n, ln_65, ln_268, ln_269, ln_270, ln_270n, ln_271, ln_271n, ln_272, ln_272n, ln_272m, ln_273, ln_274, ln_275, ln_276, ln_277, ln_278, ln_278n, ln_279, ln_280, ln_281, ln_282, ln_283, ln_283n, ln_284, ln_285, ln_286, ln_286n, ln_287, ln_287n, ln_288, ln_289, ln_289n, gF_sF, gF_sG, gF_sI, gF_sJ, gF_sP, gF_sR, gF_sL, gG_sF, gG_sG, gG_sI, gG_sJ, gG_sP, gG_sR, gG_sL, gI_sF, gI_sG, gI_sI, gI_sJ, gI_sP, gI_sR, gI_sL, gJ_sF, gJ_sG, gJ_sI, gJ_sJ, gJ_sP, gJ_sR, gJ_sL, gP_sF, gP_sG, gP_sI, gP_sJ, gP_sP, gP_sR, gP_sL, inB_n, inC_n, iX_n, nI_add, pk_mul, pk_sub, n_and, n_or, n_xor, n_one, n_ush, n_shr, n_div, n_rem, n_ltm, m_ltn, m_ltm, n_eqm, m_eqn, m_eqm, n_lt, n_eq, n_eq0, n_addm, n_i2l, m_i2l, n_l2i, lN_add, lN_mul, lN_sub, l_div, l_rem, l_eq0, lc_lt, lc_gt, lc_eq, l_lt, l_eq, l_ltm, ml_ltn, ml_ltm, l_eqm, ml_eqn, ml_eqm, ls_1, ls_2, ls_3, ls_4, ls_5, ls_6, ls_7, ls_8, ls_10, ls_11, ls_12, ls_13, ls_14, ls_15, ls_16, ls_17, ob_0, ob_9, rf_0, rf_9, h5, q, z, e1]
  obtain ⟨R, e1, e2⟩ := lp (S + 1) 0 (Nat.zero_add _)
  have e1 := e1 jk
  rw [e2] at e1
  have e1 : zR 142 14 [.ref 45, .int (nI set), .int (nI lim), .int (mI 1), .int (nI 0), jk] [] w1 = _ := e1
  rw [zE_W [14]]
  simp (disch := omega) only [tt_142, T_142, mx_142, Nat.reduceLT, Nat.reduceLeDiff, Nat.reduceEqDiff, Nat.reduceAdd, Nat.reduceMul, Nat.reduceSub, Nat.reducePow, Nat.reduceMod, Nat.reduceDiv, Nat.reduceBEq, ↓reduceIte, reduceCtorEq, and_true, true_and, and_false, false_and, and_self, zW_eq, zin, zop, zst, fw_ite, fw_K, fw_R, fw_F, fw_C, zBW_s, nth, stL, okL, nlg, ct, ctv, cI, cL, pu, tkC, iniL, pad, eL, Value.category, swK, bz_0, bz_n0, bz_n1, bI_bz, bI_0, bI_t, bI_f, List.headD_cons, decide_true, decide_false, Bool.true_and, Bool.and_true, Bool.false_and, Bool.and_false, Bool.and_self, Bool.not_true, Bool.not_false, Bool.or_false, Bool.false_or, Bool.true_or, Bool.or_true, Bool.or_self, Bool.false_eq_true, rf_45, rf_47, rf_49, rf_50, rf_51, rf_58, rf_63, rf_65, rf_267, rf45, rf50, rf58, rf63, rf267, ob_45, ob_49, ob_50, ob_58, ob_63, ob_267, ln_46, ln_46n, ln_46m, ln_47, ln_47n, ln_48, ln_48n, ln_51, ln_56, ln_57, ln_59, ln_60, ln_61, ln_62, ln_64, ln_64n, ln_65, ln_268, ln_269, ln_270, ln_270n, ln_271, ln_271n, ln_272, ln_272n, ln_272m, ln_273, ln_274, ln_275, ln_276, ln_277, ln_278, ln_278n, ln_279, ln_280, ln_281, ln_282, ln_283, ln_283n, ln_284, ln_285, ln_286, ln_286n, ln_287, ln_287n, ln_288, ln_289, ln_289n, gF_sF, gF_sG, gF_sI, gF_sJ, gF_sP, gF_sR, gF_sL, gG_sF, gG_sG, gG_sI, gG_sJ, gG_sP, gG_sR, gG_sL, gI_sF, gI_sG, gI_sI, gI_sJ, gI_sP, gI_sR, gI_sL, gJ_sF, gJ_sG, gJ_sI, gJ_sJ, gJ_sP, gJ_sR, gJ_sL, gP_sF, gP_sG, gP_sI, gP_sJ, gP_sP, gP_sR, gP_sL, inB_n, inC_n, iX_n, nI_add, pk_mul, pk_sub, n_and, n_or, n_xor, n_one, n_ush, n_shr, n_div, n_rem, n_ltm, m_ltn, m_ltm, n_eqm, m_eqn, m_eqm, n_lt, n_eq, n_eq0, n_addm, n_i2l, m_i2l, n_l2i, lN_add, lN_mul, lN_sub, l_div, l_rem, l_eq0, lc_lt, lc_gt, lc_eq, l_lt, l_eq, l_ltm, ml_ltn, ml_ltm, l_eqm, ml_eqn, ml_eqm, ls_1, ls_2, ls_3, ls_4, ls_5, ls_6, ls_7, ls_8, ls_10, ls_11, ls_12, ls_13, ls_14, ls_15, ls_16, ls_17, ob_0, ob_9, rf_0, rf_9, b1, e1]
set_option maxHeartbeats 4000000 in
theorem m_keeps {A : Ab} {w1 : Wd} (hm : MoA A w1) (gA : GdA A) {lim set : Nat} (hlim : lim < 2 ^ 31) (hset : set < 2 ^ A.2.2.1.1 4) (b6 : ∀ p k, dsG A.2.2.1 lim set false p = some k → k < 16384) : ∃ w', zE 255 [.ref 267, .int (nI set), .int (nI lim)] w1 = some (some (.int (dI (bkS (dsG A.2.2.1 lim set false) (A.2.2.1.1 5) (A.2.2.1.1 5 + 1)))), w') ∧ ScM w1 w' ∧ ∀ p, p < 2 ^ A.2.2.1.1 4 → gI w' 281 p = dI (dsG A.2.2.1 lim set false p) := by
  have g := gA.2.2.1
  have hst := g.2.1
  have hs14 := g.st
  have h16 := p14 g
  have h14 := g.1
  obtain ⟨w2, c1, c2, c3⟩ := m_to hm g (lim := lim) false hlim hset
  rw [bI_f] at c1
  refine ⟨w2, ?_, c2, c3⟩
  have hm2 := hm.sc gA c2
  have m4 := hm2.2.2.1.1.2.1
  have m5 := hm2.2.2.1.2.2.2.2.1
  simp only [Nat.mul_zero, Nat.zero_add] at m5
  have gap := bkS_gap (F := dsG A.2.2.1 lim set false) (st := A.2.2.1.1 5) (2 ^ A.2.2.1.1 4 - (A.2.2.1.1 5 + 1))
  rw [show A.2.2.1.1 5 + 1 + (2 ^ A.2.2.1.1 4 - (A.2.2.1.1 5 + 1)) = 2 ^ A.2.2.1.1 4 by omega] at gap
  rw [← gap]
  clear gap
  generalize hS : A.2.2.1.1 5 = S at *
  generalize hF : dsG A.2.2.1 lim set false = F at *
  have lp : ∀ d p, p + d = 2 ^ A.2.2.1.1 4 → zR 255 12 [.ref 267, .int (nI set), .int (nI lim), .int (dI (bkS F S p)), .int (nI p)] [] w2 = some (some (.int (dI (bkS F S (2 ^ A.2.2.1.1 4)))), w2) := by
    intro d
    induction d with
    | zero =>
      intro p hp
      have hp : p = 2 ^ A.2.2.1.1 4 := by omega
      rw [hp, zR_W [12]]
      simp (disch := omega) only [tt_255, T_255, mx_255, Nat.reduceLT, Nat.reduceLeDiff, Nat.reduceEqDiff, Nat.reduceAdd, Nat.reduceMul, Nat.reduceSub, Nat.reducePow, Nat.reduceMod, Nat.reduceDiv, Nat.reduceBEq, ↓reduceIte, reduceCtorEq, and_true, true_and, and_false, false_and, and_self, zW_eq, zin, zop, zst, fw_ite, fw_K, fw_R, fw_F, fw_C, zBW_s, nth, stL, okL, nlg, ct, ctv, cI, cL, pu, tkC, iniL, pad, eL, Value.category, swK, bz_0, bz_n0, bz_n1, bI_bz, bI_0, bI_t, bI_f, List.headD_cons, decide_true, decide_false, Bool.true_and, Bool.and_true, Bool.false_and, Bool.and_false, Bool.and_self, Bool.not_true, Bool.not_false, Bool.or_false, Bool.false_or, Bool.true_or, Bool.or_true, Bool.or_self, Bool.false_eq_true, rf_45, rf_47, rf_49, rf_50, rf_51, rf_58, rf_63, rf_65, rf_267, rf45, rf50, rf58, rf63, rf267, ob_45, ob_49, ob_50, ob_58, ob_63, ob_267, ln_46, ln_46n, ln_46m, ln_47, ln_47n, ln_48, ln_48n, ln_51, ln_56, ln_57, ln_59, ln_60, ln_61, ln_62, ln_64, ln_64n, ln_65, ln_268, ln_269, ln_270, ln_270n, ln_271, ln_271n, ln_272, ln_272n, ln_272m, ln_273, ln_274, ln_275, ln_276, ln_277, ln_278, ln_278n, ln_279, ln_280, ln_281, ln_282, ln_283, ln_283n, ln_284, ln_285, ln_286, ln_286n, ln_287, ln_287n, ln_288, ln_289, ln_289n, gF_sF, gF_sG, gF_sI, gF_sJ, gF_sP, gF_sR, gF_sL, gG_sF, gG_sG, gG_sI, gG_sJ, gG_sP, gG_sR, gG_sL, gI_sF, gI_sG, gI_sI, gI_sJ, gI_sP, gI_sR, gI_sL, gJ_sF, gJ_sG, gJ_sI, gJ_sJ, gJ_sP, gJ_sR, gJ_sL, gP_sF, gP_sG, gP_sI, gP_sJ, gP_sP, gP_sR, gP_sL, inB_n, inC_n, iX_n, nI_add, pk_mul, pk_sub, n_and, n_or, n_xor, n_one, n_ush, n_shr, n_div, n_rem, n_ltm, m_ltn, m_ltm, n_eqm, m_eqn, m_eqm, n_lt, n_eq, n_eq0, n_addm, n_i2l, m_i2l, n_l2i, lN_add, lN_mul, lN_sub, l_div, l_rem, l_eq0, lc_lt, lc_gt, lc_eq, l_lt, l_eq, l_ltm, ml_ltn, ml_ltm, l_eqm, ml_eqn, ml_eqm, ls_1, ls_2, ls_3, ls_4, ls_5, ls_6, ls_7, ls_8, ls_10, ls_11, ls_12, ls_13, ls_14, ls_15, ls_16, ls_17, ob_0, ob_9, rf_0, rf_9, m4, Nat.lt_irrefl]
    | succ d ih =>
      intro p hp
      have q : p < 2 ^ A.2.2.1.1 4 := by omega
      have p16 : p < 16384 := by omega
      have hx := n_andn (a := p) (S := S) (by omega) (by omega)
      rw [Nat.and_comm] at hx
      have rp := c3 p q
      have e1 := ih (p + 1) (by omega)
      by_cases z : p &&& S = p
      · rw [bkS_t z] at e1
        rw [zR_W [12]]
        cases hp2 : F p with
        | none =>
          rw [hp2] at rp e1
          have rp : gI w2 281 p = mI 1 := rp
          dsimp only at e1
          simp (disch := omega) only [tt_255, T_255, mx_255, Nat.reduceLT, Nat.reduceLeDiff, Nat.reduceEqDiff, Nat.reduceAdd, Nat.reduceMul, Nat.reduceSub, Nat.reducePow, Nat.reduceMod, Nat.reduceDiv, Nat.reduceBEq, ↓reduceIte, reduceCtorEq, and_true, true_and, and_false, false_and, and_self, zW_eq, zin, zop, zst, fw_ite, fw_K, fw_R, fw_F, fw_C, zBW_s, nth, stL, okL, nlg, ct, ctv, cI, cL, pu, tkC, iniL, pad, eL, Value.category, swK, bz_0, bz_n0, bz_n1, bI_bz, bI_0, bI_t, bI_f, List.headD_cons, decide_true, decide_false, Bool.true_and, Bool.and_true, Bool.false_and, Bool.and_false, Bool.and_self, Bool.not_true, Bool.not_false, Bool.or_false, Bool.false_or, Bool.true_or, Bool.or_true, Bool.or_self, Bool.false_eq_true, rf_45, rf_47, rf_49, rf_50, rf_51, rf_58, rf_63, rf_65, rf_267, rf45, rf50, rf58, rf63, rf267, ob_45, ob_49, ob_50, ob_58, ob_63, ob_267, ln_46, ln_46n, ln_46m, ln_47, ln_47n, ln_48, ln_48n, ln_51, ln_56, ln_57, ln_59, ln_60, ln_61, ln_62, ln_64, ln_64n, ln_65, ln_268, ln_269, ln_270, ln_270n, ln_271, ln_271n, ln_272, ln_272n, ln_272m, ln_273, ln_274, ln_275, ln_276, ln_277, ln_278, ln_278n, ln_279, ln_280, ln_281, ln_282, ln_283, ln_283n, ln_284, ln_285, ln_286, ln_286n, ln_287, ln_287n, ln_288, ln_289, ln_289n, gF_sF, gF_sG, gF_sI, gF_sJ, gF_sP, gF_sR, gF_sL, gG_sF, gG_sG, gG_sI, gG_sJ, gG_sP, gG_sR, gG_sL, gI_sF, gI_sG, gI_sI, gI_sJ, gI_sP, gI_sR, gI_sL, gJ_sF, gJ_sG, gJ_sI, gJ_sJ, gJ_sP, gJ_sR, gJ_sL, gP_sF, gP_sG, gP_sI, gP_sJ, gP_sP, gP_sR, gP_sL, inB_n, inC_n, iX_n, nI_add, pk_mul, pk_sub, n_and, n_or, n_xor, n_one, n_ush, n_shr, n_div, n_rem, n_ltm, m_ltn, m_ltm, n_eqm, m_eqn, m_eqm, n_lt, n_eq, n_eq0, n_addm, n_i2l, m_i2l, n_l2i, lN_add, lN_mul, lN_sub, l_div, l_rem, l_eq0, lc_lt, lc_gt, lc_eq, l_lt, l_eq, l_ltm, ml_ltn, ml_ltm, l_eqm, ml_eqn, ml_eqm, ls_1, ls_2, ls_3, ls_4, ls_5, ls_6, ls_7, ls_8, ls_10, ls_11, ls_12, ls_13, ls_14, ls_15, ls_16, ls_17, ob_0, ob_9, rf_0, rf_9, m4, q, m5, hx, z, p16, rp, e1]
        | some k =>
          have hk := b6 p k hp2
          rw [hp2] at rp e1
          have rp : gI w2 281 p = nI k := rp
          cases hb : bkS F S p with
          | none =>
            rw [hb] at e1
            dsimp only [dI] at e1 ⊢
            simp (disch := omega) only [tt_255, T_255, mx_255, Nat.reduceLT, Nat.reduceLeDiff, Nat.reduceEqDiff, Nat.reduceAdd, Nat.reduceMul, Nat.reduceSub, Nat.reducePow, Nat.reduceMod, Nat.reduceDiv, Nat.reduceBEq, ↓reduceIte, reduceCtorEq, and_true, true_and, and_false, false_and, and_self, zW_eq, zin, zop, zst, fw_ite, fw_K, fw_R, fw_F, fw_C, zBW_s, nth, stL, okL, nlg, ct, ctv, cI, cL, pu, tkC, iniL, pad, eL, Value.category, swK, bz_0, bz_n0, bz_n1, bI_bz, bI_0, bI_t, bI_f, List.headD_cons, decide_true, decide_false, Bool.true_and, Bool.and_true, Bool.false_and, Bool.and_false, Bool.and_self, Bool.not_true, Bool.not_false, Bool.or_false, Bool.false_or, Bool.true_or, Bool.or_true, Bool.or_self, Bool.false_eq_true, rf_45, rf_47, rf_49, rf_50, rf_51, rf_58, rf_63, rf_65, rf_267, rf45, rf50, rf58, rf63, rf267, ob_45, ob_49, ob_50, ob_58, ob_63, ob_267, ln_46, ln_46n, ln_46m, ln_47, ln_47n, ln_48, ln_48n, ln_51, ln_56, ln_57, ln_59, ln_60, ln_61, ln_62, ln_64, ln_64n, ln_65, ln_268, ln_269, ln_270, ln_270n, ln_271, ln_271n, ln_272, ln_272n, ln_272m, ln_273, ln_274, ln_275, ln_276, ln_277, ln_278, ln_278n, ln_279, ln_280, ln_281, ln_282, ln_283, ln_283n, ln_284, ln_285, ln_286, ln_286n, ln_287, ln_287n, ln_288, ln_289, ln_289n, gF_sF, gF_sG, gF_sI, gF_sJ, gF_sP, gF_sR, gF_sL, gG_sF, gG_sG, gG_sI, gG_sJ, gG_sP, gG_sR, gG_sL, gI_sF, gI_sG, gI_sI, gI_sJ, gI_sP, gI_sR, gI_sL, gJ_sF, gJ_sG, gJ_sI, gJ_sJ, gJ_sP, gJ_sR, gJ_sL, gP_sF, gP_sG, gP_sI, gP_sJ, gP_sP, gP_sR, gP_sL, inB_n, inC_n, iX_n, nI_add, pk_mul, pk_sub, n_and, n_or, n_xor, n_one, n_ush, n_shr, n_div, n_rem, n_ltm, m_ltn, m_ltm, n_eqm, m_eqn, m_eqm, n_lt, n_eq, n_eq0, n_addm, n_i2l, m_i2l, n_l2i, lN_add, lN_mul, lN_sub, l_div, l_rem, l_eq0, lc_lt, lc_gt, lc_eq, l_lt, l_eq, l_ltm, ml_ltn, ml_ltm, l_eqm, ml_eqn, ml_eqm, ls_1, ls_2, ls_3, ls_4, ls_5, ls_6, ls_7, ls_8, ls_10, ls_11, ls_12, ls_13, ls_14, ls_15, ls_16, ls_17, ob_0, ob_9, rf_0, rf_9, m4, q, m5, hx, z, p16, rp, e1]
          | some b0 =>
            obtain ⟨y1, D, y2⟩ := bkS_m p b0 hb
            have rb := c3 b0 (by omega)
            rw [y2] at rb
            have rb : gI w2 281 b0 = nI D := rb
            have hD := b6 b0 D y2
            have b16 : b0 < 16384 := by omega
            rw [hb] at e1
            dsimp only at e1
            rw [y2] at e1
            dsimp only at e1
            by_cases y : k < D
            · rw [if_pos y] at e1
              dsimp only [dI] at e1 ⊢
              simp (disch := omega) only [tt_255, T_255, mx_255, Nat.reduceLT, Nat.reduceLeDiff, Nat.reduceEqDiff, Nat.reduceAdd, Nat.reduceMul, Nat.reduceSub, Nat.reducePow, Nat.reduceMod, Nat.reduceDiv, Nat.reduceBEq, ↓reduceIte, reduceCtorEq, and_true, true_and, and_false, false_and, and_self, zW_eq, zin, zop, zst, fw_ite, fw_K, fw_R, fw_F, fw_C, zBW_s, nth, stL, okL, nlg, ct, ctv, cI, cL, pu, tkC, iniL, pad, eL, Value.category, swK, bz_0, bz_n0, bz_n1, bI_bz, bI_0, bI_t, bI_f, List.headD_cons, decide_true, decide_false, Bool.true_and, Bool.and_true, Bool.false_and, Bool.and_false, Bool.and_self, Bool.not_true, Bool.not_false, Bool.or_false, Bool.false_or, Bool.true_or, Bool.or_true, Bool.or_self, Bool.false_eq_true, rf_45, rf_47, rf_49, rf_50, rf_51, rf_58, rf_63, rf_65, rf_267, rf45, rf50, rf58, rf63, rf267, ob_45, ob_49, ob_50, ob_58, ob_63, ob_267, ln_46, ln_46n, ln_46m, ln_47, ln_47n, ln_48, ln_48n, ln_51, ln_56, ln_57, ln_59, ln_60, ln_61, ln_62, ln_64, ln_64n, ln_65, ln_268, ln_269, ln_270, ln_270n, ln_271, ln_271n, ln_272, ln_272n, ln_272m, ln_273, ln_274, ln_275, ln_276, ln_277, ln_278, ln_278n, ln_279, ln_280, ln_281, ln_282, ln_283, ln_283n, ln_284, ln_285, ln_286, ln_286n, ln_287, ln_287n, ln_288, ln_289, ln_289n, gF_sF, gF_sG, gF_sI, gF_sJ, gF_sP, gF_sR, gF_sL, gG_sF, gG_sG, gG_sI, gG_sJ, gG_sP, gG_sR, gG_sL, gI_sF, gI_sG, gI_sI, gI_sJ, gI_sP, gI_sR, gI_sL, gJ_sF, gJ_sG, gJ_sI, gJ_sJ, gJ_sP, gJ_sR, gJ_sL, gP_sF, gP_sG, gP_sI, gP_sJ, gP_sP, gP_sR, gP_sL, inB_n, inC_n, iX_n, nI_add, pk_mul, pk_sub, n_and, n_or, n_xor, n_one, n_ush, n_shr, n_div, n_rem, n_ltm, m_ltn, m_ltm, n_eqm, m_eqn, m_eqm, n_lt, n_eq, n_eq0, n_addm, n_i2l, m_i2l, n_l2i, lN_add, lN_mul, lN_sub, l_div, l_rem, l_eq0, lc_lt, lc_gt, lc_eq, l_lt, l_eq, l_ltm, ml_ltn, ml_ltm, l_eqm, ml_eqn, ml_eqm, ls_1, ls_2, ls_3, ls_4, ls_5, ls_6, ls_7, ls_8, ls_10, ls_11, ls_12, ls_13, ls_14, ls_15, ls_16, ls_17, ob_0, ob_9, rf_0, rf_9, m4, q, m5, hx, z, p16, rp, b16, rb, y, e1]
            · rw [if_neg y] at e1
              dsimp only [dI] at e1 ⊢
              simp (disch := omega) only [tt_255, T_255, mx_255, Nat.reduceLT, Nat.reduceLeDiff, Nat.reduceEqDiff, Nat.reduceAdd, Nat.reduceMul, Nat.reduceSub, Nat.reducePow, Nat.reduceMod, Nat.reduceDiv, Nat.reduceBEq, ↓reduceIte, reduceCtorEq, and_true, true_and, and_false, false_and, and_self, zW_eq, zin, zop, zst, fw_ite, fw_K, fw_R, fw_F, fw_C, zBW_s, nth, stL, okL, nlg, ct, ctv, cI, cL, pu, tkC, iniL, pad, eL, Value.category, swK, bz_0, bz_n0, bz_n1, bI_bz, bI_0, bI_t, bI_f, List.headD_cons, decide_true, decide_false, Bool.true_and, Bool.and_true, Bool.false_and, Bool.and_false, Bool.and_self, Bool.not_true, Bool.not_false, Bool.or_false, Bool.false_or, Bool.true_or, Bool.or_true, Bool.or_self, Bool.false_eq_true, rf_45, rf_47, rf_49, rf_50, rf_51, rf_58, rf_63, rf_65, rf_267, rf45, rf50, rf58, rf63, rf267, ob_45, ob_49, ob_50, ob_58, ob_63, ob_267, ln_46, ln_46n, ln_46m, ln_47, ln_47n, ln_48, ln_48n, ln_51, ln_56, ln_57, ln_59, ln_60, ln_61, ln_62, ln_64, ln_64n, ln_65, ln_268, ln_269, ln_270, ln_270n, ln_271, ln_271n, ln_272, ln_272n, ln_272m, ln_273, ln_274, ln_275, ln_276, ln_277, ln_278, ln_278n, ln_279, ln_280, ln_281, ln_282, ln_283, ln_283n, ln_284, ln_285, ln_286, ln_286n, ln_287, ln_287n, ln_288, ln_289, ln_289n, gF_sF, gF_sG, gF_sI, gF_sJ, gF_sP, gF_sR, gF_sL, gG_sF, gG_sG, gG_sI, gG_sJ, gG_sP, gG_sR, gG_sL, gI_sF, gI_sG, gI_sI, gI_sJ, gI_sP, gI_sR, gI_sL, gJ_sF, gJ_sG, gJ_sI, gJ_sJ, gJ_sP, gJ_sR, gJ_sL, gP_sF, gP_sG, gP_sI, gP_sJ, gP_sP, gP_sR, gP_sL, inB_n, inC_n, iX_n, nI_add, pk_mul, pk_sub, n_and, n_or, n_xor, n_one, n_ush, n_shr, n_div, n_rem, n_ltm, m_ltn, m_ltm, n_eqm, m_eqn, m_eqm, n_lt, n_eq, n_eq0, n_addm, n_i2l, m_i2l, n_l2i, lN_add, lN_mul, lN_sub, l_div, l_rem, l_eq0, lc_lt, lc_gt, lc_eq, l_lt, l_eq, l_ltm, ml_ltn, ml_ltm, l_eqm, ml_eqn, ml_eqm, ls_1, ls_2, ls_3, ls_4, ls_5, ls_6, ls_7, ls_8, ls_10, ls_11, ls_12, ls_13, ls_14, ls_15, ls_16, ls_17, ob_0, ob_9, rf_0, rf_9, m4, q, m5, hx, z, p16, rp, b16, rb, y, e1]
      · rw [bkS_f z] at e1
        rw [zR_W [12]]
        simp (disch := omega) only [tt_255, T_255, mx_255, Nat.reduceLT, Nat.reduceLeDiff, Nat.reduceEqDiff, Nat.reduceAdd, Nat.reduceMul, Nat.reduceSub, Nat.reducePow, Nat.reduceMod, Nat.reduceDiv, Nat.reduceBEq, ↓reduceIte, reduceCtorEq, and_true, true_and, and_false, false_and, and_self, zW_eq, zin, zop, zst, fw_ite, fw_K, fw_R, fw_F, fw_C, zBW_s, nth, stL, okL, nlg, ct, ctv, cI, cL, pu, tkC, iniL, pad, eL, Value.category, swK, bz_0, bz_n0, bz_n1, bI_bz, bI_0, bI_t, bI_f, List.headD_cons, decide_true, decide_false, Bool.true_and, Bool.and_true, Bool.false_and, Bool.and_false, Bool.and_self, Bool.not_true, Bool.not_false, Bool.or_false, Bool.false_or, Bool.true_or, Bool.or_true, Bool.or_self, Bool.false_eq_true, rf_45, rf_47, rf_49, rf_50, rf_51, rf_58, rf_63, rf_65, rf_267, rf45, rf50, rf58, rf63, rf267, ob_45, ob_49, ob_50, ob_58, ob_63, ob_267, ln_46, ln_46n, ln_46m, ln_47, ln_47n, ln_48, ln_48n, ln_51, ln_56, ln_57, ln_59, ln_60, ln_61, ln_62, ln_64, ln_64n, ln_65, ln_268, ln_269, ln_270, ln_270n, ln_271, ln_271n, ln_272, ln_272n, ln_272m, ln_273, ln_274, ln_275, ln_276, ln_277, ln_278, ln_278n, ln_279, ln_280, ln_281, ln_282, ln_283, ln_283n, ln_284, ln_285, ln_286, ln_286n, ln_287, ln_287n, ln_288, ln_289, ln_289n, gF_sF, gF_sG, gF_sI, gF_sJ, gF_sP, gF_sR, gF_sL, gG_sF, gG_sG, gG_sI, gG_sJ, gG_sP, gG_sR, gG_sL, gI_sF, gI_sG, gI_sI, gI_sJ, gI_sP, gI_sR, gI_sL, gJ_sF, gJ_sG, gJ_sI, gJ_sJ, gJ_sP, gJ_sR, gJ_sL, gP_sF, gP_sG, gP_sI, gP_sJ, gP_sP, gP_sR, gP_sL, inB_n, inC_n, iX_n, nI_add, pk_mul, pk_sub, n_and, n_or, n_xor, n_one, n_ush, n_shr, n_div, n_rem, n_ltm, m_ltn, m_ltm, n_eqm, m_eqn, m_eqm, n_lt, n_eq, n_eq0, n_addm, n_i2l, m_i2l, n_l2i, lN_add, lN_mul, lN_sub, l_div, l_rem, l_eq0, lc_lt, lc_gt, lc_eq, l_lt, l_eq, l_ltm, ml_ltn, ml_ltm, l_eqm, ml_eqn, ml_eqm, ls_1, ls_2, ls_3, ls_4, ls_5, ls_6, ls_7, ls_8, ls_10, ls_11, ls_12, ls_13, ls_14, ls_15, ls_16, ls_17, ob_0, ob_9, rf_0, rf_9, m4, q, m5, hx, z, e1]
  have l0 := lp (2 ^ A.2.2.1.1 4) 0 (Nat.zero_add _)
  have l0 : zR 255 12 [.ref 267, .int (nI set), .int (nI lim), .int (mI 1), .int (nI 0)] [] w2 = _ := l0
  rw [zE_W [12]]
  simp (disch := omega) only [tt_255, T_255, mx_255, Nat.reduceLT, Nat.reduceLeDiff, Nat.reduceEqDiff, Nat.reduceAdd, Nat.reduceMul, Nat.reduceSub, Nat.reducePow, Nat.reduceMod, Nat.reduceDiv, Nat.reduceBEq, ↓reduceIte, reduceCtorEq, and_true, true_and, and_false, false_and, and_self, zW_eq, zin, zop, zst, fw_ite, fw_K, fw_R, fw_F, fw_C, zBW_s, nth, stL, okL, nlg, ct, ctv, cI, cL, pu, tkC, iniL, pad, eL, Value.category, swK, bz_0, bz_n0, bz_n1, bI_bz, bI_0, bI_t, bI_f, List.headD_cons, decide_true, decide_false, Bool.true_and, Bool.and_true, Bool.false_and, Bool.and_false, Bool.and_self, Bool.not_true, Bool.not_false, Bool.or_false, Bool.false_or, Bool.true_or, Bool.or_true, Bool.or_self, Bool.false_eq_true, rf_45, rf_47, rf_49, rf_50, rf_51, rf_58, rf_63, rf_65, rf_267, rf45, rf50, rf58, rf63, rf267, ob_45, ob_49, ob_50, ob_58, ob_63, ob_267, ln_46, ln_46n, ln_46m, ln_47, ln_47n, ln_48, ln_48n, ln_51, ln_56, ln_57, ln_59, ln_60, ln_61, ln_62, ln_64, ln_64n, ln_65, ln_268, ln_269, ln_270, ln_270n, ln_271, ln_271n, ln_272, ln_272n, ln_272m, ln_273, ln_274, ln_275, ln_276, ln_277, ln_278, ln_278n, ln_279, ln_280, ln_281, ln_282, ln_283, ln_283n, ln_284, ln_285, ln_286, ln_286n, ln_287, ln_287n, ln_288, ln_289, ln_289n, gF_sF, gF_sG, gF_sI, gF_sJ, gF_sP, gF_sR, gF_sL, gG_sF, gG_sG, gG_sI, gG_sJ, gG_sP, gG_sR, gG_sL, gI_sF, gI_sG, gI_sI, gI_sJ, gI_sP, gI_sR, gI_sL, gJ_sF, gJ_sG, gJ_sI, gJ_sJ, gJ_sP, gJ_sR, gJ_sL, gP_sF, gP_sG, gP_sI, gP_sJ, gP_sP, gP_sR, gP_sL, inB_n, inC_n, iX_n, nI_add, pk_mul, pk_sub, n_and, n_or, n_xor, n_one, n_ush, n_shr, n_div, n_rem, n_ltm, m_ltn, m_ltm, n_eqm, m_eqn, m_eqm, n_lt, n_eq, n_eq0, n_addm, n_i2l, m_i2l, n_l2i, lN_add, lN_mul, lN_sub, l_div, l_rem, l_eq0, lc_lt, lc_gt, lc_eq, l_lt, l_eq, l_ltm, ml_ltn, ml_ltm, l_eqm, ml_eqn, ml_eqm, ls_1, ls_2, ls_3, ls_4, ls_5, ls_6, ls_7, ls_8, ls_10, ls_11, ls_12, ls_13, ls_14, ls_15, ls_16, ls_17, ob_0, ob_9, rf_0, rf_9, c1, l0]
theorem pr_keep {A : Ab} {w : Wd} (h : Rel A w) (x y : Int32) : Pair 140 256 [.int x, .int y] A w := by
  have g := h.g
  have n1 := t_cNoPlay h.1 g x y
  cases q : (okSt A x && okLm y) with
  | true =>
    rw [q] at n1
    rw [Bool.and_eq_true] at q
    obtain ⟨q0, set, hset, rfl⟩ := okSt_t g q.1
    obtain ⟨s, s1, s2, rfl⟩ := okLm_t q.2
    obtain ⟨w1, b1, b2, b3, b4, b5⟩ := c_best h (lim := s) (set := set) (by omega) hset
    have e1 : zE 140 [.ref 45, .int (nI set), .int (nI s)] w = some (some (.int (dI (bkS (dsG A.2.2.1 s set false) (A.2.2.1.1 5) (A.2.2.1.1 5 + 1)))), w1) := by
      rw [zE_W []]
      simp (disch := omega) only [tt_140, T_140, mx_140, Nat.reduceLT, Nat.reduceLeDiff, Nat.reduceEqDiff, Nat.reduceAdd, Nat.reduceMul, Nat.reduceSub, Nat.reducePow, Nat.reduceMod, Nat.reduceDiv, Nat.reduceBEq, ↓reduceIte, reduceCtorEq, and_true, true_and, and_false, false_and, and_self, zW_eq, zin, zop, zst, fw_ite, fw_K, fw_R, fw_F, fw_C, zBW_s, nth, stL, okL, nlg, ct, ctv, cI, cL, pu, tkC, iniL, pad, eL, Value.category, swK, bz_0, bz_n0, bz_n1, bI_bz, bI_0, bI_t, bI_f, List.headD_cons, decide_true, decide_false, Bool.true_and, Bool.and_true, Bool.false_and, Bool.and_false, Bool.and_self, Bool.not_true, Bool.not_false, Bool.or_false, Bool.false_or, Bool.true_or, Bool.or_true, Bool.or_self, Bool.false_eq_true, rf_45, rf_47, rf_49, rf_50, rf_51, rf_58, rf_63, rf_65, rf_267, rf45, rf50, rf58, rf63, rf267, ob_45, ob_49, ob_50, ob_58, ob_63, ob_267, ln_46, ln_46n, ln_46m, ln_47, ln_47n, ln_48, ln_48n, ln_51, ln_56, ln_57, ln_59, ln_60, ln_61, ln_62, ln_64, ln_64n, ln_65, ln_268, ln_269, ln_270, ln_270n, ln_271, ln_271n, ln_272, ln_272n, ln_272m, ln_273, ln_274, ln_275, ln_276, ln_277, ln_278, ln_278n, ln_279, ln_280, ln_281, ln_282, ln_283, ln_283n, ln_284, ln_285, ln_286, ln_286n, ln_287, ln_287n, ln_288, ln_289, ln_289n, gF_sF, gF_sG, gF_sI, gF_sJ, gF_sP, gF_sR, gF_sL, gG_sF, gG_sG, gG_sI, gG_sJ, gG_sP, gG_sR, gG_sL, gI_sF, gI_sG, gI_sI, gI_sJ, gI_sP, gI_sR, gI_sL, gJ_sF, gJ_sG, gJ_sI, gJ_sJ, gJ_sP, gJ_sR, gJ_sL, gP_sF, gP_sG, gP_sI, gP_sJ, gP_sP, gP_sR, gP_sL, inB_n, inC_n, iX_n, nI_add, pk_mul, pk_sub, n_and, n_or, n_xor, n_one, n_ush, n_shr, n_div, n_rem, n_ltm, m_ltn, m_ltm, n_eqm, m_eqn, m_eqm, n_lt, n_eq, n_eq0, n_addm, n_i2l, m_i2l, n_l2i, lN_add, lN_mul, lN_sub, l_div, l_rem, l_eq0, lc_lt, lc_gt, lc_eq, l_lt, l_eq, l_ltm, ml_ltn, ml_ltm, l_eqm, ml_eqn, ml_eqm, ls_1, ls_2, ls_3, ls_4, ls_5, ls_6, ls_7, ls_8, ls_10, ls_11, ls_12, ls_13, ls_14, ls_15, ls_16, ls_17, ob_0, ob_9, rf_0, rf_9, n1, b1]
    have hm := (h.mo (b2.scr h.ab)).z h.2.2
    obtain ⟨w2, c1, c2, c3⟩ := m_keeps hm h.2.2 (lim := s) (by omega) hset b5
    have i1 := t_mIsSet hm.2.2.1.1 g (nI set)
    have i2 := t_areSlates (nI s) (sF w1 267 0 (nI 0))
    rw [q.1] at i1
    rw [q.2] at i2
    have e2 : zE 256 [.ref 267, .int (nI set), .int (nI s)] w1 = some (some (.int (dI (bkS (dsG A.2.2.1 s set false) (A.2.2.1.1 5) (A.2.2.1.1 5 + 1)))), w2) := by
      rw [zE_W []]
      simp (disch := omega) only [tt_256, T_256, mx_256, Nat.reduceLT, Nat.reduceLeDiff, Nat.reduceEqDiff, Nat.reduceAdd, Nat.reduceMul, Nat.reduceSub, Nat.reducePow, Nat.reduceMod, Nat.reduceDiv, Nat.reduceBEq, ↓reduceIte, reduceCtorEq, and_true, true_and, and_false, false_and, and_self, zW_eq, zin, zop, zst, fw_ite, fw_K, fw_R, fw_F, fw_C, zBW_s, nth, stL, okL, nlg, ct, ctv, cI, cL, pu, tkC, iniL, pad, eL, Value.category, swK, bz_0, bz_n0, bz_n1, bI_bz, bI_0, bI_t, bI_f, List.headD_cons, decide_true, decide_false, Bool.true_and, Bool.and_true, Bool.false_and, Bool.and_false, Bool.and_self, Bool.not_true, Bool.not_false, Bool.or_false, Bool.false_or, Bool.true_or, Bool.or_true, Bool.or_self, Bool.false_eq_true, rf_45, rf_47, rf_49, rf_50, rf_51, rf_58, rf_63, rf_65, rf_267, rf45, rf50, rf58, rf63, rf267, ob_45, ob_49, ob_50, ob_58, ob_63, ob_267, ln_46, ln_46n, ln_46m, ln_47, ln_47n, ln_48, ln_48n, ln_51, ln_56, ln_57, ln_59, ln_60, ln_61, ln_62, ln_64, ln_64n, ln_65, ln_268, ln_269, ln_270, ln_270n, ln_271, ln_271n, ln_272, ln_272n, ln_272m, ln_273, ln_274, ln_275, ln_276, ln_277, ln_278, ln_278n, ln_279, ln_280, ln_281, ln_282, ln_283, ln_283n, ln_284, ln_285, ln_286, ln_286n, ln_287, ln_287n, ln_288, ln_289, ln_289n, gF_sF, gF_sG, gF_sI, gF_sJ, gF_sP, gF_sR, gF_sL, gG_sF, gG_sG, gG_sI, gG_sJ, gG_sP, gG_sR, gG_sL, gI_sF, gI_sG, gI_sI, gI_sJ, gI_sP, gI_sR, gI_sL, gJ_sF, gJ_sG, gJ_sI, gJ_sJ, gJ_sP, gJ_sR, gJ_sL, gP_sF, gP_sG, gP_sI, gP_sJ, gP_sP, gP_sR, gP_sL, inB_n, inC_n, iX_n, nI_add, pk_mul, pk_sub, n_and, n_or, n_xor, n_one, n_ush, n_shr, n_div, n_rem, n_ltm, m_ltn, m_ltm, n_eqm, m_eqn, m_eqm, n_lt, n_eq, n_eq0, n_addm, n_i2l, m_i2l, n_l2i, lN_add, lN_mul, lN_sub, l_div, l_rem, l_eq0, lc_lt, lc_gt, lc_eq, l_lt, l_eq, l_ltm, ml_ltn, ml_ltm, l_eqm, ml_eqn, ml_eqm, ls_1, ls_2, ls_3, ls_4, ls_5, ls_6, ls_7, ls_8, ls_10, ls_11, ls_12, ls_13, ls_14, ls_15, ls_16, ls_17, ob_0, ob_9, rf_0, rf_9, i1, i2, c1]
    exact Pair.scr (by simp [okV]) h e1 (b2.scr h.ab) (h.pkf b2) e2 ((ScM.sF w1 0 _ (by decide)).tr c2)
  | false =>
    rw [q] at n1
    have hm := (h.mo (SmO.rf _ w)).z h.2.2
    have i1 := t_mIsSet hm.2.2.1.1 g x
    have i2 := t_areSlates y (sF w 267 0 (nI 0))
    have e1 : zE 140 [.ref 45, .int x, .int y] w = some (some (.int (mI 2)), w) := by
      rw [zE_W []]
      simp (disch := omega) only [tt_140, T_140, mx_140, Nat.reduceLT, Nat.reduceLeDiff, Nat.reduceEqDiff, Nat.reduceAdd, Nat.reduceMul, Nat.reduceSub, Nat.reducePow, Nat.reduceMod, Nat.reduceDiv, Nat.reduceBEq, ↓reduceIte, reduceCtorEq, and_true, true_and, and_false, false_and, and_self, zW_eq, zin, zop, zst, fw_ite, fw_K, fw_R, fw_F, fw_C, zBW_s, nth, stL, okL, nlg, ct, ctv, cI, cL, pu, tkC, iniL, pad, eL, Value.category, swK, bz_0, bz_n0, bz_n1, bI_bz, bI_0, bI_t, bI_f, List.headD_cons, decide_true, decide_false, Bool.true_and, Bool.and_true, Bool.false_and, Bool.and_false, Bool.and_self, Bool.not_true, Bool.not_false, Bool.or_false, Bool.false_or, Bool.true_or, Bool.or_true, Bool.or_self, Bool.false_eq_true, rf_45, rf_47, rf_49, rf_50, rf_51, rf_58, rf_63, rf_65, rf_267, rf45, rf50, rf58, rf63, rf267, ob_45, ob_49, ob_50, ob_58, ob_63, ob_267, ln_46, ln_46n, ln_46m, ln_47, ln_47n, ln_48, ln_48n, ln_51, ln_56, ln_57, ln_59, ln_60, ln_61, ln_62, ln_64, ln_64n, ln_65, ln_268, ln_269, ln_270, ln_270n, ln_271, ln_271n, ln_272, ln_272n, ln_272m, ln_273, ln_274, ln_275, ln_276, ln_277, ln_278, ln_278n, ln_279, ln_280, ln_281, ln_282, ln_283, ln_283n, ln_284, ln_285, ln_286, ln_286n, ln_287, ln_287n, ln_288, ln_289, ln_289n, gF_sF, gF_sG, gF_sI, gF_sJ, gF_sP, gF_sR, gF_sL, gG_sF, gG_sG, gG_sI, gG_sJ, gG_sP, gG_sR, gG_sL, gI_sF, gI_sG, gI_sI, gI_sJ, gI_sP, gI_sR, gI_sL, gJ_sF, gJ_sG, gJ_sI, gJ_sJ, gJ_sP, gJ_sR, gJ_sL, gP_sF, gP_sG, gP_sI, gP_sJ, gP_sP, gP_sR, gP_sL, inB_n, inC_n, iX_n, nI_add, pk_mul, pk_sub, n_and, n_or, n_xor, n_one, n_ush, n_shr, n_div, n_rem, n_ltm, m_ltn, m_ltm, n_eqm, m_eqn, m_eqm, n_lt, n_eq, n_eq0, n_addm, n_i2l, m_i2l, n_l2i, lN_add, lN_mul, lN_sub, l_div, l_rem, l_eq0, lc_lt, lc_gt, lc_eq, l_lt, l_eq, l_ltm, ml_ltn, ml_ltm, l_eqm, ml_eqn, ml_eqm, ls_1, ls_2, ls_3, ls_4, ls_5, ls_6, ls_7, ls_8, ls_10, ls_11, ls_12, ls_13, ls_14, ls_15, ls_16, ls_17, ob_0, ob_9, rf_0, rf_9, n1]
    have e2 : zE 256 [.ref 267, .int x, .int y] w = some (some (.int (mI 2)), sF w 267 0 (nI 0)) := by
      rw [zE_W []]
      cases z1 : okSt A x with
      | true =>
        rw [z1, Bool.true_and] at q
        rw [z1] at i1
        rw [q] at i2
        simp (disch := omega) only [tt_256, T_256, mx_256, Nat.reduceLT, Nat.reduceLeDiff, Nat.reduceEqDiff, Nat.reduceAdd, Nat.reduceMul, Nat.reduceSub, Nat.reducePow, Nat.reduceMod, Nat.reduceDiv, Nat.reduceBEq, ↓reduceIte, reduceCtorEq, and_true, true_and, and_false, false_and, and_self, zW_eq, zin, zop, zst, fw_ite, fw_K, fw_R, fw_F, fw_C, zBW_s, nth, stL, okL, nlg, ct, ctv, cI, cL, pu, tkC, iniL, pad, eL, Value.category, swK, bz_0, bz_n0, bz_n1, bI_bz, bI_0, bI_t, bI_f, List.headD_cons, decide_true, decide_false, Bool.true_and, Bool.and_true, Bool.false_and, Bool.and_false, Bool.and_self, Bool.not_true, Bool.not_false, Bool.or_false, Bool.false_or, Bool.true_or, Bool.or_true, Bool.or_self, Bool.false_eq_true, rf_45, rf_47, rf_49, rf_50, rf_51, rf_58, rf_63, rf_65, rf_267, rf45, rf50, rf58, rf63, rf267, ob_45, ob_49, ob_50, ob_58, ob_63, ob_267, ln_46, ln_46n, ln_46m, ln_47, ln_47n, ln_48, ln_48n, ln_51, ln_56, ln_57, ln_59, ln_60, ln_61, ln_62, ln_64, ln_64n, ln_65, ln_268, ln_269, ln_270, ln_270n, ln_271, ln_271n, ln_272, ln_272n, ln_272m, ln_273, ln_274, ln_275, ln_276, ln_277, ln_278, ln_278n, ln_279, ln_280, ln_281, ln_282, ln_283, ln_283n, ln_284, ln_285, ln_286, ln_286n, ln_287, ln_287n, ln_288, ln_289, ln_289n, gF_sF, gF_sG, gF_sI, gF_sJ, gF_sP, gF_sR, gF_sL, gG_sF, gG_sG, gG_sI, gG_sJ, gG_sP, gG_sR, gG_sL, gI_sF, gI_sG, gI_sI, gI_sJ, gI_sP, gI_sR, gI_sL, gJ_sF, gJ_sG, gJ_sI, gJ_sJ, gJ_sP, gJ_sR, gJ_sL, gP_sF, gP_sG, gP_sI, gP_sJ, gP_sP, gP_sR, gP_sL, inB_n, inC_n, iX_n, nI_add, pk_mul, pk_sub, n_and, n_or, n_xor, n_one, n_ush, n_shr, n_div, n_rem, n_ltm, m_ltn, m_ltm, n_eqm, m_eqn, m_eqm, n_lt, n_eq, n_eq0, n_addm, n_i2l, m_i2l, n_l2i, lN_add, lN_mul, lN_sub, l_div, l_rem, l_eq0, lc_lt, lc_gt, lc_eq, l_lt, l_eq, l_ltm, ml_ltn, ml_ltm, l_eqm, ml_eqn, ml_eqm, ls_1, ls_2, ls_3, ls_4, ls_5, ls_6, ls_7, ls_8, ls_10, ls_11, ls_12, ls_13, ls_14, ls_15, ls_16, ls_17, ob_0, ob_9, rf_0, rf_9, i1, i2]
      | false =>
        rw [z1] at i1
        simp (disch := omega) only [tt_256, T_256, mx_256, Nat.reduceLT, Nat.reduceLeDiff, Nat.reduceEqDiff, Nat.reduceAdd, Nat.reduceMul, Nat.reduceSub, Nat.reducePow, Nat.reduceMod, Nat.reduceDiv, Nat.reduceBEq, ↓reduceIte, reduceCtorEq, and_true, true_and, and_false, false_and, and_self, zW_eq, zin, zop, zst, fw_ite, fw_K, fw_R, fw_F, fw_C, zBW_s, nth, stL, okL, nlg, ct, ctv, cI, cL, pu, tkC, iniL, pad, eL, Value.category, swK, bz_0, bz_n0, bz_n1, bI_bz, bI_0, bI_t, bI_f, List.headD_cons, decide_true, decide_false, Bool.true_and, Bool.and_true, Bool.false_and, Bool.and_false, Bool.and_self, Bool.not_true, Bool.not_false, Bool.or_false, Bool.false_or, Bool.true_or, Bool.or_true, Bool.or_self, Bool.false_eq_true, rf_45, rf_47, rf_49, rf_50, rf_51, rf_58, rf_63, rf_65, rf_267, rf45, rf50, rf58, rf63, rf267, ob_45, ob_49, ob_50, ob_58, ob_63, ob_267, ln_46, ln_46n, ln_46m, ln_47, ln_47n, ln_48, ln_48n, ln_51, ln_56, ln_57, ln_59, ln_60, ln_61, ln_62, ln_64, ln_64n, ln_65, ln_268, ln_269, ln_270, ln_270n, ln_271, ln_271n, ln_272, ln_272n, ln_272m, ln_273, ln_274, ln_275, ln_276, ln_277, ln_278, ln_278n, ln_279, ln_280, ln_281, ln_282, ln_283, ln_283n, ln_284, ln_285, ln_286, ln_286n, ln_287, ln_287n, ln_288, ln_289, ln_289n, gF_sF, gF_sG, gF_sI, gF_sJ, gF_sP, gF_sR, gF_sL, gG_sF, gG_sG, gG_sI, gG_sJ, gG_sP, gG_sR, gG_sL, gI_sF, gI_sG, gI_sI, gI_sJ, gI_sP, gI_sR, gI_sL, gJ_sF, gJ_sG, gJ_sI, gJ_sJ, gJ_sP, gJ_sR, gJ_sL, gP_sF, gP_sG, gP_sI, gP_sJ, gP_sP, gP_sR, gP_sL, inB_n, inC_n, iX_n, nI_add, pk_mul, pk_sub, n_and, n_or, n_xor, n_one, n_ush, n_shr, n_div, n_rem, n_ltm, m_ltn, m_ltm, n_eqm, m_eqn, m_eqm, n_lt, n_eq, n_eq0, n_addm, n_i2l, m_i2l, n_l2i, lN_add, lN_mul, lN_sub, l_div, l_rem, l_eq0, lc_lt, lc_gt, lc_eq, l_lt, l_eq, l_ltm, ml_ltn, ml_ltm, l_eqm, ml_eqn, ml_eqm, ls_1, ls_2, ls_3, ls_4, ls_5, ls_6, ls_7, ls_8, ls_10, ls_11, ls_12, ls_13, ls_14, ls_15, ls_16, ls_17, ob_0, ob_9, rf_0, rf_9, i1]
    exact Pair.scr (by simp [okV]) h e1 (SmO.rf _ _) h.pk e2 (ScM.sF w 0 _ (by decide))
theorem pr_cost {A : Ab} {w : Wd} (h : Rel A w) (x y : Int32) : Pair 141 257 [.int x, .int y] A w := by
  have g := h.g
  have n1 := t_cNoPlay h.1 g x y
  have h16 := p14 g
  have hs14 := g.st
  have hst := g.2.1
  cases q : (okSt A x && okLm y) with
  | true =>
    rw [q] at n1
    rw [Bool.and_eq_true] at q
    obtain ⟨q0, set, hset, rfl⟩ := okSt_t g q.1
    obtain ⟨s, s1, s2, rfl⟩ := okLm_t q.2
    obtain ⟨w1, b1, b2, b3, b4, b5⟩ := c_best h (lim := s) (set := set) (by omega) hset
    have hm := (h.mo (b2.scr h.ab)).z h.2.2
    obtain ⟨w2, c1, c2, c3⟩ := m_keeps hm h.2.2 (lim := s) (by omega) hset b5
    have i1 := t_mIsSet hm.2.2.1.1 g (nI set)
    have i2 := t_areSlates (nI s) (sF w1 267 0 (nI 0))
    rw [q.1] at i1
    rw [q.2] at i2
    have la := h.ab.la
    cases hb : bkS (dsG A.2.2.1 s set false) (A.2.2.1.1 5) (A.2.2.1.1 5 + 1) with
    | none =>
      rw [hb] at b1 c1
      have b1 : zE 142 [.ref 45, .int (nI set), .int (nI s)] w = some (some (.int (mI 1)), w1) := b1
      have c1 : zE 255 [.ref 267, .int (nI set), .int (nI s)] (sF w1 267 0 (nI 0)) = some (some (.int (mI 1)), w2) := c1
      have e1 : zE 141 [.ref 45, .int (nI set), .int (nI s)] w = some (some (.int (mI 1)), w1) := by
        rw [zE_W []]
        simp (disch := omega) only [tt_141, T_141, mx_141, Nat.reduceLT, Nat.reduceLeDiff, Nat.reduceEqDiff, Nat.reduceAdd, Nat.reduceMul, Nat.reduceSub, Nat.reducePow, Nat.reduceMod, Nat.reduceDiv, Nat.reduceBEq, ↓reduceIte, reduceCtorEq, and_true, true_and, and_false, false_and, and_self, zW_eq, zin, zop, zst, fw_ite, fw_K, fw_R, fw_F, fw_C, zBW_s, nth, stL, okL, nlg, ct, ctv, cI, cL, pu, tkC, iniL, pad, eL, Value.category, swK, bz_0, bz_n0, bz_n1, bI_bz, bI_0, bI_t, bI_f, List.headD_cons, decide_true, decide_false, Bool.true_and, Bool.and_true, Bool.false_and, Bool.and_false, Bool.and_self, Bool.not_true, Bool.not_false, Bool.or_false, Bool.false_or, Bool.true_or, Bool.or_true, Bool.or_self, Bool.false_eq_true, rf_45, rf_47, rf_49, rf_50, rf_51, rf_58, rf_63, rf_65, rf_267, rf45, rf50, rf58, rf63, rf267, ob_45, ob_49, ob_50, ob_58, ob_63, ob_267, ln_46, ln_46n, ln_46m, ln_47, ln_47n, ln_48, ln_48n, ln_51, ln_56, ln_57, ln_59, ln_60, ln_61, ln_62, ln_64, ln_64n, ln_65, ln_268, ln_269, ln_270, ln_270n, ln_271, ln_271n, ln_272, ln_272n, ln_272m, ln_273, ln_274, ln_275, ln_276, ln_277, ln_278, ln_278n, ln_279, ln_280, ln_281, ln_282, ln_283, ln_283n, ln_284, ln_285, ln_286, ln_286n, ln_287, ln_287n, ln_288, ln_289, ln_289n, gF_sF, gF_sG, gF_sI, gF_sJ, gF_sP, gF_sR, gF_sL, gG_sF, gG_sG, gG_sI, gG_sJ, gG_sP, gG_sR, gG_sL, gI_sF, gI_sG, gI_sI, gI_sJ, gI_sP, gI_sR, gI_sL, gJ_sF, gJ_sG, gJ_sI, gJ_sJ, gJ_sP, gJ_sR, gJ_sL, gP_sF, gP_sG, gP_sI, gP_sJ, gP_sP, gP_sR, gP_sL, inB_n, inC_n, iX_n, nI_add, pk_mul, pk_sub, n_and, n_or, n_xor, n_one, n_ush, n_shr, n_div, n_rem, n_ltm, m_ltn, m_ltm, n_eqm, m_eqn, m_eqm, n_lt, n_eq, n_eq0, n_addm, n_i2l, m_i2l, n_l2i, lN_add, lN_mul, lN_sub, l_div, l_rem, l_eq0, lc_lt, lc_gt, lc_eq, l_lt, l_eq, l_ltm, ml_ltn, ml_ltm, l_eqm, ml_eqn, ml_eqm, ls_1, ls_2, ls_3, ls_4, ls_5, ls_6, ls_7, ls_8, ls_10, ls_11, ls_12, ls_13, ls_14, ls_15, ls_16, ls_17, ob_0, ob_9, rf_0, rf_9, n1, b1]
      have e2 : zE 257 [.ref 267, .int (nI set), .int (nI s)] w1 = some (some (.int (mI 1)), w2) := by
        rw [zE_W []]
        simp (disch := omega) only [tt_257, T_257, mx_257, Nat.reduceLT, Nat.reduceLeDiff, Nat.reduceEqDiff, Nat.reduceAdd, Nat.reduceMul, Nat.reduceSub, Nat.reducePow, Nat.reduceMod, Nat.reduceDiv, Nat.reduceBEq, ↓reduceIte, reduceCtorEq, and_true, true_and, and_false, false_and, and_self, zW_eq, zin, zop, zst, fw_ite, fw_K, fw_R, fw_F, fw_C, zBW_s, nth, stL, okL, nlg, ct, ctv, cI, cL, pu, tkC, iniL, pad, eL, Value.category, swK, bz_0, bz_n0, bz_n1, bI_bz, bI_0, bI_t, bI_f, List.headD_cons, decide_true, decide_false, Bool.true_and, Bool.and_true, Bool.false_and, Bool.and_false, Bool.and_self, Bool.not_true, Bool.not_false, Bool.or_false, Bool.false_or, Bool.true_or, Bool.or_true, Bool.or_self, Bool.false_eq_true, rf_45, rf_47, rf_49, rf_50, rf_51, rf_58, rf_63, rf_65, rf_267, rf45, rf50, rf58, rf63, rf267, ob_45, ob_49, ob_50, ob_58, ob_63, ob_267, ln_46, ln_46n, ln_46m, ln_47, ln_47n, ln_48, ln_48n, ln_51, ln_56, ln_57, ln_59, ln_60, ln_61, ln_62, ln_64, ln_64n, ln_65, ln_268, ln_269, ln_270, ln_270n, ln_271, ln_271n, ln_272, ln_272n, ln_272m, ln_273, ln_274, ln_275, ln_276, ln_277, ln_278, ln_278n, ln_279, ln_280, ln_281, ln_282, ln_283, ln_283n, ln_284, ln_285, ln_286, ln_286n, ln_287, ln_287n, ln_288, ln_289, ln_289n, gF_sF, gF_sG, gF_sI, gF_sJ, gF_sP, gF_sR, gF_sL, gG_sF, gG_sG, gG_sI, gG_sJ, gG_sP, gG_sR, gG_sL, gI_sF, gI_sG, gI_sI, gI_sJ, gI_sP, gI_sR, gI_sL, gJ_sF, gJ_sG, gJ_sI, gJ_sJ, gJ_sP, gJ_sR, gJ_sL, gP_sF, gP_sG, gP_sI, gP_sJ, gP_sP, gP_sR, gP_sL, inB_n, inC_n, iX_n, nI_add, pk_mul, pk_sub, n_and, n_or, n_xor, n_one, n_ush, n_shr, n_div, n_rem, n_ltm, m_ltn, m_ltm, n_eqm, m_eqn, m_eqm, n_lt, n_eq, n_eq0, n_addm, n_i2l, m_i2l, n_l2i, lN_add, lN_mul, lN_sub, l_div, l_rem, l_eq0, lc_lt, lc_gt, lc_eq, l_lt, l_eq, l_ltm, ml_ltn, ml_ltm, l_eqm, ml_eqn, ml_eqm, ls_1, ls_2, ls_3, ls_4, ls_5, ls_6, ls_7, ls_8, ls_10, ls_11, ls_12, ls_13, ls_14, ls_15, ls_16, ls_17, ob_0, ob_9, rf_0, rf_9, i1, i2, c1]
      exact Pair.scr (by simp [okV]) h e1 (b2.scr h.ab) (h.pkf b2) e2 ((ScM.sF w1 0 _ (by decide)).tr c2)
    | some b0 =>
      obtain ⟨y1, D, y2⟩ := bkS_m _ b0 hb
      have hD := b5 b0 D y2
      have b16 : b0 < 16384 := by omega
      have rC := b4 b0 (by omega)
      rw [y2] at rC
      have rC : gI w1 (gP w 3) b0 = nI D := rC
      have rM := c3 b0 (by omega)
      rw [y2] at rM
      have rM : gI w2 281 b0 = nI D := rM
      rw [hb] at b1 c1
      have b1 : zE 142 [.ref 45, .int (nI set), .int (nI s)] w = some (some (.int (nI b0)), w1) := b1
      have c1 : zE 255 [.ref 267, .int (nI set), .int (nI s)] (sF w1 267 0 (nI 0)) = some (some (.int (nI b0)), w2) := c1
      have e1 : zE 141 [.ref 45, .int (nI set), .int (nI s)] w = some (some (.int (nI D)), w1) := by
        rw [zE_W []]
        simp (disch := omega) only [tt_141, T_141, mx_141, Nat.reduceLT, Nat.reduceLeDiff, Nat.reduceEqDiff, Nat.reduceAdd, Nat.reduceMul, Nat.reduceSub, Nat.reducePow, Nat.reduceMod, Nat.reduceDiv, Nat.reduceBEq, ↓reduceIte, reduceCtorEq, and_true, true_and, and_false, false_and, and_self, zW_eq, zin, zop, zst, fw_ite, fw_K, fw_R, fw_F, fw_C, zBW_s, nth, stL, okL, nlg, ct, ctv, cI, cL, pu, tkC, iniL, pad, eL, Value.category, swK, bz_0, bz_n0, bz_n1, bI_bz, bI_0, bI_t, bI_f, List.headD_cons, decide_true, decide_false, Bool.true_and, Bool.and_true, Bool.false_and, Bool.and_false, Bool.and_self, Bool.not_true, Bool.not_false, Bool.or_false, Bool.false_or, Bool.true_or, Bool.or_true, Bool.or_self, Bool.false_eq_true, rf_45, rf_47, rf_49, rf_50, rf_51, rf_58, rf_63, rf_65, rf_267, rf45, rf50, rf58, rf63, rf267, ob_45, ob_49, ob_50, ob_58, ob_63, ob_267, ln_46, ln_46n, ln_46m, ln_47, ln_47n, ln_48, ln_48n, ln_51, ln_56, ln_57, ln_59, ln_60, ln_61, ln_62, ln_64, ln_64n, ln_65, ln_268, ln_269, ln_270, ln_270n, ln_271, ln_271n, ln_272, ln_272n, ln_272m, ln_273, ln_274, ln_275, ln_276, ln_277, ln_278, ln_278n, ln_279, ln_280, ln_281, ln_282, ln_283, ln_283n, ln_284, ln_285, ln_286, ln_286n, ln_287, ln_287n, ln_288, ln_289, ln_289n, gF_sF, gF_sG, gF_sI, gF_sJ, gF_sP, gF_sR, gF_sL, gG_sF, gG_sG, gG_sI, gG_sJ, gG_sP, gG_sR, gG_sL, gI_sF, gI_sG, gI_sI, gI_sJ, gI_sP, gI_sR, gI_sL, gJ_sF, gJ_sG, gJ_sI, gJ_sJ, gJ_sP, gJ_sR, gJ_sL, gP_sF, gP_sG, gP_sI, gP_sJ, gP_sP, gP_sR, gP_sL, inB_n, inC_n, iX_n, nI_add, pk_mul, pk_sub, n_and, n_or, n_xor, n_one, n_ush, n_shr, n_div, n_rem, n_ltm, m_ltn, m_ltm, n_eqm, m_eqn, m_eqm, n_lt, n_eq, n_eq0, n_addm, n_i2l, m_i2l, n_l2i, lN_add, lN_mul, lN_sub, l_div, l_rem, l_eq0, lc_lt, lc_gt, lc_eq, l_lt, l_eq, l_ltm, ml_ltn, ml_ltm, l_eqm, ml_eqn, ml_eqm, ls_1, ls_2, ls_3, ls_4, ls_5, ls_6, ls_7, ls_8, ls_10, ls_11, ls_12, ls_13, ls_14, ls_15, ls_16, ls_17, ob_0, ob_9, rf_0, rf_9, n1, b1, b3, la, b16, rC]
      have e2 : zE 257 [.ref 267, .int (nI set), .int (nI s)] w1 = some (some (.int (nI D)), w2) := by
        rw [zE_W []]
        simp (disch := omega) only [tt_257, T_257, mx_257, Nat.reduceLT, Nat.reduceLeDiff, Nat.reduceEqDiff, Nat.reduceAdd, Nat.reduceMul, Nat.reduceSub, Nat.reducePow, Nat.reduceMod, Nat.reduceDiv, Nat.reduceBEq, ↓reduceIte, reduceCtorEq, and_true, true_and, and_false, false_and, and_self, zW_eq, zin, zop, zst, fw_ite, fw_K, fw_R, fw_F, fw_C, zBW_s, nth, stL, okL, nlg, ct, ctv, cI, cL, pu, tkC, iniL, pad, eL, Value.category, swK, bz_0, bz_n0, bz_n1, bI_bz, bI_0, bI_t, bI_f, List.headD_cons, decide_true, decide_false, Bool.true_and, Bool.and_true, Bool.false_and, Bool.and_false, Bool.and_self, Bool.not_true, Bool.not_false, Bool.or_false, Bool.false_or, Bool.true_or, Bool.or_true, Bool.or_self, Bool.false_eq_true, rf_45, rf_47, rf_49, rf_50, rf_51, rf_58, rf_63, rf_65, rf_267, rf45, rf50, rf58, rf63, rf267, ob_45, ob_49, ob_50, ob_58, ob_63, ob_267, ln_46, ln_46n, ln_46m, ln_47, ln_47n, ln_48, ln_48n, ln_51, ln_56, ln_57, ln_59, ln_60, ln_61, ln_62, ln_64, ln_64n, ln_65, ln_268, ln_269, ln_270, ln_270n, ln_271, ln_271n, ln_272, ln_272n, ln_272m, ln_273, ln_274, ln_275, ln_276, ln_277, ln_278, ln_278n, ln_279, ln_280, ln_281, ln_282, ln_283, ln_283n, ln_284, ln_285, ln_286, ln_286n, ln_287, ln_287n, ln_288, ln_289, ln_289n, gF_sF, gF_sG, gF_sI, gF_sJ, gF_sP, gF_sR, gF_sL, gG_sF, gG_sG, gG_sI, gG_sJ, gG_sP, gG_sR, gG_sL, gI_sF, gI_sG, gI_sI, gI_sJ, gI_sP, gI_sR, gI_sL, gJ_sF, gJ_sG, gJ_sI, gJ_sJ, gJ_sP, gJ_sR, gJ_sL, gP_sF, gP_sG, gP_sI, gP_sJ, gP_sP, gP_sR, gP_sL, inB_n, inC_n, iX_n, nI_add, pk_mul, pk_sub, n_and, n_or, n_xor, n_one, n_ush, n_shr, n_div, n_rem, n_ltm, m_ltn, m_ltm, n_eqm, m_eqn, m_eqm, n_lt, n_eq, n_eq0, n_addm, n_i2l, m_i2l, n_l2i, lN_add, lN_mul, lN_sub, l_div, l_rem, l_eq0, lc_lt, lc_gt, lc_eq, l_lt, l_eq, l_ltm, ml_ltn, ml_ltm, l_eqm, ml_eqn, ml_eqm, ls_1, ls_2, ls_3, ls_4, ls_5, ls_6, ls_7, ls_8, ls_10, ls_11, ls_12, ls_13, ls_14, ls_15, ls_16, ls_17, ob_0, ob_9, rf_0, rf_9, i1, i2, c1, b16, rM]
      exact Pair.scr (by simp [okV]) h e1 (b2.scr h.ab) (h.pkf b2) e2 ((ScM.sF w1 0 _ (by decide)).tr c2)
  | false =>
    rw [q] at n1
    have hm := (h.mo (SmO.rf _ w)).z h.2.2
    have i1 := t_mIsSet hm.2.2.1.1 g x
    have i2 := t_areSlates y (sF w 267 0 (nI 0))
    have e1 : zE 141 [.ref 45, .int x, .int y] w = some (some (.int (mI 2)), w) := by
      rw [zE_W []]
      simp (disch := omega) only [tt_141, T_141, mx_141, Nat.reduceLT, Nat.reduceLeDiff, Nat.reduceEqDiff, Nat.reduceAdd, Nat.reduceMul, Nat.reduceSub, Nat.reducePow, Nat.reduceMod, Nat.reduceDiv, Nat.reduceBEq, ↓reduceIte, reduceCtorEq, and_true, true_and, and_false, false_and, and_self, zW_eq, zin, zop, zst, fw_ite, fw_K, fw_R, fw_F, fw_C, zBW_s, nth, stL, okL, nlg, ct, ctv, cI, cL, pu, tkC, iniL, pad, eL, Value.category, swK, bz_0, bz_n0, bz_n1, bI_bz, bI_0, bI_t, bI_f, List.headD_cons, decide_true, decide_false, Bool.true_and, Bool.and_true, Bool.false_and, Bool.and_false, Bool.and_self, Bool.not_true, Bool.not_false, Bool.or_false, Bool.false_or, Bool.true_or, Bool.or_true, Bool.or_self, Bool.false_eq_true, rf_45, rf_47, rf_49, rf_50, rf_51, rf_58, rf_63, rf_65, rf_267, rf45, rf50, rf58, rf63, rf267, ob_45, ob_49, ob_50, ob_58, ob_63, ob_267, ln_46, ln_46n, ln_46m, ln_47, ln_47n, ln_48, ln_48n, ln_51, ln_56, ln_57, ln_59, ln_60, ln_61, ln_62, ln_64, ln_64n, ln_65, ln_268, ln_269, ln_270, ln_270n, ln_271, ln_271n, ln_272, ln_272n, ln_272m, ln_273, ln_274, ln_275, ln_276, ln_277, ln_278, ln_278n, ln_279, ln_280, ln_281, ln_282, ln_283, ln_283n, ln_284, ln_285, ln_286, ln_286n, ln_287, ln_287n, ln_288, ln_289, ln_289n, gF_sF, gF_sG, gF_sI, gF_sJ, gF_sP, gF_sR, gF_sL, gG_sF, gG_sG, gG_sI, gG_sJ, gG_sP, gG_sR, gG_sL, gI_sF, gI_sG, gI_sI, gI_sJ, gI_sP, gI_sR, gI_sL, gJ_sF, gJ_sG, gJ_sI, gJ_sJ, gJ_sP, gJ_sR, gJ_sL, gP_sF, gP_sG, gP_sI, gP_sJ, gP_sP, gP_sR, gP_sL, inB_n, inC_n, iX_n, nI_add, pk_mul, pk_sub, n_and, n_or, n_xor, n_one, n_ush, n_shr, n_div, n_rem, n_ltm, m_ltn, m_ltm, n_eqm, m_eqn, m_eqm, n_lt, n_eq, n_eq0, n_addm, n_i2l, m_i2l, n_l2i, lN_add, lN_mul, lN_sub, l_div, l_rem, l_eq0, lc_lt, lc_gt, lc_eq, l_lt, l_eq, l_ltm, ml_ltn, ml_ltm, l_eqm, ml_eqn, ml_eqm, ls_1, ls_2, ls_3, ls_4, ls_5, ls_6, ls_7, ls_8, ls_10, ls_11, ls_12, ls_13, ls_14, ls_15, ls_16, ls_17, ob_0, ob_9, rf_0, rf_9, n1]
    have e2 : zE 257 [.ref 267, .int x, .int y] w = some (some (.int (mI 2)), sF w 267 0 (nI 0)) := by
      rw [zE_W []]
      cases z1 : okSt A x with
      | true =>
        rw [z1, Bool.true_and] at q
        rw [z1] at i1
        rw [q] at i2
        simp (disch := omega) only [tt_257, T_257, mx_257, Nat.reduceLT, Nat.reduceLeDiff, Nat.reduceEqDiff, Nat.reduceAdd, Nat.reduceMul, Nat.reduceSub, Nat.reducePow, Nat.reduceMod, Nat.reduceDiv, Nat.reduceBEq, ↓reduceIte, reduceCtorEq, and_true, true_and, and_false, false_and, and_self, zW_eq, zin, zop, zst, fw_ite, fw_K, fw_R, fw_F, fw_C, zBW_s, nth, stL, okL, nlg, ct, ctv, cI, cL, pu, tkC, iniL, pad, eL, Value.category, swK, bz_0, bz_n0, bz_n1, bI_bz, bI_0, bI_t, bI_f, List.headD_cons, decide_true, decide_false, Bool.true_and, Bool.and_true, Bool.false_and, Bool.and_false, Bool.and_self, Bool.not_true, Bool.not_false, Bool.or_false, Bool.false_or, Bool.true_or, Bool.or_true, Bool.or_self, Bool.false_eq_true, rf_45, rf_47, rf_49, rf_50, rf_51, rf_58, rf_63, rf_65, rf_267, rf45, rf50, rf58, rf63, rf267, ob_45, ob_49, ob_50, ob_58, ob_63, ob_267, ln_46, ln_46n, ln_46m, ln_47, ln_47n, ln_48, ln_48n, ln_51, ln_56, ln_57, ln_59, ln_60, ln_61, ln_62, ln_64, ln_64n, ln_65, ln_268, ln_269, ln_270, ln_270n, ln_271, ln_271n, ln_272, ln_272n, ln_272m, ln_273, ln_274, ln_275, ln_276, ln_277, ln_278, ln_278n, ln_279, ln_280, ln_281, ln_282, ln_283, ln_283n, ln_284, ln_285, ln_286, ln_286n, ln_287, ln_287n, ln_288, ln_289, ln_289n, gF_sF, gF_sG, gF_sI, gF_sJ, gF_sP, gF_sR, gF_sL, gG_sF, gG_sG, gG_sI, gG_sJ, gG_sP, gG_sR, gG_sL, gI_sF, gI_sG, gI_sI, gI_sJ, gI_sP, gI_sR, gI_sL, gJ_sF, gJ_sG, gJ_sI, gJ_sJ, gJ_sP, gJ_sR, gJ_sL, gP_sF, gP_sG, gP_sI, gP_sJ, gP_sP, gP_sR, gP_sL, inB_n, inC_n, iX_n, nI_add, pk_mul, pk_sub, n_and, n_or, n_xor, n_one, n_ush, n_shr, n_div, n_rem, n_ltm, m_ltn, m_ltm, n_eqm, m_eqn, m_eqm, n_lt, n_eq, n_eq0, n_addm, n_i2l, m_i2l, n_l2i, lN_add, lN_mul, lN_sub, l_div, l_rem, l_eq0, lc_lt, lc_gt, lc_eq, l_lt, l_eq, l_ltm, ml_ltn, ml_ltm, l_eqm, ml_eqn, ml_eqm, ls_1, ls_2, ls_3, ls_4, ls_5, ls_6, ls_7, ls_8, ls_10, ls_11, ls_12, ls_13, ls_14, ls_15, ls_16, ls_17, ob_0, ob_9, rf_0, rf_9, i1, i2]
      | false =>
        rw [z1] at i1
        simp (disch := omega) only [tt_257, T_257, mx_257, Nat.reduceLT, Nat.reduceLeDiff, Nat.reduceEqDiff, Nat.reduceAdd, Nat.reduceMul, Nat.reduceSub, Nat.reducePow, Nat.reduceMod, Nat.reduceDiv, Nat.reduceBEq, ↓reduceIte, reduceCtorEq, and_true, true_and, and_false, false_and, and_self, zW_eq, zin, zop, zst, fw_ite, fw_K, fw_R, fw_F, fw_C, zBW_s, nth, stL, okL, nlg, ct, ctv, cI, cL, pu, tkC, iniL, pad, eL, Value.category, swK, bz_0, bz_n0, bz_n1, bI_bz, bI_0, bI_t, bI_f, List.headD_cons, decide_true, decide_false, Bool.true_and, Bool.and_true, Bool.false_and, Bool.and_false, Bool.and_self, Bool.not_true, Bool.not_false, Bool.or_false, Bool.false_or, Bool.true_or, Bool.or_true, Bool.or_self, Bool.false_eq_true, rf_45, rf_47, rf_49, rf_50, rf_51, rf_58, rf_63, rf_65, rf_267, rf45, rf50, rf58, rf63, rf267, ob_45, ob_49, ob_50, ob_58, ob_63, ob_267, ln_46, ln_46n, ln_46m, ln_47, ln_47n, ln_48, ln_48n, ln_51, ln_56, ln_57, ln_59, ln_60, ln_61, ln_62, ln_64, ln_64n, ln_65, ln_268, ln_269, ln_270, ln_270n, ln_271, ln_271n, ln_272, ln_272n, ln_272m, ln_273, ln_274, ln_275, ln_276, ln_277, ln_278, ln_278n, ln_279, ln_280, ln_281, ln_282, ln_283, ln_283n, ln_284, ln_285, ln_286, ln_286n, ln_287, ln_287n, ln_288, ln_289, ln_289n, gF_sF, gF_sG, gF_sI, gF_sJ, gF_sP, gF_sR, gF_sL, gG_sF, gG_sG, gG_sI, gG_sJ, gG_sP, gG_sR, gG_sL, gI_sF, gI_sG, gI_sI, gI_sJ, gI_sP, gI_sR, gI_sL, gJ_sF, gJ_sG, gJ_sI, gJ_sJ, gJ_sP, gJ_sR, gJ_sL, gP_sF, gP_sG, gP_sI, gP_sJ, gP_sP, gP_sR, gP_sL, inB_n, inC_n, iX_n, nI_add, pk_mul, pk_sub, n_and, n_or, n_xor, n_one, n_ush, n_shr, n_div, n_rem, n_ltm, m_ltn, m_ltm, n_eqm, m_eqn, m_eqm, n_lt, n_eq, n_eq0, n_addm, n_i2l, m_i2l, n_l2i, lN_add, lN_mul, lN_sub, l_div, l_rem, l_eq0, lc_lt, lc_gt, lc_eq, l_lt, l_eq, l_ltm, ml_ltn, ml_ltm, l_eqm, ml_eqn, ml_eqm, ls_1, ls_2, ls_3, ls_4, ls_5, ls_6, ls_7, ls_8, ls_10, ls_11, ls_12, ls_13, ls_14, ls_15, ls_16, ls_17, ob_0, ob_9, rf_0, rf_9, i1]
    exact Pair.scr (by simp [okV]) h e1 (SmO.rf _ _) h.pk e2 (ScM.sF w 0 _ (by decide))
