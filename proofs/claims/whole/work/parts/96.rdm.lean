/-! ===== the reference's tokens ===== -/
def RmT (T : Nat → Int32) (n : Nat) (w : Wd) : Prop := n ≤ 1600 ∧ gF w 267 6 = nI n ∧ ∀ i, i < n → gI w 272 i = T i
def SfN (w w' : Wd) : Prop := SmO (fun c => c = 267) w w' ∧ (∀ j, j ≠ 7 → j ≠ 8 → j ≠ 9 → j ≠ 10 → gF w' 267 j = gF w 267 j) ∧ ∀ j, j ≠ 11 → gG w' 267 j = gG w 267 j
theorem SfN.rf (w : Wd) : SfN w w := ⟨SmO.rf _ _, fun _ _ _ _ _ => rfl, fun _ _ => rfl⟩
theorem SfN.tr {w w1 w2 : Wd} (h : SfN w w1) (k : SfN w1 w2) : SfN w w2 := ⟨h.1.tr k.1, fun j a b c d => (k.2.1 j a b c d).trans (h.2.1 j a b c d), fun j a => (k.2.2 j a).trans (h.2.2 j a)⟩
theorem SfN.sF (w : Wd) (j : Nat) (x : Int32) (hj : j = 7 ∨ j = 8 ∨ j = 9 ∨ j = 10) : SfN w (sF w 267 j x) := ⟨SmO.sF rfl, fun i a b c d => by rw [gF_sF, if_neg (by omega)], fun _ _ => rfl⟩
theorem SfN.sG (w : Wd) (x : Int64) : SfN w (sG w 267 11 x) := ⟨SmO.sG rfl, fun _ _ _ _ _ => rfl, fun i a => by rw [gG_sG, if_neg (by omega)]⟩
theorem RmT.fr {T : Nat → Int32} {n : Nat} {w w' : Wd} (h : RmT T n w) (f : SfN w w') : RmT T n w' := ⟨h.1, (f.2.1 6 (by decide) (by decide) (by decide) (by decide)).trans h.2.1, fun i hi => by rw [(f.1.1 272 (show ¬ 272 = 267 by decide)).2.2.1]; exact h.2.2 i hi⟩
def byB (T : Nat → Int32) (n i : Nat) (lo hi : Int32) : Bool := decide (i < n) && (!decide (T i < lo) && !decide (hi < T i))
theorem t_isByte {T : Nat → Int32} {n i : Nat} {w : Wd} (h : RmT T n w) (hi : i ≤ n) (lo hi' : Int32) : zE 179 [.ref 267, .int (nI i), .int lo, .int hi'] w = some (some (.int (bI (byB T n i lo hi'))), w) := by
  have n16 := h.1
  have r6 := h.2.1
  unfold byB
  by_cases a : i < n
  · have rt := h.2.2 i a
    have i16 : i < 1600 := by omega
    rw [decide_eq_true a, Bool.true_and]
    by_cases b : T i < lo
    · rw [decide_eq_true b, Bool.not_true, Bool.false_and, zE_W []]
      simp (disch := omega) only [tt_179, T_179, mx_179, Nat.reduceLT, Nat.reduceLeDiff, Nat.reduceEqDiff, Nat.reduceAdd, Nat.reduceMul, Nat.reduceSub, Nat.reducePow, Nat.reduceMod, Nat.reduceDiv, Nat.reduceBEq, ↓reduceIte, reduceCtorEq, and_true, true_and, and_false, false_and, and_self, zW_eq, zin, zop, zst, fw_ite, fw_K, fw_R, fw_F, fw_C, zBW_s, nth, stL, okL, nlg, ct, ctv, cI, cL, pu, tkC, iniL, pad, eL, Value.category, swK, bz_0, bz_n0, bz_n1, bI_bz, bI_0, bI_t, bI_f, List.headD_cons, decide_true, decide_false, Bool.true_and, Bool.and_true, Bool.false_and, Bool.and_false, Bool.and_self, Bool.not_true, Bool.not_false, Bool.or_false, Bool.false_or, Bool.true_or, Bool.or_true, Bool.or_self, Bool.false_eq_true, rf_45, rf_47, rf_49, rf_50, rf_51, rf_58, rf_63, rf_65, rf_267, rf45, rf50, rf58, rf63, rf267, ob_45, ob_49, ob_50, ob_58, ob_63, ob_267, ln_46, ln_46n, ln_46m, ln_47, ln_47n, ln_48, ln_48n, ln_51, ln_56, ln_57, ln_59, ln_60, ln_61, ln_62, ln_64, ln_64n, ln_65, ln_268, ln_269, ln_270, ln_270n, ln_271, ln_271n, ln_272, ln_272n, ln_272m, ln_273, ln_274, ln_275, ln_276, ln_277, ln_278, ln_278n, ln_279, ln_280, ln_281, ln_282, ln_283, ln_283n, ln_284, ln_285, ln_286, ln_286n, ln_287, ln_287n, ln_288, ln_289, ln_289n, gF_sF, gF_sG, gF_sI, gF_sJ, gF_sP, gF_sR, gF_sL, gG_sF, gG_sG, gG_sI, gG_sJ, gG_sP, gG_sR, gG_sL, gI_sF, gI_sG, gI_sI, gI_sJ, gI_sP, gI_sR, gI_sL, gJ_sF, gJ_sG, gJ_sI, gJ_sJ, gJ_sP, gJ_sR, gJ_sL, gP_sF, gP_sG, gP_sI, gP_sJ, gP_sP, gP_sR, gP_sL, inB_n, inC_n, iX_n, nI_add, pk_mul, pk_sub, n_and, n_or, n_xor, n_one, n_ush, n_shr, n_div, n_rem, n_ltm, m_ltn, m_ltm, n_eqm, m_eqn, m_eqm, n_lt, n_eq, n_eq0, n_addm, n_i2l, m_i2l, n_l2i, lN_add, lN_mul, lN_sub, l_div, l_rem, l_eq0, lc_lt, lc_gt, lc_eq, l_lt, l_eq, l_ltm, ml_ltn, ml_ltm, l_eqm, ml_eqn, ml_eqm, ls_1, ls_2, ls_3, ls_4, ls_5, ls_6, ls_7, ls_8, ls_10, ls_11, ls_12, ls_13, ls_14, ls_15, ls_16, ls_17, ob_0, ob_9, rf_0, rf_9, r6, a, i16, rt, b]
    · rw [decide_eq_false b, Bool.not_false, Bool.true_and]
      by_cases c : hi' < T i
      · rw [decide_eq_true c, Bool.not_true, zE_W []]
        simp (disch := omega) only [tt_179, T_179, mx_179, Nat.reduceLT, Nat.reduceLeDiff, Nat.reduceEqDiff, Nat.reduceAdd, Nat.reduceMul, Nat.reduceSub, Nat.reducePow, Nat.reduceMod, Nat.reduceDiv, Nat.reduceBEq, ↓reduceIte, reduceCtorEq, and_true, true_and, and_false, false_and, and_self, zW_eq, zin, zop, zst, fw_ite, fw_K, fw_R, fw_F, fw_C, zBW_s, nth, stL, okL, nlg, ct, ctv, cI, cL, pu, tkC, iniL, pad, eL, Value.category, swK, bz_0, bz_n0, bz_n1, bI_bz, bI_0, bI_t, bI_f, List.headD_cons, decide_true, decide_false, Bool.true_and, Bool.and_true, Bool.false_and, Bool.and_false, Bool.and_self, Bool.not_true, Bool.not_false, Bool.or_false, Bool.false_or, Bool.true_or, Bool.or_true, Bool.or_self, Bool.false_eq_true, rf_45, rf_47, rf_49, rf_50, rf_51, rf_58, rf_63, rf_65, rf_267, rf45, rf50, rf58, rf63, rf267, ob_45, ob_49, ob_50, ob_58, ob_63, ob_267, ln_46, ln_46n, ln_46m, ln_47, ln_47n, ln_48, ln_48n, ln_51, ln_56, ln_57, ln_59, ln_60, ln_61, ln_62, ln_64, ln_64n, ln_65, ln_268, ln_269, ln_270, ln_270n, ln_271, ln_271n, ln_272, ln_272n, ln_272m, ln_273, ln_274, ln_275, ln_276, ln_277, ln_278, ln_278n, ln_279, ln_280, ln_281, ln_282, ln_283, ln_283n, ln_284, ln_285, ln_286, ln_286n, ln_287, ln_287n, ln_288, ln_289, ln_289n, gF_sF, gF_sG, gF_sI, gF_sJ, gF_sP, gF_sR, gF_sL, gG_sF, gG_sG, gG_sI, gG_sJ, gG_sP, gG_sR, gG_sL, gI_sF, gI_sG, gI_sI, gI_sJ, gI_sP, gI_sR, gI_sL, gJ_sF, gJ_sG, gJ_sI, gJ_sJ, gJ_sP, gJ_sR, gJ_sL, gP_sF, gP_sG, gP_sI, gP_sJ, gP_sP, gP_sR, gP_sL, inB_n, inC_n, iX_n, nI_add, pk_mul, pk_sub, n_and, n_or, n_xor, n_one, n_ush, n_shr, n_div, n_rem, n_ltm, m_ltn, m_ltm, n_eqm, m_eqn, m_eqm, n_lt, n_eq, n_eq0, n_addm, n_i2l, m_i2l, n_l2i, lN_add, lN_mul, lN_sub, l_div, l_rem, l_eq0, lc_lt, lc_gt, lc_eq, l_lt, l_eq, l_ltm, ml_ltn, ml_ltm, l_eqm, ml_eqn, ml_eqm, ls_1, ls_2, ls_3, ls_4, ls_5, ls_6, ls_7, ls_8, ls_10, ls_11, ls_12, ls_13, ls_14, ls_15, ls_16, ls_17, ob_0, ob_9, rf_0, rf_9, r6, a, i16, rt, b, c]
      · rw [decide_eq_false c, Bool.not_false, zE_W []]
        simp (disch := omega) only [tt_179, T_179, mx_179, Nat.reduceLT, Nat.reduceLeDiff, Nat.reduceEqDiff, Nat.reduceAdd, Nat.reduceMul, Nat.reduceSub, Nat.reducePow, Nat.reduceMod, Nat.reduceDiv, Nat.reduceBEq, ↓reduceIte, reduceCtorEq, and_true, true_and, and_false, false_and, and_self, zW_eq, zin, zop, zst, fw_ite, fw_K, fw_R, fw_F, fw_C, zBW_s, nth, stL, okL, nlg, ct, ctv, cI, cL, pu, tkC, iniL, pad, eL, Value.category, swK, bz_0, bz_n0, bz_n1, bI_bz, bI_0, bI_t, bI_f, List.headD_cons, decide_true, decide_false, Bool.true_and, Bool.and_true, Bool.false_and, Bool.and_false, Bool.and_self, Bool.not_true, Bool.not_false, Bool.or_false, Bool.false_or, Bool.true_or, Bool.or_true, Bool.or_self, Bool.false_eq_true, rf_45, rf_47, rf_49, rf_50, rf_51, rf_58, rf_63, rf_65, rf_267, rf45, rf50, rf58, rf63, rf267, ob_45, ob_49, ob_50, ob_58, ob_63, ob_267, ln_46, ln_46n, ln_46m, ln_47, ln_47n, ln_48, ln_48n, ln_51, ln_56, ln_57, ln_59, ln_60, ln_61, ln_62, ln_64, ln_64n, ln_65, ln_268, ln_269, ln_270, ln_270n, ln_271, ln_271n, ln_272, ln_272n, ln_272m, ln_273, ln_274, ln_275, ln_276, ln_277, ln_278, ln_278n, ln_279, ln_280, ln_281, ln_282, ln_283, ln_283n, ln_284, ln_285, ln_286, ln_286n, ln_287, ln_287n, ln_288, ln_289, ln_289n, gF_sF, gF_sG, gF_sI, gF_sJ, gF_sP, gF_sR, gF_sL, gG_sF, gG_sG, gG_sI, gG_sJ, gG_sP, gG_sR, gG_sL, gI_sF, gI_sG, gI_sI, gI_sJ, gI_sP, gI_sR, gI_sL, gJ_sF, gJ_sG, gJ_sI, gJ_sJ, gJ_sP, gJ_sR, gJ_sL, gP_sF, gP_sG, gP_sI, gP_sJ, gP_sP, gP_sR, gP_sL, inB_n, inC_n, iX_n, nI_add, pk_mul, pk_sub, n_and, n_or, n_xor, n_one, n_ush, n_shr, n_div, n_rem, n_ltm, m_ltn, m_ltm, n_eqm, m_eqn, m_eqm, n_lt, n_eq, n_eq0, n_addm, n_i2l, m_i2l, n_l2i, lN_add, lN_mul, lN_sub, l_div, l_rem, l_eq0, lc_lt, lc_gt, lc_eq, l_lt, l_eq, l_ltm, ml_ltn, ml_ltm, l_eqm, ml_eqn, ml_eqm, ls_1, ls_2, ls_3, ls_4, ls_5, ls_6, ls_7, ls_8, ls_10, ls_11, ls_12, ls_13, ls_14, ls_15, ls_16, ls_17, ob_0, ob_9, rf_0, rf_9, r6, a, i16, rt, b, c]
  · rw [decide_eq_false a, Bool.false_and, zE_W []]
    simp (disch := omega) only [tt_179, T_179, mx_179, Nat.reduceLT, Nat.reduceLeDiff, Nat.reduceEqDiff, Nat.reduceAdd, Nat.reduceMul, Nat.reduceSub, Nat.reducePow, Nat.reduceMod, Nat.reduceDiv, Nat.reduceBEq, ↓reduceIte, reduceCtorEq, and_true, true_and, and_false, false_and, and_self, zW_eq, zin, zop, zst, fw_ite, fw_K, fw_R, fw_F, fw_C, zBW_s, nth, stL, okL, nlg, ct, ctv, cI, cL, pu, tkC, iniL, pad, eL, Value.category, swK, bz_0, bz_n0, bz_n1, bI_bz, bI_0, bI_t, bI_f, List.headD_cons, decide_true, decide_false, Bool.true_and, Bool.and_true, Bool.false_and, Bool.and_false, Bool.and_self, Bool.not_true, Bool.not_false, Bool.or_false, Bool.false_or, Bool.true_or, Bool.or_true, Bool.or_self, Bool.false_eq_true, rf_45, rf_47, rf_49, rf_50, rf_51, rf_58, rf_63, rf_65, rf_267, rf45, rf50, rf58, rf63, rf267, ob_45, ob_49, ob_50, ob_58, ob_63, ob_267, ln_46, ln_46n, ln_46m, ln_47, ln_47n, ln_48, ln_48n, ln_51, ln_56, ln_57, ln_59, ln_60, ln_61, ln_62, ln_64, ln_64n, ln_65, ln_268, ln_269, ln_270, ln_270n, ln_271, ln_271n, ln_272, ln_272n, ln_272m, ln_273, ln_274, ln_275, ln_276, ln_277, ln_278, ln_278n, ln_279, ln_280, ln_281, ln_282, ln_283, ln_283n, ln_284, ln_285, ln_286, ln_286n, ln_287, ln_287n, ln_288, ln_289, ln_289n, gF_sF, gF_sG, gF_sI, gF_sJ, gF_sP, gF_sR, gF_sL, gG_sF, gG_sG, gG_sI, gG_sJ, gG_sP, gG_sR, gG_sL, gI_sF, gI_sG, gI_sI, gI_sJ, gI_sP, gI_sR, gI_sL, gJ_sF, gJ_sG, gJ_sI, gJ_sJ, gJ_sP, gJ_sR, gJ_sL, gP_sF, gP_sG, gP_sI, gP_sJ, gP_sP, gP_sR, gP_sL, inB_n, inC_n, iX_n, nI_add, pk_mul, pk_sub, n_and, n_or, n_xor, n_one, n_ush, n_shr, n_div, n_rem, n_ltm, m_ltn, m_ltm, n_eqm, m_eqn, m_eqm, n_lt, n_eq, n_eq0, n_addm, n_i2l, m_i2l, n_l2i, lN_add, lN_mul, lN_sub, l_div, l_rem, l_eq0, lc_lt, lc_gt, lc_eq, l_lt, l_eq, l_ltm, ml_ltn, ml_ltm, l_eqm, ml_eqn, ml_eqm, ls_1, ls_2, ls_3, ls_4, ls_5, ls_6, ls_7, ls_8, ls_10, ls_11, ls_12, ls_13, ls_14, ls_15, ls_16, ls_17, ob_0, ob_9, rf_0, rf_9, r6, a]
theorem i_eq {x : Int32} {b : Nat} (hb : b < 2 ^ 31) : (!decide (x < nI b) && !decide (nI b < x)) = decide (x = nI b) := by
  by_cases e : x = nI b
  · have hn : ¬ nI b < nI b := by rw [n_lt hb hb]; omega
    rw [e, decide_eq_false hn, decide_eq_true rfl]; rfl
  · rw [decide_eq_false e]
    rcases i32_cases x with ⟨i, hi, rfl⟩ | ⟨m, hm, hm2, rfl⟩
    · by_cases z : i < b
      · rw [decide_eq_true (p := nI i < nI b) (by rw [n_lt hi hb]; exact z)]; rfl
      · have hne : ¬ i = b := fun y => e (by rw [y])
        rw [decide_eq_true (p := nI b < nI i) (by rw [n_lt hb hi]; omega), Bool.not_true, Bool.and_false]
    · rw [decide_eq_true (p := mI m < nI b) (by rw [m_ltn hb hm2 hm]; trivial)]; rfl
theorem byB_1 {T : Nat → Int32} {n i b : Nat} (hb : b < 2 ^ 31) (hi : i < n) : byB T n i (nI b) (nI b) = decide (T i = nI b) := by
  unfold byB
  rw [decide_eq_true hi, Bool.true_and, i_eq hb]
theorem byB_o {T : Nat → Int32} {n i : Nat} (hi : ¬ i < n) (lo hi' : Int32) : byB T n i lo hi' = false := by
  unfold byB
  rw [decide_eq_false hi, Bool.false_and]
theorem byB_l {T : Nat → Int32} {n i : Nat} (hi : i < n) : byB T n i (nI 97) (nI 122) = runP T 1 i := by
  unfold byB runP
  rw [decide_eq_true hi, Bool.true_and]
  by_cases a : T i < nI 97 ∨ nI 122 < T i
  · have e : ¬ kdO (T i) = 1 := by rw [kdO_f a]; have := kd2_b (T i); omega
    rw [decide_eq_false e]
    rcases a with a | a
    · rw [decide_eq_true a]; rfl
    · rw [decide_eq_true a, Bool.not_true, Bool.and_false]
  · have a1 : ¬ T i < nI 97 := fun z => a (Or.inl z)
    have a2 : ¬ nI 122 < T i := fun z => a (Or.inr z)
    rw [decide_eq_false a1, decide_eq_false a2, decide_eq_true (kdO_t a1 a2)]; rfl
theorem byB_d {T : Nat → Int32} {n i : Nat} (hi : i < n) : byB T n i (nI 48) (nI 57) = runP T 2 i := by
  unfold byB runP
  rw [decide_eq_true hi, Bool.true_and]
  by_cases e : kdO (T i) = 2
  · obtain ⟨y, hy, y1, y2⟩ := kd_2 e
    rw [decide_eq_true e, hy, decide_eq_false (p := nI y < nI 48) (by rw [n_lt (by omega) (by decide)]; omega), decide_eq_false (p := nI 57 < nI y) (by rw [n_lt (by decide) (by omega)]; omega)]
    rfl
  · rw [decide_eq_false e]
    by_cases b : T i < nI 48
    · rw [decide_eq_true b]; rfl
    · by_cases c : nI 57 < T i
      · rw [decide_eq_true c, Bool.not_true, Bool.and_false]
      · exfalso
        apply e
        have hlt : T i < nI 97 := by
          rcases i32_cases (T i) with ⟨y, hy, ey⟩ | ⟨m, hm, hm2, ey⟩
          · rw [ey] at c ⊢
            rw [n_lt (by decide) hy] at c
            rw [n_lt hy (by decide)]
            omega
          · rw [ey, m_ltn (by decide) hm2 hm]; trivial
        rw [kdO_f (Or.inl hlt), kd2_t b c]
/-- words in base 27 -/
def ltV (x : Int32) : Nat := x.toInt.toNat - 96
def pkN (f : Nat → Nat) : Nat → Nat
  | 0 => 0
  | m + 1 => 27 * pkN f m + f m
theorem pkN_s (f : Nat → Nat) (m : Nat) : pkN f (m + 1) = 27 * pkN f m + f m := rfl
theorem pkN_inj {f g : Nat → Nat} : ∀ m l, (∀ j, j < m → 1 ≤ f j ∧ f j ≤ 26) → (∀ j, j < l → 1 ≤ g j ∧ g j ≤ 26) → pkN f m = pkN g l → m = l ∧ ∀ j, j < m → f j = g j := by
  intro m
  induction m with
  | zero =>
    intro l _ hg e
    cases l with
    | zero => exact ⟨rfl, fun j hj => absurd hj (Nat.not_lt_zero _)⟩
    | succ l =>
      have := hg l (by omega)
      rw [pkN_s] at e
      have e : 0 = 27 * pkN g l + g l := e
      omega
  | succ m ih =>
    intro l hf hg e
    cases l with
    | zero =>
      have := hf m (by omega)
      rw [pkN_s] at e
      have e : 27 * pkN f m + f m = 0 := e
      omega
    | succ l =>
      have h1 := hf m (by omega)
      have h2 := hg l (by omega)
      rw [pkN_s, pkN_s] at e
      have e1 : f m = g l := by omega
      have e2 : pkN f m = pkN g l := by omega
      obtain ⟨i1, i2⟩ := ih l (fun j hj => hf j (by omega)) (fun j hj => hg j (by omega)) e2
      subst i1
      refine ⟨rfl, fun j hj => ?_⟩
      by_cases z : j = m
      · rw [z]; exact e1
      · exact i2 j (by omega)
theorem pkN_lt {f : Nat → Nat} : ∀ m, (∀ j, j < m → f j ≤ 26) → pkN f m < 27 ^ m := by
  intro m
  induction m with
  | zero => intro _; exact Nat.one_pos
  | succ m ih =>
    intro h
    have h1 := ih (fun j hj => h j (by omega))
    have h2 := h m (by omega)
    rw [pkN_s, Nat.pow_succ]
    omega
def wdL (T : Nat → Int32) (a m : Nat) : Int64 := if m ≤ 12 then lN (pkN (fun j => ltV (T (a + j))) m) else mL 1
/-- the reference's number against the class's -/
def NuR (r c : Nat) : Prop := (r = c ∧ c ≤ 1000009) ∨ (r = 9999999 ∧ 1000009 < c)
theorem NuR.step {r c d : Nat} (h : NuR r c) (hd : d ≤ 9) : NuR (if 100000 < r then 9999999 else 10 * r + d) (nmS c d) := by
  unfold nmS NuR at *
  rcases h with ⟨h1, h2⟩ | ⟨h1, h2⟩
  · by_cases z : 100000 < r
    · rw [if_pos z]
      right
      refine ⟨rfl, ?_⟩
      split <;> omega
    · rw [if_neg z, if_neg (by omega)]
      left
      omega
  · rw [if_pos (by omega)]
    right
    refine ⟨rfl, ?_⟩
    split <;> omega
