/-! ===== walks: the draw, the choice drawn ===== -/
def fdA (B : Nat → Bool) : Nat → Nat → Nat → Option Nat
  | 0, _, _ => none
  | f + 1, left, c => if B c = true then (if left = 0 then some c else fdA B f (left - 1) (c + 1)) else fdA B f left (c + 1)
theorem fdA_s (B : Nat → Bool) (f left c : Nat) : fdA B (f + 1) left c = if B c = true then (if left = 0 then some c else fdA B f (left - 1) (c + 1)) else fdA B f left (c + 1) := rfl
theorem fdA_sp {B : Nat → Bool} : ∀ f left c, cnt B c + left < cnt B (c + f) → ∃ d, fdA B f left c = some d ∧ d < c + f ∧ B d = true := by
  intro f
  induction f with
  | zero => intro left c h; rw [Nat.add_zero] at h; omega
  | succ f ih =>
    intro left c h
    rw [fdA_s]
    rw [show c + (f + 1) = c + 1 + f by omega] at h ⊢
    cases hb : B c with
    | true =>
      rw [if_pos rfl]
      by_cases z : left = 0
      · rw [if_pos z]; exact ⟨c, rfl, by omega, hb⟩
      · rw [if_neg z]
        refine ih (left - 1) (c + 1) ?_
        rw [cnt_t hb]
        omega
    | false =>
      rw [if_neg (by decide)]
      refine ih left (c + 1) ?_
      rw [cnt_f hb]
      exact h
theorem bits_id {n x : Nat} (h : x < 2 ^ n) : bitsP (fun c => x.testBit c) n = x := by
  apply Nat.eq_of_testBit_eq
  intro i
  rw [bitsP_tb]
  by_cases z : i < n
  · rw [decide_eq_true z, Bool.true_and]
  · rw [decide_eq_false z, Bool.false_and]
    exact (Nat.testBit_lt_two_pow (Nat.lt_of_lt_of_le h (Nat.pow_le_pow_right (by decide) (by omega)))).symm
theorem pop_op {sc : Sg} (g : Gd sc) {p lim : Nat} : pop (opS sc p lim) = cnt (fun c => (opS sc p lim).testBit c) 28 := by
  rw [← pop_bitsP _ 28 (by decide), bits_id (opS_lt g)]
def rnX (x : Nat) : Nat := (1103515245 * x + 12345) % 2147483648
/-- the choice drawn -/
def drC (sc : Sg) (T p x : Nat) : Nat := (fdA (fun c => (opS sc p T).testBit c) 28 (rnX x / 65536 % pop (opS sc p T)) 0).getD 0
def wst (sc : Sg) (T : Nat) (s : Nat × Nat) : Nat × Nat := if pop (opS sc s.1 T) = 0 then s else (s.1 ^^^ flS sc (drC sc T s.1 s.2), rnX s.2)
def wsq (sc : Sg) (T : Nat) (s : Nat × Nat) : Nat → Nat × Nat
  | 0 => s
  | k + 1 => wst sc T (wsq sc T s k)
def snq (sc : Sg) (T : Nat) (s : Nat × Nat) : Nat → Qu
  | 0 => qput nob 0 [] s.1
  | k + 1 => qput nob 0 (snq sc T s k) (wsq sc T s (k + 1)).1
theorem wsq_s (sc : Sg) (T : Nat) (s : Nat × Nat) (k : Nat) : wsq sc T s (k + 1) = wst sc T (wsq sc T s k) := rfl
theorem snq_s (sc : Sg) (T : Nat) (s : Nat × Nat) (k : Nat) : snq sc T s (k + 1) = qput nob 0 (snq sc T s k) (wsq sc T s (k + 1)).1 := rfl
theorem rnX_lt (x : Nat) : rnX x < 2147483648 := Nat.mod_lt _ (by decide)
theorem dr_sp {sc : Sg} (g : Gd sc) {T p x : Nat} (h : pop (opS sc p T) ≠ 0) : fdA (fun c => (opS sc p T).testBit c) 28 (rnX x / 65536 % pop (opS sc p T)) 0 = some (drC sc T p x) ∧ drC sc T p x < 28 ∧ (opS sc p T).testBit (drC sc T p x) = true := by
  have hlt := Nat.mod_lt (rnX x / 65536) (show 0 < pop (opS sc p T) by omega)
  obtain ⟨d, d1, d2, d3⟩ := fdA_sp (B := fun c => (opS sc p T).testBit c) 28 (rnX x / 65536 % pop (opS sc p T)) 0 (by
    show 0 + _ < _
    rw [Nat.zero_add, ← pop_op g]
    omega)
  have e : drC sc T p x = d := by unfold drC; rw [d1]; rfl
  rw [e]
  exact ⟨d1, by omega, d3⟩
theorem wst_in {sc : Sg} (g : Gd sc) {T : Nat} {s : Nat × Nat} (h1 : s.1 < 2 ^ sc.1 4) (h2 : pop s.1 ≤ T) (h3 : s.2 < 2147483648) : (wst sc T s).1 < 2 ^ sc.1 4 ∧ pop (wst sc T s).1 ≤ T ∧ (wst sc T s).2 < 2147483648 := by
  unfold wst
  by_cases z : pop (opS sc s.1 T) = 0
  · rw [if_pos z]; exact ⟨h1, h2, h3⟩
  · rw [if_neg z]
    obtain ⟨-, d2, d3⟩ := dr_sp g (x := s.2) z
    have := ch_inv g h1 h2 d2 d3
    exact ⟨this.1, this.2.1, rnX_lt _⟩
theorem wsq_in {sc : Sg} (g : Gd sc) {T : Nat} {s : Nat × Nat} (h1 : s.1 < 2 ^ sc.1 4) (h2 : pop s.1 ≤ T) (h3 : s.2 < 2147483648) : ∀ k, (wsq sc T s k).1 < 2 ^ sc.1 4 ∧ pop (wsq sc T s k).1 ≤ T ∧ (wsq sc T s k).2 < 2147483648 := by
  intro k
  induction k with
  | zero => exact ⟨h1, h2, h3⟩
  | succ k ih => exact wst_in g ih.1 ih.2.1 ih.2.2
theorem snq_has {sc : Sg} {T : Nat} {s : Nat × Nat} : ∀ k, ∃ d, qd (snq sc T s k) (wsq sc T s k).1 = some d := by
  have key : ∀ (Q : Qu) p, ∃ d, qd (qput nob 0 Q p) p = some d := by
    intro Q p
    rcases qput_c nob 0 Q p with ⟨e, h1, -⟩ | ⟨e, hn⟩
    · exact ⟨0, by rw [e, qd_app, if_pos h1, if_pos rfl]⟩
    · cases hq : qd Q p with
      | none => exact absurd ⟨hq, rfl⟩ hn
      | some d => exact ⟨d, by rw [e, hq]⟩
  intro k
  cases k with
  | zero => exact key _ _
  | succ k => exact key _ _
/-- if there are no choices, one stays -/
theorem wsq_fix {sc : Sg} {T : Nat} {s : Nat × Nat} {k : Nat} (h : pop (opS sc (wsq sc T s k).1 T) = 0) : ∀ d, wsq sc T s (k + d) = wsq sc T s k ∧ snq sc T s (k + d) = snq sc T s k := by
  intro d
  induction d with
  | zero => exact ⟨rfl, rfl⟩
  | succ d ih =>
    have e : wsq sc T s (k + (d + 1)) = wsq sc T s k := by
      rw [← Nat.add_assoc, wsq_s, ih.1]
      unfold wst
      rw [if_pos h]
    refine ⟨e, ?_⟩
    rw [← Nat.add_assoc, snq_s, show k + d + 1 = k + (d + 1) by omega, e, ih.2]
    obtain ⟨x, hx⟩ := snq_has (sc := sc) (T := T) (s := s) k
    exact qput_f (fun z => by rw [hx] at z; cases z.1)
theorem snq_qb {sc : Sg} (g : Gd sc) {T : Nat} {s : Nat × Nat} (h1 : s.1 < 2 ^ sc.1 4) (h2 : pop s.1 ≤ T) (h3 : s.2 < 2147483648) : ∀ k, QB sc T 0 (snq sc T s k) := by
  intro k
  induction k with
  | zero => exact (QB.nil _ _ _).put h1 h2 (Nat.zero_le _)
  | succ k ih =>
    have := wsq_in g h1 h2 h3 (k + 1)
    exact ih.put this.1 this.2.1 (Nat.zero_le _)
theorem t_bitAt {x left : Nat} (w : Wd) (hx : x < 2 ^ 28) (hl : left < 2 ^ 31) : zE 163 [.int (nI x), .int (nI left)] w = some (some (.int (nI ((fdA (fun c => x.testBit c) 28 left 0).getD 0))), w) := by
  have lp : ∀ f l c, c + f = 28 → l < 2 ^ 31 → zR 163 4 [.int (nI x), .int (nI left), .int (nI l), .int (nI c)] [] w = some (some (.int (nI ((fdA (fun c => x.testBit c) f l c).getD 0))), w) := by
    intro f
    induction f with
    | zero =>
      intro l c hc hl
      have hc : c = 28 := by omega
      subst hc
      show _ = some (some (Value.int (nI 0)), w)
      rw [zR_W [4]]
      simp (disch := omega) only [tt_163, T_163, mx_163, Nat.reduceLT, Nat.reduceLeDiff, Nat.reduceEqDiff, Nat.reduceAdd, Nat.reduceMul, Nat.reduceSub, Nat.reducePow, Nat.reduceMod, Nat.reduceDiv, Nat.reduceBEq, ↓reduceIte, reduceCtorEq, and_true, true_and, and_false, false_and, and_self, zW_eq, zin, zop, zst, fw_ite, fw_K, fw_R, fw_F, fw_C, zBW_s, nth, stL, okL, nlg, ct, ctv, cI, cL, pu, tkC, iniL, pad, eL, Value.category, swK, bz_0, bz_n0, bz_n1, bI_bz, bI_0, bI_t, bI_f, List.headD_cons, decide_true, decide_false, Bool.true_and, Bool.and_true, Bool.false_and, Bool.and_false, Bool.and_self, Bool.not_true, Bool.not_false, Bool.or_false, Bool.false_or, Bool.true_or, Bool.or_true, Bool.or_self, Bool.false_eq_true, rf_45, rf_47, rf_49, rf_50, rf_51, rf_58, rf_63, rf_65, rf_267, rf45, rf50, rf58, rf63, rf267, ob_45, ob_49, ob_50, ob_58, ob_63, ob_267, ln_46, ln_46n, ln_46m, ln_47, ln_47n, ln_48, ln_48n, ln_51, ln_56, ln_57, ln_59, ln_60, ln_61, ln_62, ln_64, ln_64n, ln_65, ln_268, ln_269, ln_270, ln_270n, ln_271, ln_271n, ln_272, ln_272n, ln_272m, ln_273, ln_274, ln_275, ln_276, ln_277, ln_278, ln_278n, ln_279, ln_280, ln_281, ln_282, ln_283, ln_283n, ln_284, ln_285, ln_286, ln_286n, ln_287, ln_287n, ln_288, ln_289, ln_289n, gF_sF, gF_sG, gF_sI, gF_sJ, gF_sP, gF_sR, gF_sL, gG_sF, gG_sG, gG_sI, gG_sJ, gG_sP, gG_sR, gG_sL, gI_sF, gI_sG, gI_sI, gI_sJ, gI_sP, gI_sR, gI_sL, gJ_sF, gJ_sG, gJ_sI, gJ_sJ, gJ_sP, gJ_sR, gJ_sL, gP_sF, gP_sG, gP_sI, gP_sJ, gP_sP, gP_sR, gP_sL, inB_n, inC_n, iX_n, nI_add, pk_mul, pk_sub, n_and, n_or, n_xor, n_one, n_ush, n_shr, n_div, n_rem, n_ltm, m_ltn, m_ltm, n_eqm, m_eqn, m_eqm, n_lt, n_eq, n_eq0, n_addm, n_i2l, m_i2l, n_l2i, lN_add, lN_mul, lN_sub, l_div, l_rem, l_eq0, lc_lt, lc_gt, lc_eq, l_lt, l_eq, l_ltm, ml_ltn, ml_ltm, l_eqm, ml_eqn, ml_eqm, ls_1, ls_2, ls_3, ls_4, ls_5, ls_6, ls_7, ls_8, ls_10, ls_11, ls_12, ls_13, ls_14, ls_15, ls_16, ls_17, ob_0, ob_9, rf_0, rf_9]
    | succ f ih =>
      intro l c hc hl
      have c28 : c < 28 := by omega
      have hdv : x / 2 ^ c < 2 ^ 28 := div_lt31 hx
      rw [fdA_s]
      cases hb : x.testBit c with
      | false =>
        have hih := ih l (c + 1) (by omega) hl
        rw [if_neg (by decide), zR_W [4]]
        simp (disch := omega) only [tt_163, T_163, mx_163, Nat.reduceLT, Nat.reduceLeDiff, Nat.reduceEqDiff, Nat.reduceAdd, Nat.reduceMul, Nat.reduceSub, Nat.reducePow, Nat.reduceMod, Nat.reduceDiv, Nat.reduceBEq, ↓reduceIte, reduceCtorEq, and_true, true_and, and_false, false_and, and_self, zW_eq, zin, zop, zst, fw_ite, fw_K, fw_R, fw_F, fw_C, zBW_s, nth, stL, okL, nlg, ct, ctv, cI, cL, pu, tkC, iniL, pad, eL, Value.category, swK, bz_0, bz_n0, bz_n1, bI_bz, bI_0, bI_t, bI_f, List.headD_cons, decide_true, decide_false, Bool.true_and, Bool.and_true, Bool.false_and, Bool.and_false, Bool.and_self, Bool.not_true, Bool.not_false, Bool.or_false, Bool.false_or, Bool.true_or, Bool.or_true, Bool.or_self, Bool.false_eq_true, rf_45, rf_47, rf_49, rf_50, rf_51, rf_58, rf_63, rf_65, rf_267, rf45, rf50, rf58, rf63, rf267, ob_45, ob_49, ob_50, ob_58, ob_63, ob_267, ln_46, ln_46n, ln_46m, ln_47, ln_47n, ln_48, ln_48n, ln_51, ln_56, ln_57, ln_59, ln_60, ln_61, ln_62, ln_64, ln_64n, ln_65, ln_268, ln_269, ln_270, ln_270n, ln_271, ln_271n, ln_272, ln_272n, ln_272m, ln_273, ln_274, ln_275, ln_276, ln_277, ln_278, ln_278n, ln_279, ln_280, ln_281, ln_282, ln_283, ln_283n, ln_284, ln_285, ln_286, ln_286n, ln_287, ln_287n, ln_288, ln_289, ln_289n, gF_sF, gF_sG, gF_sI, gF_sJ, gF_sP, gF_sR, gF_sL, gG_sF, gG_sG, gG_sI, gG_sJ, gG_sP, gG_sR, gG_sL, gI_sF, gI_sG, gI_sI, gI_sJ, gI_sP, gI_sR, gI_sL, gJ_sF, gJ_sG, gJ_sI, gJ_sJ, gJ_sP, gJ_sR, gJ_sL, gP_sF, gP_sG, gP_sI, gP_sJ, gP_sP, gP_sR, gP_sL, inB_n, inC_n, iX_n, nI_add, pk_mul, pk_sub, n_and, n_or, n_xor, n_one, n_ush, n_shr, n_div, n_rem, n_ltm, m_ltn, m_ltm, n_eqm, m_eqn, m_eqm, n_lt, n_eq, n_eq0, n_addm, n_i2l, m_i2l, n_l2i, lN_add, lN_mul, lN_sub, l_div, l_rem, l_eq0, lc_lt, lc_gt, lc_eq, l_lt, l_eq, l_ltm, ml_ltn, ml_ltm, l_eqm, ml_eqn, ml_eqm, ls_1, ls_2, ls_3, ls_4, ls_5, ls_6, ls_7, ls_8, ls_10, ls_11, ls_12, ls_13, ls_14, ls_15, ls_16, ls_17, ob_0, ob_9, rf_0, rf_9, c28, bitV, hb, hih]
      | true =>
        rw [if_pos rfl]
        by_cases z : l = 0
        · rw [if_pos z, z, zR_W [4]]
          show _ = some (some (Value.int (nI c)), w)
          simp (disch := omega) only [tt_163, T_163, mx_163, Nat.reduceLT, Nat.reduceLeDiff, Nat.reduceEqDiff, Nat.reduceAdd, Nat.reduceMul, Nat.reduceSub, Nat.reducePow, Nat.reduceMod, Nat.reduceDiv, Nat.reduceBEq, ↓reduceIte, reduceCtorEq, and_true, true_and, and_false, false_and, and_self, zW_eq, zin, zop, zst, fw_ite, fw_K, fw_R, fw_F, fw_C, zBW_s, nth, stL, okL, nlg, ct, ctv, cI, cL, pu, tkC, iniL, pad, eL, Value.category, swK, bz_0, bz_n0, bz_n1, bI_bz, bI_0, bI_t, bI_f, List.headD_cons, decide_true, decide_false, Bool.true_and, Bool.and_true, Bool.false_and, Bool.and_false, Bool.and_self, Bool.not_true, Bool.not_false, Bool.or_false, Bool.false_or, Bool.true_or, Bool.or_true, Bool.or_self, Bool.false_eq_true, rf_45, rf_47, rf_49, rf_50, rf_51, rf_58, rf_63, rf_65, rf_267, rf45, rf50, rf58, rf63, rf267, ob_45, ob_49, ob_50, ob_58, ob_63, ob_267, ln_46, ln_46n, ln_46m, ln_47, ln_47n, ln_48, ln_48n, ln_51, ln_56, ln_57, ln_59, ln_60, ln_61, ln_62, ln_64, ln_64n, ln_65, ln_268, ln_269, ln_270, ln_270n, ln_271, ln_271n, ln_272, ln_272n, ln_272m, ln_273, ln_274, ln_275, ln_276, ln_277, ln_278, ln_278n, ln_279, ln_280, ln_281, ln_282, ln_283, ln_283n, ln_284, ln_285, ln_286, ln_286n, ln_287, ln_287n, ln_288, ln_289, ln_289n, gF_sF, gF_sG, gF_sI, gF_sJ, gF_sP, gF_sR, gF_sL, gG_sF, gG_sG, gG_sI, gG_sJ, gG_sP, gG_sR, gG_sL, gI_sF, gI_sG, gI_sI, gI_sJ, gI_sP, gI_sR, gI_sL, gJ_sF, gJ_sG, gJ_sI, gJ_sJ, gJ_sP, gJ_sR, gJ_sL, gP_sF, gP_sG, gP_sI, gP_sJ, gP_sP, gP_sR, gP_sL, inB_n, inC_n, iX_n, nI_add, pk_mul, pk_sub, n_and, n_or, n_xor, n_one, n_ush, n_shr, n_div, n_rem, n_ltm, m_ltn, m_ltm, n_eqm, m_eqn, m_eqm, n_lt, n_eq, n_eq0, n_addm, n_i2l, m_i2l, n_l2i, lN_add, lN_mul, lN_sub, l_div, l_rem, l_eq0, lc_lt, lc_gt, lc_eq, l_lt, l_eq, l_ltm, ml_ltn, ml_ltm, l_eqm, ml_eqn, ml_eqm, ls_1, ls_2, ls_3, ls_4, ls_5, ls_6, ls_7, ls_8, ls_10, ls_11, ls_12, ls_13, ls_14, ls_15, ls_16, ls_17, ob_0, ob_9, rf_0, rf_9, c28, bitV, hb]
        · rw [if_neg z]
          have hih := ih (l - 1) (c + 1) (by omega) (by omega)
          have l1 : 1 ≤ l := by omega
          rw [zR_W [4]]
          simp (disch := omega) only [tt_163, T_163, mx_163, Nat.reduceLT, Nat.reduceLeDiff, Nat.reduceEqDiff, Nat.reduceAdd, Nat.reduceMul, Nat.reduceSub, Nat.reducePow, Nat.reduceMod, Nat.reduceDiv, Nat.reduceBEq, ↓reduceIte, reduceCtorEq, and_true, true_and, and_false, false_and, and_self, zW_eq, zin, zop, zst, fw_ite, fw_K, fw_R, fw_F, fw_C, zBW_s, nth, stL, okL, nlg, ct, ctv, cI, cL, pu, tkC, iniL, pad, eL, Value.category, swK, bz_0, bz_n0, bz_n1, bI_bz, bI_0, bI_t, bI_f, List.headD_cons, decide_true, decide_false, Bool.true_and, Bool.and_true, Bool.false_and, Bool.and_false, Bool.and_self, Bool.not_true, Bool.not_false, Bool.or_false, Bool.false_or, Bool.true_or, Bool.or_true, Bool.or_self, Bool.false_eq_true, rf_45, rf_47, rf_49, rf_50, rf_51, rf_58, rf_63, rf_65, rf_267, rf45, rf50, rf58, rf63, rf267, ob_45, ob_49, ob_50, ob_58, ob_63, ob_267, ln_46, ln_46n, ln_46m, ln_47, ln_47n, ln_48, ln_48n, ln_51, ln_56, ln_57, ln_59, ln_60, ln_61, ln_62, ln_64, ln_64n, ln_65, ln_268, ln_269, ln_270, ln_270n, ln_271, ln_271n, ln_272, ln_272n, ln_272m, ln_273, ln_274, ln_275, ln_276, ln_277, ln_278, ln_278n, ln_279, ln_280, ln_281, ln_282, ln_283, ln_283n, ln_284, ln_285, ln_286, ln_286n, ln_287, ln_287n, ln_288, ln_289, ln_289n, gF_sF, gF_sG, gF_sI, gF_sJ, gF_sP, gF_sR, gF_sL, gG_sF, gG_sG, gG_sI, gG_sJ, gG_sP, gG_sR, gG_sL, gI_sF, gI_sG, gI_sI, gI_sJ, gI_sP, gI_sR, gI_sL, gJ_sF, gJ_sG, gJ_sI, gJ_sJ, gJ_sP, gJ_sR, gJ_sL, gP_sF, gP_sG, gP_sI, gP_sJ, gP_sP, gP_sR, gP_sL, inB_n, inC_n, iX_n, nI_add, pk_mul, pk_sub, n_and, n_or, n_xor, n_one, n_ush, n_shr, n_div, n_rem, n_ltm, m_ltn, m_ltm, n_eqm, m_eqn, m_eqm, n_lt, n_eq, n_eq0, n_addm, n_i2l, m_i2l, n_l2i, lN_add, lN_mul, lN_sub, l_div, l_rem, l_eq0, lc_lt, lc_gt, lc_eq, l_lt, l_eq, l_ltm, ml_ltn, ml_ltm, l_eqm, ml_eqn, ml_eqm, ls_1, ls_2, ls_3, ls_4, ls_5, ls_6, ls_7, ls_8, ls_10, ls_11, ls_12, ls_13, ls_14, ls_15, ls_16, ls_17, ob_0, ob_9, rf_0, rf_9, c28, bitV, hb, z, hih]
  have l0 := lp 28 left 0 rfl hl
  rw [zE_W [4]]
  simp (disch := omega) only [tt_163, T_163, mx_163, Nat.reduceLT, Nat.reduceLeDiff, Nat.reduceEqDiff, Nat.reduceAdd, Nat.reduceMul, Nat.reduceSub, Nat.reducePow, Nat.reduceMod, Nat.reduceDiv, Nat.reduceBEq, ↓reduceIte, reduceCtorEq, and_true, true_and, and_false, false_and, and_self, zW_eq, zin, zop, zst, fw_ite, fw_K, fw_R, fw_F, fw_C, zBW_s, nth, stL, okL, nlg, ct, ctv, cI, cL, pu, tkC, iniL, pad, eL, Value.category, swK, bz_0, bz_n0, bz_n1, bI_bz, bI_0, bI_t, bI_f, List.headD_cons, decide_true, decide_false, Bool.true_and, Bool.and_true, Bool.false_and, Bool.and_false, Bool.and_self, Bool.not_true, Bool.not_false, Bool.or_false, Bool.false_or, Bool.true_or, Bool.or_true, Bool.or_self, Bool.false_eq_true, rf_45, rf_47, rf_49, rf_50, rf_51, rf_58, rf_63, rf_65, rf_267, rf45, rf50, rf58, rf63, rf267, ob_45, ob_49, ob_50, ob_58, ob_63, ob_267, ln_46, ln_46n, ln_46m, ln_47, ln_47n, ln_48, ln_48n, ln_51, ln_56, ln_57, ln_59, ln_60, ln_61, ln_62, ln_64, ln_64n, ln_65, ln_268, ln_269, ln_270, ln_270n, ln_271, ln_271n, ln_272, ln_272n, ln_272m, ln_273, ln_274, ln_275, ln_276, ln_277, ln_278, ln_278n, ln_279, ln_280, ln_281, ln_282, ln_283, ln_283n, ln_284, ln_285, ln_286, ln_286n, ln_287, ln_287n, ln_288, ln_289, ln_289n, gF_sF, gF_sG, gF_sI, gF_sJ, gF_sP, gF_sR, gF_sL, gG_sF, gG_sG, gG_sI, gG_sJ, gG_sP, gG_sR, gG_sL, gI_sF, gI_sG, gI_sI, gI_sJ, gI_sP, gI_sR, gI_sL, gJ_sF, gJ_sG, gJ_sI, gJ_sJ, gJ_sP, gJ_sR, gJ_sL, gP_sF, gP_sG, gP_sI, gP_sJ, gP_sP, gP_sR, gP_sL, inB_n, inC_n, iX_n, nI_add, pk_mul, pk_sub, n_and, n_or, n_xor, n_one, n_ush, n_shr, n_div, n_rem, n_ltm, m_ltn, m_ltm, n_eqm, m_eqn, m_eqm, n_lt, n_eq, n_eq0, n_addm, n_i2l, m_i2l, n_l2i, lN_add, lN_mul, lN_sub, l_div, l_rem, l_eq0, lc_lt, lc_gt, lc_eq, l_lt, l_eq, l_ltm, ml_ltn, ml_ltm, l_eqm, ml_eqn, ml_eqm, ls_1, ls_2, ls_3, ls_4, ls_5, ls_6, ls_7, ls_8, ls_10, ls_11, ls_12, ls_13, ls_14, ls_15, ls_16, ls_17, ob_0, ob_9, rf_0, rf_9, l0]
set_option maxHeartbeats 4000000 in
theorem c_stroll {A : Ab} {w : Wd} (h : Rel A w) {T seed n : Nat} (hT0 : A.2.2.1.1 1 + A.2.2.1.1 2 - A.2.2.1.1 3 = T) (hs : seed ≤ 2000000000) (hn : n ≤ 200) : ∃ w', zE 162 [.ref 45, .int (nI seed), .int (nI n)] w = some (some (.int (nI (wsq A.2.2.1 T (A.2.2.1.1 5, seed) n).1)), w') ∧ SfC (gP w 3) (gP w 4) w w' ∧ gF w' 58 6 = nI (snq A.2.2.1 T (A.2.2.1.1 5, seed) n).length := by
  have g := h.g
  have h16 := p14 g
  have hst := g.2.1
  have l1 := g.2.2.1
  have l2 := g.2.2.2.1
  have l3 := g.2.2.2.2.1
  have hpT : pop (A.2.2.1.1 5) ≤ T := by omega
  have hT17 : T ≤ 17 := by omega
  have hseed : seed < 2147483648 := by omega
  have hin := wsq_in g (T := T) (s := (A.2.2.1.1 5, seed)) hst hpT hseed
  have hqb := snq_qb g (T := T) (s := (A.2.2.1.1 5, seed)) hst hpT hseed
  have hc := h.cC
  have h5 := hc.2.1 5 (by decide)
  have tt := t_total hc g
  rw [hT0] at tt
  obtain ⟨w1, b1, b2, b3⟩ := t_reset g h.ab hc rfl rfl T
  obtain ⟨w2, c1, c2, c3⟩ := t_put g h.ab b2 (QB.nil _ T 0) (by decide) hst (show 0 < 2 ^ 30 by decide)
  rw [barF_0] at c2
  have lp : ∀ d k W X8 X9, k + d = n → SrC A.2.2.1 T 0 (gP w 3) (gP w 4) (snq A.2.2.1 T (A.2.2.1.1 5, seed) k) 0 W → SfC (gP w 3) (gP w 4) w W → ∃ w', zR 162 42 [.ref 45, .int (nI seed), .int (nI n), .int (nI T), .int (nI (wsq A.2.2.1 T (A.2.2.1.1 5, seed) k).1), .long (lN (wsq A.2.2.1 T (A.2.2.1.1 5, seed) k).2), jk, .int (nI k), X8, X9] [] W = some (some (.int (nI (wsq A.2.2.1 T (A.2.2.1.1 5, seed) n).1)), w') ∧ SfC (gP w 3) (gP w 4) w w' ∧ gF w' 58 6 = nI (snq A.2.2.1 T (A.2.2.1.1 5, seed) n).length := by
    intro d
    induction d with
    | zero =>
      intro k W X8 X9 hk sW fW
      have hk : k = n := by omega
      subst hk
      refine ⟨W, ?_, fW, sW.2.2.2.2.2.2.1⟩
      rw [zR_W [42]]
      simp (disch := omega) only [tt_162, T_162, mx_162, Nat.reduceLT, Nat.reduceLeDiff, Nat.reduceEqDiff, Nat.reduceAdd, Nat.reduceMul, Nat.reduceSub, Nat.reducePow, Nat.reduceMod, Nat.reduceDiv, Nat.reduceBEq, ↓reduceIte, reduceCtorEq, and_true, true_and, and_false, false_and, and_self, zW_eq, zin, zop, zst, fw_ite, fw_K, fw_R, fw_F, fw_C, zBW_s, nth, stL, okL, nlg, ct, ctv, cI, cL, pu, tkC, iniL, pad, eL, Value.category, swK, bz_0, bz_n0, bz_n1, bI_bz, bI_0, bI_t, bI_f, List.headD_cons, decide_true, decide_false, Bool.true_and, Bool.and_true, Bool.false_and, Bool.and_false, Bool.and_self, Bool.not_true, Bool.not_false, Bool.or_false, Bool.false_or, Bool.true_or, Bool.or_true, Bool.or_self, Bool.false_eq_true, rf_45, rf_47, rf_49, rf_50, rf_51, rf_58, rf_63, rf_65, rf_267, rf45, rf50, rf58, rf63, rf267, ob_45, ob_49, ob_50, ob_58, ob_63, ob_267, ln_46, ln_46n, ln_46m, ln_47, ln_47n, ln_48, ln_48n, ln_51, ln_56, ln_57, ln_59, ln_60, ln_61, ln_62, ln_64, ln_64n, ln_65, ln_268, ln_269, ln_270, ln_270n, ln_271, ln_271n, ln_272, ln_272n, ln_272m, ln_273, ln_274, ln_275, ln_276, ln_277, ln_278, ln_278n, ln_279, ln_280, ln_281, ln_282, ln_283, ln_283n, ln_284, ln_285, ln_286, ln_286n, ln_287, ln_287n, ln_288, ln_289, ln_289n, gF_sF, gF_sG, gF_sI, gF_sJ, gF_sP, gF_sR, gF_sL, gG_sF, gG_sG, gG_sI, gG_sJ, gG_sP, gG_sR, gG_sL, gI_sF, gI_sG, gI_sI, gI_sJ, gI_sP, gI_sR, gI_sL, gJ_sF, gJ_sG, gJ_sI, gJ_sJ, gJ_sP, gJ_sR, gJ_sL, gP_sF, gP_sG, gP_sI, gP_sJ, gP_sP, gP_sR, gP_sL, inB_n, inC_n, iX_n, nI_add, pk_mul, pk_sub, n_and, n_or, n_xor, n_one, n_ush, n_shr, n_div, n_rem, n_ltm, m_ltn, m_ltm, n_eqm, m_eqn, m_eqm, n_lt, n_eq, n_eq0, n_addm, n_i2l, m_i2l, n_l2i, lN_add, lN_mul, lN_sub, l_div, l_rem, l_eq0, lc_lt, lc_gt, lc_eq, l_lt, l_eq, l_ltm, ml_ltn, ml_ltm, l_eqm, ml_eqn, ml_eqm, ls_1, ls_2, ls_3, ls_4, ls_5, ls_6, ls_7, ls_8, ls_10, ls_11, ls_12, ls_13, ls_14, ls_15, ls_16, ls_17, ob_0, ob_9, rf_0, rf_9, Nat.lt_irrefl]
    | succ d ih =>
      intro k W X8 X9 hk sW fW
      have hlt : k < n := by omega
      obtain ⟨p1, p2, p3⟩ := hin k
      have qbk := hqb k
      have hs1 := wsq_s A.2.2.1 T (A.2.2.1.1 5, seed) k
      have hs2 := snq_s A.2.2.1 T (A.2.2.1.1 5, seed) k
      have hfix := @wsq_fix A.2.2.1 T (A.2.2.1.1 5, seed) k
      rw [hs1] at hs2
      have ih := ih (k + 1)
      rw [hs1, hs2] at ih
      generalize hP : wsq A.2.2.1 T (A.2.2.1.1 5, seed) k = P at *
      generalize hQ : snq A.2.2.1 T (A.2.2.1.1 5, seed) k = Q at *
      have hop := t_open (p := P.1) (lim := T) sW.1 g (by omega) (by omega)
      have ho := opS_lt g (p := P.1) (lim := T)
      have hpl := pop_le (opS A.2.2.1 P.1 T)
      by_cases z : pop (opS A.2.2.1 P.1 T) = 0
      · have hf := hfix z (d + 1)
        rw [show k + (d + 1) = n by omega] at hf
        rw [hf.1, hf.2]
        refine ⟨W, ?_, fW, sW.2.2.2.2.2.2.1⟩
        rw [zR_W [42]]
        simp (disch := omega) only [tt_162, T_162, mx_162, Nat.reduceLT, Nat.reduceLeDiff, Nat.reduceEqDiff, Nat.reduceAdd, Nat.reduceMul, Nat.reduceSub, Nat.reducePow, Nat.reduceMod, Nat.reduceDiv, Nat.reduceBEq, ↓reduceIte, reduceCtorEq, and_true, true_and, and_false, false_and, and_self, zW_eq, zin, zop, zst, fw_ite, fw_K, fw_R, fw_F, fw_C, zBW_s, nth, stL, okL, nlg, ct, ctv, cI, cL, pu, tkC, iniL, pad, eL, Value.category, swK, bz_0, bz_n0, bz_n1, bI_bz, bI_0, bI_t, bI_f, List.headD_cons, decide_true, decide_false, Bool.true_and, Bool.and_true, Bool.false_and, Bool.and_false, Bool.and_self, Bool.not_true, Bool.not_false, Bool.or_false, Bool.false_or, Bool.true_or, Bool.or_true, Bool.or_self, Bool.false_eq_true, rf_45, rf_47, rf_49, rf_50, rf_51, rf_58, rf_63, rf_65, rf_267, rf45, rf50, rf58, rf63, rf267, ob_45, ob_49, ob_50, ob_58, ob_63, ob_267, ln_46, ln_46n, ln_46m, ln_47, ln_47n, ln_48, ln_48n, ln_51, ln_56, ln_57, ln_59, ln_60, ln_61, ln_62, ln_64, ln_64n, ln_65, ln_268, ln_269, ln_270, ln_270n, ln_271, ln_271n, ln_272, ln_272n, ln_272m, ln_273, ln_274, ln_275, ln_276, ln_277, ln_278, ln_278n, ln_279, ln_280, ln_281, ln_282, ln_283, ln_283n, ln_284, ln_285, ln_286, ln_286n, ln_287, ln_287n, ln_288, ln_289, ln_289n, gF_sF, gF_sG, gF_sI, gF_sJ, gF_sP, gF_sR, gF_sL, gG_sF, gG_sG, gG_sI, gG_sJ, gG_sP, gG_sR, gG_sL, gI_sF, gI_sG, gI_sI, gI_sJ, gI_sP, gI_sR, gI_sL, gJ_sF, gJ_sG, gJ_sI, gJ_sJ, gJ_sP, gJ_sR, gJ_sL, gP_sF, gP_sG, gP_sI, gP_sJ, gP_sP, gP_sR, gP_sL, inB_n, inC_n, iX_n, nI_add, pk_mul, pk_sub, n_and, n_or, n_xor, n_one, n_ush, n_shr, n_div, n_rem, n_ltm, m_ltn, m_ltm, n_eqm, m_eqn, m_eqm, n_lt, n_eq, n_eq0, n_addm, n_i2l, m_i2l, n_l2i, lN_add, lN_mul, lN_sub, l_div, l_rem, l_eq0, lc_lt, lc_gt, lc_eq, l_lt, l_eq, l_ltm, ml_ltn, ml_ltm, l_eqm, ml_eqn, ml_eqm, ls_1, ls_2, ls_3, ls_4, ls_5, ls_6, ls_7, ls_8, ls_10, ls_11, ls_12, ls_13, ls_14, ls_15, ls_16, ls_17, ob_0, ob_9, rf_0, rf_9, hlt, hop, t_bitCount, z]
      · obtain ⟨e1, e2, e3⟩ := dr_sp g (x := P.2) z
        have hw : wst A.2.2.1 T P = (P.1 ^^^ flS A.2.2.1 (drC A.2.2.1 T P.1 P.2), rnX P.2) := by unfold wst; rw [if_neg z]
        rw [hw] at ih
        dsimp only at ih
        have hb1 : 1103515245 * P.2 + 12345 < 2 ^ 63 := by omega
        have hr : rnX P.2 < 2147483648 := rnX_lt _
        have hxr : (1103515245 * P.2 + 12345) % 2147483648 = rnX P.2 := rfl
        have hq1 : rnX P.2 / 65536 < 2 ^ 63 := by omega
        have hq2 : rnX P.2 / 65536 % pop (opS A.2.2.1 P.1 T) < 2 ^ 31 := by have := Nat.mod_lt (rnX P.2 / 65536) (show 0 < pop (opS A.2.2.1 P.1 T) by omega); omega
        have pp0 : 0 < pop (opS A.2.2.1 P.1 T) := by omega
        have tb := t_bitAt (left := rnX P.2 / 65536 % pop (opS A.2.2.1 P.1 T)) W ho hq2
        rw [e1] at tb
        have tb : zE 163 [.int (nI (opS A.2.2.1 P.1 T)), .int (nI (rnX P.2 / 65536 % pop (opS A.2.2.1 P.1 T)))] W = some (some (.int (nI (drC A.2.2.1 T P.1 P.2))), W) := tb
        have ci := ch_inv g p1 p2 e2 e3
        have hfl : zE 63 [.ref 0, .int (nI (drC A.2.2.1 T P.1 P.2))] W = some (some (.int (nI (flS A.2.2.1 (drC A.2.2.1 T P.1 P.2)))), W) := by
          refine t_flip sW.1 g ?_
          by_cases z : drC A.2.2.1 T P.1 P.2 < 14
          · exact Or.inl z
          · right
            have e3 := e3
            rw [opS_tb g e2, if_neg z, Bool.and_eq_true] at e3
            exact ⟨by omega, of_decide_eq_true e3.1⟩
        obtain ⟨W2, f1, f2, f3⟩ := t_put g h.ab sW qbk (by decide) ci.1 (show 0 < 2 ^ 30 by decide)
        rw [barF_0] at f2
        obtain ⟨w', g1, g2⟩ := ih W2 (.int (nI (opS A.2.2.1 P.1 T))) (.int (nI (pop (opS A.2.2.1 P.1 T)))) (by omega) f2 (fW.tr f3)
        refine ⟨w', ?_, g2⟩
        rw [zR_W [42]]
        simp (disch := omega) only [tt_162, T_162, mx_162, Nat.reduceLT, Nat.reduceLeDiff, Nat.reduceEqDiff, Nat.reduceAdd, Nat.reduceMul, Nat.reduceSub, Nat.reducePow, Nat.reduceMod, Nat.reduceDiv, Nat.reduceBEq, ↓reduceIte, reduceCtorEq, and_true, true_and, and_false, false_and, and_self, zW_eq, zin, zop, zst, fw_ite, fw_K, fw_R, fw_F, fw_C, zBW_s, nth, stL, okL, nlg, ct, ctv, cI, cL, pu, tkC, iniL, pad, eL, Value.category, swK, bz_0, bz_n0, bz_n1, bI_bz, bI_0, bI_t, bI_f, List.headD_cons, decide_true, decide_false, Bool.true_and, Bool.and_true, Bool.false_and, Bool.and_false, Bool.and_self, Bool.not_true, Bool.not_false, Bool.or_false, Bool.false_or, Bool.true_or, Bool.or_true, Bool.or_self, Bool.false_eq_true, rf_45, rf_47, rf_49, rf_50, rf_51, rf_58, rf_63, rf_65, rf_267, rf45, rf50, rf58, rf63, rf267, ob_45, ob_49, ob_50, ob_58, ob_63, ob_267, ln_46, ln_46n, ln_46m, ln_47, ln_47n, ln_48, ln_48n, ln_51, ln_56, ln_57, ln_59, ln_60, ln_61, ln_62, ln_64, ln_64n, ln_65, ln_268, ln_269, ln_270, ln_270n, ln_271, ln_271n, ln_272, ln_272n, ln_272m, ln_273, ln_274, ln_275, ln_276, ln_277, ln_278, ln_278n, ln_279, ln_280, ln_281, ln_282, ln_283, ln_283n, ln_284, ln_285, ln_286, ln_286n, ln_287, ln_287n, ln_288, ln_289, ln_289n, gF_sF, gF_sG, gF_sI, gF_sJ, gF_sP, gF_sR, gF_sL, gG_sF, gG_sG, gG_sI, gG_sJ, gG_sP, gG_sR, gG_sL, gI_sF, gI_sG, gI_sI, gI_sJ, gI_sP, gI_sR, gI_sL, gJ_sF, gJ_sG, gJ_sI, gJ_sJ, gJ_sP, gJ_sR, gJ_sL, gP_sF, gP_sG, gP_sI, gP_sJ, gP_sP, gP_sR, gP_sL, inB_n, inC_n, iX_n, nI_add, pk_mul, pk_sub, n_and, n_or, n_xor, n_one, n_ush, n_shr, n_div, n_rem, n_ltm, m_ltn, m_ltm, n_eqm, m_eqn, m_eqm, n_lt, n_eq, n_eq0, n_addm, n_i2l, m_i2l, n_l2i, lN_add, lN_mul, lN_sub, l_div, l_rem, l_eq0, lc_lt, lc_gt, lc_eq, l_lt, l_eq, l_ltm, ml_ltn, ml_ltm, l_eqm, ml_eqn, ml_eqm, ls_1, ls_2, ls_3, ls_4, ls_5, ls_6, ls_7, ls_8, ls_10, ls_11, ls_12, ls_13, ls_14, ls_15, ls_16, ls_17, ob_0, ob_9, rf_0, rf_9, hlt, hop, t_bitCount, z, hxr, tb, hfl, f1, g1]
  obtain ⟨w', d1, d2⟩ := lp n 0 w2 jk jk (Nat.zero_add _) c2 (b3.tr c3)
  have d1 : zR 162 42 [.ref 45, .int (nI seed), .int (nI n), .int (nI T), .int (nI (A.2.2.1.1 5)), .long (lN seed), jk, .int (nI 0), jk, jk] [] w2 = _ := d1
  refine ⟨w', ?_, d2⟩
  rw [zE_W [42]]
  simp (disch := omega) only [tt_162, T_162, mx_162, Nat.reduceLT, Nat.reduceLeDiff, Nat.reduceEqDiff, Nat.reduceAdd, Nat.reduceMul, Nat.reduceSub, Nat.reducePow, Nat.reduceMod, Nat.reduceDiv, Nat.reduceBEq, ↓reduceIte, reduceCtorEq, and_true, true_and, and_false, false_and, and_self, zW_eq, zin, zop, zst, fw_ite, fw_K, fw_R, fw_F, fw_C, zBW_s, nth, stL, okL, nlg, ct, ctv, cI, cL, pu, tkC, iniL, pad, eL, Value.category, swK, bz_0, bz_n0, bz_n1, bI_bz, bI_0, bI_t, bI_f, List.headD_cons, decide_true, decide_false, Bool.true_and, Bool.and_true, Bool.false_and, Bool.and_false, Bool.and_self, Bool.not_true, Bool.not_false, Bool.or_false, Bool.false_or, Bool.true_or, Bool.or_true, Bool.or_self, Bool.false_eq_true, rf_45, rf_47, rf_49, rf_50, rf_51, rf_58, rf_63, rf_65, rf_267, rf45, rf50, rf58, rf63, rf267, ob_45, ob_49, ob_50, ob_58, ob_63, ob_267, ln_46, ln_46n, ln_46m, ln_47, ln_47n, ln_48, ln_48n, ln_51, ln_56, ln_57, ln_59, ln_60, ln_61, ln_62, ln_64, ln_64n, ln_65, ln_268, ln_269, ln_270, ln_270n, ln_271, ln_271n, ln_272, ln_272n, ln_272m, ln_273, ln_274, ln_275, ln_276, ln_277, ln_278, ln_278n, ln_279, ln_280, ln_281, ln_282, ln_283, ln_283n, ln_284, ln_285, ln_286, ln_286n, ln_287, ln_287n, ln_288, ln_289, ln_289n, gF_sF, gF_sG, gF_sI, gF_sJ, gF_sP, gF_sR, gF_sL, gG_sF, gG_sG, gG_sI, gG_sJ, gG_sP, gG_sR, gG_sL, gI_sF, gI_sG, gI_sI, gI_sJ, gI_sP, gI_sR, gI_sL, gJ_sF, gJ_sG, gJ_sI, gJ_sJ, gJ_sP, gJ_sR, gJ_sL, gP_sF, gP_sG, gP_sI, gP_sJ, gP_sP, gP_sR, gP_sL, inB_n, inC_n, iX_n, nI_add, pk_mul, pk_sub, n_and, n_or, n_xor, n_one, n_ush, n_shr, n_div, n_rem, n_ltm, m_ltn, m_ltm, n_eqm, m_eqn, m_eqm, n_lt, n_eq, n_eq0, n_addm, n_i2l, m_i2l, n_l2i, lN_add, lN_mul, lN_sub, l_div, l_rem, l_eq0, lc_lt, lc_gt, lc_eq, l_lt, l_eq, l_ltm, ml_ltn, ml_ltm, l_eqm, ml_eqn, ml_eqm, ls_1, ls_2, ls_3, ls_4, ls_5, ls_6, ls_7, ls_8, ls_10, ls_11, ls_12, ls_13, ls_14, ls_15, ls_16, ls_17, ob_0, ob_9, rf_0, rf_9, tt, h5, b1, c1, d1]
