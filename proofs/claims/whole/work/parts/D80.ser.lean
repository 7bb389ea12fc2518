/-! ===== series: floods that go on ===== -/
def srcB (Q : Qu) (bits p d : Nat) : Prop := (p, d) ∈ Q ∧ p &&& bits = bits
/-- the nearest with these bits -/
noncomputable def nwS (Q : Qu) (bits : Nat) : Option Nat := lst (fun d => ∃ p, (p, d) ∈ Q ∧ p &&& bits = bits)
theorem nwS_first {Q : Qu} {bits i : Nat} (so : ∀ i j, i ≤ j → j < Q.length → (qa Q i).2 ≤ (qa Q j).2) (hi : i < Q.length) (hj : ∀ j, j < i → ¬ (qa Q j).1 &&& bits = bits) (h : (qa Q i).1 &&& bits = bits) : nwS Q bits = some (qa Q i).2 := by
  unfold nwS
  rw [lst_some]
  refine ⟨⟨(qa Q i).1, qa_mem hi, h⟩, ?_⟩
  rintro d hd ⟨p, h1, h2⟩
  obtain ⟨j, j1, j2⟩ := mem_qa h1
  by_cases z : j < i
  · exact hj j z (by rw [j2]; exact h2)
  · have := so i j (by omega) j1
    rw [j2] at this
    have : (qa Q i).2 ≤ d := this
    omega
theorem nwS_none {Q : Qu} {bits : Nat} (hj : ∀ j, j < Q.length → ¬ (qa Q j).1 &&& bits = bits) : nwS Q bits = none := by
  unfold nwS
  rw [lst_none]
  rintro d ⟨p, h1, h2⟩
  obtain ⟨j, j1, j2⟩ := mem_qa h1
  exact hj j j1 (by rw [j2]; exact h2)
theorem nwS_same {Q Q' : Qu} {bits : Nat} (h : ∀ x, x ∈ Q ↔ x ∈ Q') : nwS Q bits = nwS Q' bits := lst_congr (fun d => ⟨fun ⟨p, h1, h2⟩ => ⟨p, (h _).mp h1, h2⟩, fun ⟨p, h1, h2⟩ => ⟨p, (h _).mpr h1, h2⟩⟩)
theorem t_nearestWith {sc : Sg} (g : Gd sc) {lim bar a b B : Nat} {Q : Qu} {h : Nat} {w : Wd} (ab : AB a b) (s : SrC sc lim bar a b Q h w) (qb : QB sc lim B Q) (hB : B ≤ 262144) (so : ∀ i j, i ≤ j → j < Q.length → (qa Q i).2 ≤ (qa Q j).2) {bits : Nat} (hb : bits < 2 ^ 31) : zE 89 [.ref 58, .int (nI bits)] w = some (some (.int (dI (nwS Q bits))), w) := by
  obtain ⟨s0, s3, s4, s1, s2, s5, s6, sd, sq⟩ := s
  have la := ab.la
  have lb := ab.lb
  have hl := qb.len14 g
  have h16 := p14 g
  have lp : ∀ d i, i + d = Q.length → (∀ j, j < i → ¬ (qa Q j).1 &&& bits = bits) → zR 89 2 [.ref 58, .int (nI bits), .int (nI i)] [] w = some (some (.int (dI (nwS Q bits))), w) := by
    intro d
    induction d with
    | zero =>
      intro i hi hj
      have hi : i = Q.length := by omega
      subst hi
      rw [nwS_none hj, zR_W [2]]
      unfold dI
      simp (disch := omega) only [tt_89, T_89, mx_89, Nat.reduceLT, Nat.reduceLeDiff, Nat.reduceEqDiff, Nat.reduceAdd, Nat.reduceMul, Nat.reduceSub, Nat.reducePow, Nat.reduceMod, Nat.reduceDiv, Nat.reduceBEq, ↓reduceIte, reduceCtorEq, and_true, true_and, and_false, false_and, and_self, zW_eq, zin, zop, zst, fw_ite, fw_K, fw_R, fw_F, fw_C, zBW_s, nth, stL, okL, nlg, ct, ctv, cI, cL, pu, tkC, iniL, pad, eL, Value.category, swK, bz_0, bz_n0, bz_n1, bI_bz, bI_0, bI_t, bI_f, List.headD_cons, decide_true, decide_false, Bool.true_and, Bool.and_true, Bool.false_and, Bool.and_false, Bool.and_self, Bool.not_true, Bool.not_false, Bool.or_false, Bool.false_or, Bool.true_or, Bool.or_true, Bool.or_self, Bool.false_eq_true, rf_45, rf_47, rf_49, rf_50, rf_51, rf_58, rf_63, rf_65, rf_267, rf45, rf50, rf58, rf63, rf267, ob_45, ob_49, ob_50, ob_58, ob_63, ob_267, ln_46, ln_46n, ln_46m, ln_47, ln_47n, ln_48, ln_48n, ln_51, ln_56, ln_57, ln_59, ln_60, ln_61, ln_62, ln_64, ln_64n, ln_65, ln_268, ln_269, ln_270, ln_270n, ln_271, ln_271n, ln_272, ln_272n, ln_272m, ln_273, ln_274, ln_275, ln_276, ln_277, ln_278, ln_278n, ln_279, ln_280, ln_281, ln_282, ln_283, ln_283n, ln_284, ln_285, ln_286, ln_286n, ln_287, ln_287n, ln_288, ln_289, ln_289n, gF_sF, gF_sG, gF_sI, gF_sJ, gF_sP, gF_sR, gF_sL, gG_sF, gG_sG, gG_sI, gG_sJ, gG_sP, gG_sR, gG_sL, gI_sF, gI_sG, gI_sI, gI_sJ, gI_sP, gI_sR, gI_sL, gJ_sF, gJ_sG, gJ_sI, gJ_sJ, gJ_sP, gJ_sR, gJ_sL, gP_sF, gP_sG, gP_sI, gP_sJ, gP_sP, gP_sR, gP_sL, inB_n, inC_n, iX_n, nI_add, pk_mul, pk_sub, n_and, n_or, n_xor, n_one, n_ush, n_shr, n_div, n_rem, n_ltm, m_ltn, m_ltm, n_eqm, m_eqn, m_eqm, n_lt, n_eq, n_eq0, n_addm, n_i2l, m_i2l, n_l2i, lN_add, lN_mul, lN_sub, l_div, l_rem, l_eq0, lc_lt, lc_gt, lc_eq, l_lt, l_eq, l_ltm, ml_ltn, ml_ltm, l_eqm, ml_eqn, ml_eqm, ls_1, ls_2, ls_3, ls_4, ls_5, ls_6, ls_7, ls_8, ls_10, ls_11, ls_12, ls_13, ls_14, ls_15, ls_16, ls_17, ob_0, ob_9, rf_0, rf_9, s6, Nat.lt_irrefl]
    | succ d ih =>
      intro i hi hj
      have hlt : i < Q.length := by omega
      have i16 : i < 16384 := by omega
      have rq := sq i hlt
      have hd := qb.hd hlt
      have hand : (qa Q i).1 &&& bits ≤ bits := Nat.and_le_right
      by_cases z : (qa Q i).1 &&& bits = bits
      · have rd := sd _ hd.1
        rw [qd_qa qb.1 hlt] at rd
        have rd : gI w a (qa Q i).1 = nI (qa Q i).2 := rd
        have p16 : (qa Q i).1 < 16384 := by omega
        rw [nwS_first so hlt hj z, zR_W [2]]
        unfold dI
        simp (disch := omega) only [tt_89, T_89, mx_89, Nat.reduceLT, Nat.reduceLeDiff, Nat.reduceEqDiff, Nat.reduceAdd, Nat.reduceMul, Nat.reduceSub, Nat.reducePow, Nat.reduceMod, Nat.reduceDiv, Nat.reduceBEq, ↓reduceIte, reduceCtorEq, and_true, true_and, and_false, false_and, and_self, zW_eq, zin, zop, zst, fw_ite, fw_K, fw_R, fw_F, fw_C, zBW_s, nth, stL, okL, nlg, ct, ctv, cI, cL, pu, tkC, iniL, pad, eL, Value.category, swK, bz_0, bz_n0, bz_n1, bI_bz, bI_0, bI_t, bI_f, List.headD_cons, decide_true, decide_false, Bool.true_and, Bool.and_true, Bool.false_and, Bool.and_false, Bool.and_self, Bool.not_true, Bool.not_false, Bool.or_false, Bool.false_or, Bool.true_or, Bool.or_true, Bool.or_self, Bool.false_eq_true, rf_45, rf_47, rf_49, rf_50, rf_51, rf_58, rf_63, rf_65, rf_267, rf45, rf50, rf58, rf63, rf267, ob_45, ob_49, ob_50, ob_58, ob_63, ob_267, ln_46, ln_46n, ln_46m, ln_47, ln_47n, ln_48, ln_48n, ln_51, ln_56, ln_57, ln_59, ln_60, ln_61, ln_62, ln_64, ln_64n, ln_65, ln_268, ln_269, ln_270, ln_270n, ln_271, ln_271n, ln_272, ln_272n, ln_272m, ln_273, ln_274, ln_275, ln_276, ln_277, ln_278, ln_278n, ln_279, ln_280, ln_281, ln_282, ln_283, ln_283n, ln_284, ln_285, ln_286, ln_286n, ln_287, ln_287n, ln_288, ln_289, ln_289n, gF_sF, gF_sG, gF_sI, gF_sJ, gF_sP, gF_sR, gF_sL, gG_sF, gG_sG, gG_sI, gG_sJ, gG_sP, gG_sR, gG_sL, gI_sF, gI_sG, gI_sI, gI_sJ, gI_sP, gI_sR, gI_sL, gJ_sF, gJ_sG, gJ_sI, gJ_sJ, gJ_sP, gJ_sR, gJ_sL, gP_sF, gP_sG, gP_sI, gP_sJ, gP_sP, gP_sR, gP_sL, inB_n, inC_n, iX_n, nI_add, pk_mul, pk_sub, n_and, n_or, n_xor, n_one, n_ush, n_shr, n_div, n_rem, n_ltm, m_ltn, m_ltm, n_eqm, m_eqn, m_eqm, n_lt, n_eq, n_eq0, n_addm, n_i2l, m_i2l, n_l2i, lN_add, lN_mul, lN_sub, l_div, l_rem, l_eq0, lc_lt, lc_gt, lc_eq, l_lt, l_eq, l_ltm, ml_ltn, ml_ltm, l_eqm, ml_eqn, ml_eqm, ls_1, ls_2, ls_3, ls_4, ls_5, ls_6, ls_7, ls_8, ls_10, ls_11, ls_12, ls_13, ls_14, ls_15, ls_16, ls_17, ob_0, ob_9, rf_0, rf_9, s6, hlt, s3, s4, la, lb, i16, rq, z, p16, rd]
      · have hih := ih (i + 1) (by omega) (fun j hj2 => by
          by_cases e : j = i
          · rw [e]; exact z
          · exact hj j (by omega))
        rw [zR_W [2]]
        simp (disch := omega) only [tt_89, T_89, mx_89, Nat.reduceLT, Nat.reduceLeDiff, Nat.reduceEqDiff, Nat.reduceAdd, Nat.reduceMul, Nat.reduceSub, Nat.reducePow, Nat.reduceMod, Nat.reduceDiv, Nat.reduceBEq, ↓reduceIte, reduceCtorEq, and_true, true_and, and_false, false_and, and_self, zW_eq, zin, zop, zst, fw_ite, fw_K, fw_R, fw_F, fw_C, zBW_s, nth, stL, okL, nlg, ct, ctv, cI, cL, pu, tkC, iniL, pad, eL, Value.category, swK, bz_0, bz_n0, bz_n1, bI_bz, bI_0, bI_t, bI_f, List.headD_cons, decide_true, decide_false, Bool.true_and, Bool.and_true, Bool.false_and, Bool.and_false, Bool.and_self, Bool.not_true, Bool.not_false, Bool.or_false, Bool.false_or, Bool.true_or, Bool.or_true, Bool.or_self, Bool.false_eq_true, rf_45, rf_47, rf_49, rf_50, rf_51, rf_58, rf_63, rf_65, rf_267, rf45, rf50, rf58, rf63, rf267, ob_45, ob_49, ob_50, ob_58, ob_63, ob_267, ln_46, ln_46n, ln_46m, ln_47, ln_47n, ln_48, ln_48n, ln_51, ln_56, ln_57, ln_59, ln_60, ln_61, ln_62, ln_64, ln_64n, ln_65, ln_268, ln_269, ln_270, ln_270n, ln_271, ln_271n, ln_272, ln_272n, ln_272m, ln_273, ln_274, ln_275, ln_276, ln_277, ln_278, ln_278n, ln_279, ln_280, ln_281, ln_282, ln_283, ln_283n, ln_284, ln_285, ln_286, ln_286n, ln_287, ln_287n, ln_288, ln_289, ln_289n, gF_sF, gF_sG, gF_sI, gF_sJ, gF_sP, gF_sR, gF_sL, gG_sF, gG_sG, gG_sI, gG_sJ, gG_sP, gG_sR, gG_sL, gI_sF, gI_sG, gI_sI, gI_sJ, gI_sP, gI_sR, gI_sL, gJ_sF, gJ_sG, gJ_sI, gJ_sJ, gJ_sP, gJ_sR, gJ_sL, gP_sF, gP_sG, gP_sI, gP_sJ, gP_sP, gP_sR, gP_sL, inB_n, inC_n, iX_n, nI_add, pk_mul, pk_sub, n_and, n_or, n_xor, n_one, n_ush, n_shr, n_div, n_rem, n_ltm, m_ltn, m_ltm, n_eqm, m_eqn, m_eqm, n_lt, n_eq, n_eq0, n_addm, n_i2l, m_i2l, n_l2i, lN_add, lN_mul, lN_sub, l_div, l_rem, l_eq0, lc_lt, lc_gt, lc_eq, l_lt, l_eq, l_ltm, ml_ltn, ml_ltm, l_eqm, ml_eqn, ml_eqm, ls_1, ls_2, ls_3, ls_4, ls_5, ls_6, ls_7, ls_8, ls_10, ls_11, ls_12, ls_13, ls_14, ls_15, ls_16, ls_17, ob_0, ob_9, rf_0, rf_9, s6, hlt, s4, lb, i16, rq, z, hih]
  have l0 := lp Q.length 0 (Nat.zero_add _) (fun j hj => by omega)
  rw [zE_W [2]]
  simp (disch := omega) only [tt_89, T_89, mx_89, Nat.reduceLT, Nat.reduceLeDiff, Nat.reduceEqDiff, Nat.reduceAdd, Nat.reduceMul, Nat.reduceSub, Nat.reducePow, Nat.reduceMod, Nat.reduceDiv, Nat.reduceBEq, ↓reduceIte, reduceCtorEq, and_true, true_and, and_false, false_and, and_self, zW_eq, zin, zop, zst, fw_ite, fw_K, fw_R, fw_F, fw_C, zBW_s, nth, stL, okL, nlg, ct, ctv, cI, cL, pu, tkC, iniL, pad, eL, Value.category, swK, bz_0, bz_n0, bz_n1, bI_bz, bI_0, bI_t, bI_f, List.headD_cons, decide_true, decide_false, Bool.true_and, Bool.and_true, Bool.false_and, Bool.and_false, Bool.and_self, Bool.not_true, Bool.not_false, Bool.or_false, Bool.false_or, Bool.true_or, Bool.or_true, Bool.or_self, Bool.false_eq_true, rf_45, rf_47, rf_49, rf_50, rf_51, rf_58, rf_63, rf_65, rf_267, rf45, rf50, rf58, rf63, rf267, ob_45, ob_49, ob_50, ob_58, ob_63, ob_267, ln_46, ln_46n, ln_46m, ln_47, ln_47n, ln_48, ln_48n, ln_51, ln_56, ln_57, ln_59, ln_60, ln_61, ln_62, ln_64, ln_64n, ln_65, ln_268, ln_269, ln_270, ln_270n, ln_271, ln_271n, ln_272, ln_272n, ln_272m, ln_273, ln_274, ln_275, ln_276, ln_277, ln_278, ln_278n, ln_279, ln_280, ln_281, ln_282, ln_283, ln_283n, ln_284, ln_285, ln_286, ln_286n, ln_287, ln_287n, ln_288, ln_289, ln_289n, gF_sF, gF_sG, gF_sI, gF_sJ, gF_sP, gF_sR, gF_sL, gG_sF, gG_sG, gG_sI, gG_sJ, gG_sP, gG_sR, gG_sL, gI_sF, gI_sG, gI_sI, gI_sJ, gI_sP, gI_sR, gI_sL, gJ_sF, gJ_sG, gJ_sI, gJ_sJ, gJ_sP, gJ_sR, gJ_sL, gP_sF, gP_sG, gP_sI, gP_sJ, gP_sP, gP_sR, gP_sL, inB_n, inC_n, iX_n, nI_add, pk_mul, pk_sub, n_and, n_or, n_xor, n_one, n_ush, n_shr, n_div, n_rem, n_ltm, m_ltn, m_ltm, n_eqm, m_eqn, m_eqm, n_lt, n_eq, n_eq0, n_addm, n_i2l, m_i2l, n_l2i, lN_add, lN_mul, lN_sub, l_div, l_rem, l_eq0, lc_lt, lc_gt, lc_eq, l_lt, l_eq, l_ltm, ml_ltn, ml_ltm, l_eqm, ml_eqn, ml_eqm, ls_1, ls_2, ls_3, ls_4, ls_5, ls_6, ls_7, ls_8, ls_10, ls_11, ls_12, ls_13, ls_14, ls_15, ls_16, ls_17, ob_0, ob_9, rf_0, rf_9, l0]
/-- the queue while sources come in, j of them looked at -/
def Jv (E : Nat → Nat → Prop) (Q : Qu) (bits : Nat) (R : Qu) (h j : Nat) : Prop := Iv E (srcB Q bits) R h ∧ (∀ i, i < j → (qa Q i).1 &&& bits = bits → ∃ e, qd R (qa Q i).1 = some e ∧ e ≤ (qa Q i).2) ∧ (∀ i, j ≤ i → i < Q.length → ∀ x, x ∈ R → x.2 ≤ (qa Q i).2)
theorem jv_nil (E : Nat → Nat → Prop) (Q : Qu) (bits : Nat) : Jv E Q bits [] 0 0 := ⟨iv_nil _ _, (fun i hi => absurd hi (Nat.not_lt_zero _)), fun i _ _ x hx => by cases hx⟩
theorem jv_skip {E : Nat → Nat → Prop} {Q : Qu} {bits : Nat} {R : Qu} {h j : Nat} (J : Jv E Q bits R h j) (hn : ¬ (qa Q j).1 &&& bits = bits) : Jv E Q bits R h (j + 1) := by
  obtain ⟨h1, h2, h3⟩ := J
  refine ⟨h1, fun i hi hb => ?_, fun i hi => h3 i (by omega)⟩
  by_cases e : i = j
  · subst e; exact absurd hb hn
  · exact h2 i (by omega) hb
theorem jv_put {E : Nat → Nat → Prop} {Q : Qu} {bits : Nat} {R : Qu} {h j : Nat} {bar : Nat → Bool} (so : ∀ i j, i ≤ j → j < Q.length → (qa Q i).2 ≤ (qa Q j).2) (J : Jv E Q bits R h j) (hj : j < Q.length) (hb : (qa Q j).1 &&& bits = bits) (hbar : bar (qa Q j).1 = false) (hd : h = R.length ∨ (qa Q j).2 ≤ (qa R h).2 + 1) : Jv E Q bits (qput bar (qa Q j).2 R (qa Q j).1) h (j + 1) := by
  obtain ⟨h1, h2, h3⟩ := J
  have hm := h3 j (Nat.le_refl _) hj
  refine ⟨iv_src h1 (fun _ => ⟨qa_mem hj, hb⟩) hm hd, fun i hi hbi => ?_, fun i hi hil x hx => ?_⟩
  · by_cases e : i = j
    · subst e
      rcases qput_c bar (qa Q i).2 R (qa Q i).1 with ⟨e, h0, -⟩ | ⟨e, hn⟩
      · exact ⟨(qa Q i).2, by rw [e, qd_app, if_pos h0, if_pos rfl], Nat.le_refl _⟩
      · cases hq : qd R (qa Q i).1 with
        | none => exact absurd ⟨hq, hbar⟩ hn
        | some y => exact ⟨y, by rw [e, hq], hm _ (qd_mem hq)⟩
    · obtain ⟨y, y1, y2⟩ := h2 i (by omega) hbi
      exact ⟨y, qput_qd y1, y2⟩
  · have hs := so j i (by omega) hil
    rcases qput_mem hx with hx | ⟨rfl, -⟩
    · exact Nat.le_trans (hm x hx) hs
    · exact hs
theorem jv_exp {E : Nat → Nat → Prop} {Q : Qu} {bits : Nat} {R : Qu} {h j : Nat} {bar : Nat → Bool} {l : List Nat} (so : ∀ i j, i ≤ j → j < Q.length → (qa Q i).2 ≤ (qa Q j).2) (J : Jv E Q bits R h j) (hh : h < R.length) (hl : ∀ q, E (qa R h).1 q ↔ (q ∈ l ∧ bar q = false)) (hn : j < Q.length → (qa R h).2 < (qa Q j).2) : Jv E Q bits (l.foldl (qput bar ((qa R h).2 + 1)) R) (h + 1) j := by
  obtain ⟨h1, h2, h3⟩ := J
  refine ⟨iv_exp h1 hh hl, fun i hi hb => ?_, fun i hi hil x hx => ?_⟩
  · obtain ⟨y, y1, y2⟩ := h2 i hi hb
    exact ⟨y, fold_qd _ _ _ _ _ _ y1, y2⟩
  · have hs := so j i hi hil
    have hn := hn (by omega)
    have key : ∀ (l : List Nat) (R : Qu), x ∈ l.foldl (qput bar ((qa Q j).2)) R → x ∈ R ∨ x.2 = (qa Q j).2 := by
      intro l
      induction l with
      | nil => intro R h; exact Or.inl h
      | cons q l ih =>
        intro R h
        rcases ih _ h with h | h
        · rcases qput_mem h with h | ⟨h, -⟩
          · exact Or.inl h
          · exact Or.inr (by rw [h])
        · exact Or.inr h
    have key2 : ∀ (d : Nat) (l : List Nat) (R : Qu), x ∈ l.foldl (qput bar d) R → x ∈ R ∨ x.2 = d := by
      intro d l
      induction l with
      | nil => intro R h; exact Or.inl h
      | cons q l ih =>
        intro R h
        rcases ih _ h with h | h
        · rcases qput_mem h with h | ⟨h, -⟩
          · exact Or.inl h
          · exact Or.inr (by rw [h])
        · exact Or.inr h
    rcases key2 _ l R hx with hx | hx
    · exact h3 i hi hil x hx
    · omega
theorem jv_end {E : Nat → Nat → Prop} {Q : Qu} {bits : Nat} {R : Qu} {h : Nat} (J : Jv E Q bits R h Q.length) : Sd (srcB Q bits) R := by
  rintro p d ⟨h1, h2⟩
  obtain ⟨i, i1, i2⟩ := mem_qa h1
  obtain ⟨y, y1, y2⟩ := J.2.1 i i1 (by rw [i2]; exact h2)
  rw [i2] at y1 y2
  exact ⟨y, y1, y2⟩
/-- the spare rows -/
def SpC (sc : Sg) (a b : Nat) (Q : Qu) (w : Wd) : Prop := gP w 7 = a ∧ gP w 8 = b ∧ (∀ p, p < 2 ^ sc.1 4 → gI w a p = dI (qd Q p)) ∧ (∀ i, i < Q.length → gI w b i = nI (qa Q i).1)
theorem SpC.fr {sc : Sg} {a b a' b' : Nat} {Q : Qu} {w w' : Wd} (h : SpC sc a b Q w) (f : SfC a' b' w w') (ab : AB a b) (ab' : AB a' b') (na : a ≠ a') (nb : b ≠ b') : SpC sc a b Q w' := by
  obtain ⟨h1, h2, h3, h4⟩ := h
  have x1 : ¬ (a = 58 ∨ a = a' ∨ a = b') := by obtain ⟨q1, q2⟩ := ab; obtain ⟨q3, q4⟩ := ab'; omega
  have x2 : ¬ (b = 58 ∨ b = a' ∨ b = b') := by obtain ⟨q1, q2⟩ := ab; obtain ⟨q3, q4⟩ := ab'; omega
  exact ⟨(f.2 7).trans h1, (f.2 8).trans h2, fun p hp => by rw [(f.1.1 a x1).2.2.1]; exact h3 p hp, fun i hi => by rw [(f.1.1 b x2).2.2.1]; exact h4 i hi⟩
theorem t_isDue {sc : Sg} (g : Gd sc) {lim a b a' b' B B' : Nat} {Q R : Qu} {h j : Nat} {w : Wd} (ab : AB a b) (ab' : AB a' b') (s : SrC sc lim 0 a' b' R h w) (qr : QB sc lim B' R) (sp : SpC sc a b Q w) (qb : QB sc lim B Q) (hB : B ≤ 262144) (hB' : B' ≤ 262144) (hh : h ≤ R.length) (hj : j < Q.length) : zE 91 [.ref 58, .int (nI (qa Q j).1)] w = some (some (.int (bI (decide (h = R.length ∨ (qa Q j).2 ≤ (qa R h).2 + 1)))), w) := by
  obtain ⟨s0, s3, s4, s1, s2, s5, s6, sd, sq⟩ := s
  obtain ⟨t7, t8, td, tq⟩ := sp
  have h16 := p14 g
  have hl := qr.len14 g
  have hl2 := qb.len14 g
  have la := ab.la
  have la' := ab'.la
  have lb' := ab'.lb
  rw [zE_W []]
  by_cases e : h = R.length
  · have ed : decide (h = R.length ∨ (qa Q j).2 ≤ (qa R h).2 + 1) = true := decide_eq_true (Or.inl e)
    rw [ed]
    rw [e] at s5
    simp (disch := omega) only [tt_91, T_91, mx_91, Nat.reduceLT, Nat.reduceLeDiff, Nat.reduceEqDiff, Nat.reduceAdd, Nat.reduceMul, Nat.reduceSub, Nat.reducePow, Nat.reduceMod, Nat.reduceDiv, Nat.reduceBEq, ↓reduceIte, reduceCtorEq, and_true, true_and, and_false, false_and, and_self, zW_eq, zin, zop, zst, fw_ite, fw_K, fw_R, fw_F, fw_C, zBW_s, nth, stL, okL, nlg, ct, ctv, cI, cL, pu, tkC, iniL, pad, eL, Value.category, swK, bz_0, bz_n0, bz_n1, bI_bz, bI_0, bI_t, bI_f, List.headD_cons, decide_true, decide_false, Bool.true_and, Bool.and_true, Bool.false_and, Bool.and_false, Bool.and_self, Bool.not_true, Bool.not_false, Bool.or_false, Bool.false_or, Bool.true_or, Bool.or_true, Bool.or_self, Bool.false_eq_true, rf_45, rf_47, rf_49, rf_50, rf_51, rf_58, rf_63, rf_65, rf_267, rf45, rf50, rf58, rf63, rf267, ob_45, ob_49, ob_50, ob_58, ob_63, ob_267, ln_46, ln_46n, ln_46m, ln_47, ln_47n, ln_48, ln_48n, ln_51, ln_56, ln_57, ln_59, ln_60, ln_61, ln_62, ln_64, ln_64n, ln_65, ln_268, ln_269, ln_270, ln_270n, ln_271, ln_271n, ln_272, ln_272n, ln_272m, ln_273, ln_274, ln_275, ln_276, ln_277, ln_278, ln_278n, ln_279, ln_280, ln_281, ln_282, ln_283, ln_283n, ln_284, ln_285, ln_286, ln_286n, ln_287, ln_287n, ln_288, ln_289, ln_289n, gF_sF, gF_sG, gF_sI, gF_sJ, gF_sP, gF_sR, gF_sL, gG_sF, gG_sG, gG_sI, gG_sJ, gG_sP, gG_sR, gG_sL, gI_sF, gI_sG, gI_sI, gI_sJ, gI_sP, gI_sR, gI_sL, gJ_sF, gJ_sG, gJ_sI, gJ_sJ, gJ_sP, gJ_sR, gJ_sL, gP_sF, gP_sG, gP_sI, gP_sJ, gP_sP, gP_sR, gP_sL, inB_n, inC_n, iX_n, nI_add, pk_mul, pk_sub, n_and, n_or, n_xor, n_one, n_ush, n_shr, n_div, n_rem, n_ltm, m_ltn, m_ltm, n_eqm, m_eqn, m_eqm, n_lt, n_eq, n_eq0, n_addm, n_i2l, m_i2l, n_l2i, lN_add, lN_mul, lN_sub, l_div, l_rem, l_eq0, lc_lt, lc_gt, lc_eq, l_lt, l_eq, l_ltm, ml_ltn, ml_ltm, l_eqm, ml_eqn, ml_eqm, ls_1, ls_2, ls_3, ls_4, ls_5, ls_6, ls_7, ls_8, ls_10, ls_11, ls_12, ls_13, ls_14, ls_15, ls_16, ls_17, ob_0, ob_9, rf_0, rf_9, s5, s6]
  · have hlt : h < R.length := by omega
    obtain ⟨x1, x2, x3⟩ := qr.hd hlt
    obtain ⟨y1, y2, y3⟩ := qb.hd hj
    have rq := sq h hlt
    have rd := sd _ x1
    rw [qd_qa qr.1 hlt] at rd
    have rd : gI w a' (qa R h).1 = nI (qa R h).2 := rd
    have rs := td _ y1
    rw [qd_qa qb.1 hj] at rs
    have rs : gI w a (qa Q j).1 = nI (qa Q j).2 := rs
    have h16' : h < 16384 := by omega
    have p16 : (qa R h).1 < 16384 := by omega
    have q16 : (qa Q j).1 < 16384 := by omega
    by_cases z : (qa R h).2 + 1 < (qa Q j).2
    · have ed : decide (h = R.length ∨ (qa Q j).2 ≤ (qa R h).2 + 1) = false := decide_eq_false (by omega)
      rw [ed]
      simp (disch := omega) only [tt_91, T_91, mx_91, Nat.reduceLT, Nat.reduceLeDiff, Nat.reduceEqDiff, Nat.reduceAdd, Nat.reduceMul, Nat.reduceSub, Nat.reducePow, Nat.reduceMod, Nat.reduceDiv, Nat.reduceBEq, ↓reduceIte, reduceCtorEq, and_true, true_and, and_false, false_and, and_self, zW_eq, zin, zop, zst, fw_ite, fw_K, fw_R, fw_F, fw_C, zBW_s, nth, stL, okL, nlg, ct, ctv, cI, cL, pu, tkC, iniL, pad, eL, Value.category, swK, bz_0, bz_n0, bz_n1, bI_bz, bI_0, bI_t, bI_f, List.headD_cons, decide_true, decide_false, Bool.true_and, Bool.and_true, Bool.false_and, Bool.and_false, Bool.and_self, Bool.not_true, Bool.not_false, Bool.or_false, Bool.false_or, Bool.true_or, Bool.or_true, Bool.or_self, Bool.false_eq_true, rf_45, rf_47, rf_49, rf_50, rf_51, rf_58, rf_63, rf_65, rf_267, rf45, rf50, rf58, rf63, rf267, ob_45, ob_49, ob_50, ob_58, ob_63, ob_267, ln_46, ln_46n, ln_46m, ln_47, ln_47n, ln_48, ln_48n, ln_51, ln_56, ln_57, ln_59, ln_60, ln_61, ln_62, ln_64, ln_64n, ln_65, ln_268, ln_269, ln_270, ln_270n, ln_271, ln_271n, ln_272, ln_272n, ln_272m, ln_273, ln_274, ln_275, ln_276, ln_277, ln_278, ln_278n, ln_279, ln_280, ln_281, ln_282, ln_283, ln_283n, ln_284, ln_285, ln_286, ln_286n, ln_287, ln_287n, ln_288, ln_289, ln_289n, gF_sF, gF_sG, gF_sI, gF_sJ, gF_sP, gF_sR, gF_sL, gG_sF, gG_sG, gG_sI, gG_sJ, gG_sP, gG_sR, gG_sL, gI_sF, gI_sG, gI_sI, gI_sJ, gI_sP, gI_sR, gI_sL, gJ_sF, gJ_sG, gJ_sI, gJ_sJ, gJ_sP, gJ_sR, gJ_sL, gP_sF, gP_sG, gP_sI, gP_sJ, gP_sP, gP_sR, gP_sL, inB_n, inC_n, iX_n, nI_add, pk_mul, pk_sub, n_and, n_or, n_xor, n_one, n_ush, n_shr, n_div, n_rem, n_ltm, m_ltn, m_ltm, n_eqm, m_eqn, m_eqm, n_lt, n_eq, n_eq0, n_addm, n_i2l, m_i2l, n_l2i, lN_add, lN_mul, lN_sub, l_div, l_rem, l_eq0, lc_lt, lc_gt, lc_eq, l_lt, l_eq, l_ltm, ml_ltn, ml_ltm, l_eqm, ml_eqn, ml_eqm, ls_1, ls_2, ls_3, ls_4, ls_5, ls_6, ls_7, ls_8, ls_10, ls_11, ls_12, ls_13, ls_14, ls_15, ls_16, ls_17, ob_0, ob_9, rf_0, rf_9, s5, s6, e, s3, s4, t7, la, la', lb', h16', p16, q16, rq, rd, rs, z]
    · have ed : decide (h = R.length ∨ (qa Q j).2 ≤ (qa R h).2 + 1) = true := decide_eq_true (by omega)
      rw [ed]
      simp (disch := omega) only [tt_91, T_91, mx_91, Nat.reduceLT, Nat.reduceLeDiff, Nat.reduceEqDiff, Nat.reduceAdd, Nat.reduceMul, Nat.reduceSub, Nat.reducePow, Nat.reduceMod, Nat.reduceDiv, Nat.reduceBEq, ↓reduceIte, reduceCtorEq, and_true, true_and, and_false, false_and, and_self, zW_eq, zin, zop, zst, fw_ite, fw_K, fw_R, fw_F, fw_C, zBW_s, nth, stL, okL, nlg, ct, ctv, cI, cL, pu, tkC, iniL, pad, eL, Value.category, swK, bz_0, bz_n0, bz_n1, bI_bz, bI_0, bI_t, bI_f, List.headD_cons, decide_true, decide_false, Bool.true_and, Bool.and_true, Bool.false_and, Bool.and_false, Bool.and_self, Bool.not_true, Bool.not_false, Bool.or_false, Bool.false_or, Bool.true_or, Bool.or_true, Bool.or_self, Bool.false_eq_true, rf_45, rf_47, rf_49, rf_50, rf_51, rf_58, rf_63, rf_65, rf_267, rf45, rf50, rf58, rf63, rf267, ob_45, ob_49, ob_50, ob_58, ob_63, ob_267, ln_46, ln_46n, ln_46m, ln_47, ln_47n, ln_48, ln_48n, ln_51, ln_56, ln_57, ln_59, ln_60, ln_61, ln_62, ln_64, ln_64n, ln_65, ln_268, ln_269, ln_270, ln_270n, ln_271, ln_271n, ln_272, ln_272n, ln_272m, ln_273, ln_274, ln_275, ln_276, ln_277, ln_278, ln_278n, ln_279, ln_280, ln_281, ln_282, ln_283, ln_283n, ln_284, ln_285, ln_286, ln_286n, ln_287, ln_287n, ln_288, ln_289, ln_289n, gF_sF, gF_sG, gF_sI, gF_sJ, gF_sP, gF_sR, gF_sL, gG_sF, gG_sG, gG_sI, gG_sJ, gG_sP, gG_sR, gG_sL, gI_sF, gI_sG, gI_sI, gI_sJ, gI_sP, gI_sR, gI_sL, gJ_sF, gJ_sG, gJ_sI, gJ_sJ, gJ_sP, gJ_sR, gJ_sL, gP_sF, gP_sG, gP_sI, gP_sJ, gP_sP, gP_sR, gP_sL, inB_n, inC_n, iX_n, nI_add, pk_mul, pk_sub, n_and, n_or, n_xor, n_one, n_ush, n_shr, n_div, n_rem, n_ltm, m_ltn, m_ltm, n_eqm, m_eqn, m_eqm, n_lt, n_eq, n_eq0, n_addm, n_i2l, m_i2l, n_l2i, lN_add, lN_mul, lN_sub, l_div, l_rem, l_eq0, lc_lt, lc_gt, lc_eq, l_lt, l_eq, l_ltm, ml_ltn, ml_ltm, l_eqm, ml_eqn, ml_eqm, ls_1, ls_2, ls_3, ls_4, ls_5, ls_6, ls_7, ls_8, ls_10, ls_11, ls_12, ls_13, ls_14, ls_15, ls_16, ls_17, ob_0, ob_9, rf_0, rf_9, s5, s6, e, s3, s4, t7, la, la', lb', h16', p16, q16, rq, rd, rs, z]
