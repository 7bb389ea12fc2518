/-! ===== the reference's line, all ===== -/
def GE (a b : Wd) : Prop := ∀ c i, 273 ≤ c → c ≤ 277 → gI a c i = gI b c i
theorem GE.rf (w : Wd) : GE w w := fun _ _ _ _ => rfl
theorem GE.tr {a b c : Wd} (h : GE a b) (k : GE b c) : GE a c := fun d i h1 h2 => (h d i h1 h2).trans (k d i h1 h2)
theorem GE.sI {a b : Wd} (h : GE a b) (d j : Nat) (x : Int32) : GE (sI a d j x) (sI b d j x) := fun c i h1 h2 => by
  rw [gI_sI, gI_sI]
  split
  · rfl
  · exact h c i h1 h2
theorem SfB.ge {w w' : Wd} (h : SfB w w') : GE w' w := fun c i h1 h2 => h.I (by omega) i
theorem MoQ.ge {q : Nat} {sc : Sg} {w w' : Wd} (h : MoQ q sc w) (f : GE w' w) : MoQ q sc w' := by
  obtain ⟨h1, h2, h3, h4⟩ := h
  exact ⟨(f _ _ (by decide) (by decide)).trans h1, (f _ _ (by decide) (by decide)).trans h2, fun v hv => ⟨(f _ _ (by decide) (by decide)).trans (h3 v hv).1, (f _ _ (by decide) (by decide)).trans (h3 v hv).2.1, (f _ _ (by decide) (by decide)).trans (h3 v hv).2.2⟩, h4.fr (fun _ _ => f _ _ (by decide) (by decide)) (fun _ _ => f _ _ (by decide) (by decide))⟩
theorem pNum_b {T : Nat → Int32} {n lo H v : Nat} {tk tk' : Nat × Nat × Nat} (h : pNum T n lo H tk = .inr (v, tk')) : lo ≤ v ∧ v < H := by
  unfold pNum at h
  split at h
  · split at h
    · rename_i y
      cases h
      exact y
    · cases h
  · cases h
set_option maxRecDepth 8192 in
set_option maxHeartbeats 4000000 in
theorem t_line2 {T : Nat → Int32} {n s : Nat} {sc : Sg} {tk : Nat × Nat × Nat} {w : Wd} (h : RmS T n tk w) (hq : MoQ 4 sc w) (h5 : sc.1 5 = 0) (h14 : sc.1 4 < 14) (hs : s ≤ 5) : ∃ w', zR 192 120 [.ref 267, .int (nI s), jk] [] w = some (none, w') ∧ SfQ w w' ∧ ((∃ f p, pSum T n sc s (tkN T n tk.2.2) = .inl (f, p) ∧ RmF f p w') ∨ ∃ f g tk', pSum T n sc s (tkN T n tk.2.2) = .inr (addS sc s f g, tk') ∧ RmS T n tk' w' ∧ MoQ 4 (addS sc s f g) w' ∧ GdV (addS sc s f g) (sc.1 4)) := by
  obtain ⟨W1, e1, r1, f1⟩ := h.nx
  have q1 := hq.frB f1
  have g1 : gI W1 274 4 = nI (sc.1 4) := q1.2.1
  have r2 := r1.sI 276 (168 + 3 * sc.1 4) (nI s) (by decide)
  obtain ⟨v, W3, a1, a2, a3⟩ := r2.nu (lo := 0) (H := if s = 0 then 1000003 else sc.1 4) (by decide) (by split <;> omega)
  have eA := l_A h14 (by omega) e1 g1 a1
  have g3 : gI W3 274 4 = nI (sc.1 4) := by
    rw [a2.I (by decide), gI_sI, if_neg (by omega)]
    exact g1
  have ge3 : GE W3 (sI W1 276 (168 + 3 * sc.1 4) (nI s)) := a2.ge
  have sf3 : SfQ w W3 := (f1.Q.tr (SfQ.sI _ _ _ _ (by omega))).tr a2.Q
  have k210 : 168 + 3 * sc.1 4 < 210 := by omega
  have sfE : ∀ (W5 : Wd) (x : Int32), SfQ w W5 → SfQ w (sI (sI W5 276 (168 + 3 * sc.1 4 + 2) x) 274 4 (nI (sc.1 4 + 1))) := fun W5 x q => (q.tr (SfQ.sI _ _ _ _ (by omega))).tr (SfQ.sI _ _ _ _ (by omega))
  have sf4 : SfQ w (sI W3 276 (168 + 3 * sc.1 4 + 1) (nI v)) := sf3.tr (SfQ.sI _ _ _ _ (by omega))
  have g4 : gI (sI W3 276 (168 + 3 * sc.1 4 + 1) (nI v)) 274 4 = nI (sc.1 4) := by
    rw [gI_sI, if_neg (by omega)]
    exact g3
  unfold pSum
  rcases a3 with ⟨f, p, b1, b2⟩ | ⟨tk2, b1, b2⟩
  · rw [b1]
    have b3 : RmF f p (sI W3 276 (168 + 3 * sc.1 4 + 1) (nI v)) := b2
    by_cases s0 : s = 0
    · subst s0
      refine ⟨_, ?_, sfE _ (mI 1) sf4, Or.inl ⟨f, p, rfl, b3⟩⟩
      rw [eA, l_B0 k210, l_C h14 rfl g4]
    · by_cases s5 : s = 5
      · subst s5
        refine ⟨_, ?_, sfE _ (nI 1) sf4, Or.inl ⟨f, p, rfl, b3⟩⟩
        rw [eA, l_B5 k210 (b3.nuJ (lN 79) (nI 1) (nI 999)), l_C h14 rfl g4]
      · refine ⟨_, ?_, sfE _ (nI 0) sf4, Or.inl ⟨f, p, rfl, b3⟩⟩
        rw [eA, l_BX k210 h14 s0 s5 (by omega) g3 (b3.nu (nI 0) (bdI (sc.1 4))), l_C h14 rfl g4]
  · rw [b1]
    have b3 := b2.sI 276 (168 + 3 * sc.1 4 + 1) (nI v) (by decide)
    have vb := (pNum_b b1).2
    have ge4 := ge3.sI 276 (168 + 3 * sc.1 4 + 1) (nI v)
    by_cases s0 : s = 0
    · subst s0
      refine ⟨_, ?_, sfE _ (mI 1) sf4, Or.inr ⟨v, 0, tk2, rfl, (b3.sI _ _ _ (by decide)).sI _ _ _ (by decide), (q1.add h5 rfl).ge ((ge4.sI _ _ _).sI _ _ _), gdv_add (by decide) (fun _ => vb) (fun z => absurd rfl z) (fun z => absurd rfl z) (fun z => absurd z (by decide))⟩⟩
      rw [eA, l_B0 k210, l_C h14 rfl g4]
    · by_cases s5 : s = 5
      · subst s5
        obtain ⟨v2, W5, c1, c2, c3⟩ := b3.nuJ
        have g5 : gI W5 274 4 = nI (sc.1 4) := (c2.I (by decide) _).trans g4
        have sf5 : SfQ w W5 := sf4.tr c2.Q
        have eR : zR 192 120 [.ref 267, .int (nI 5), jk] [] w = some (none, sI (sI W5 276 (168 + 3 * sc.1 4 + 2) (nI v2)) 274 4 (nI (sc.1 4 + 1))) := by
          rw [eA, l_B5 k210 c1, l_C h14 rfl g5]
        have mq : MoQ 4 (addS sc 5 v v2) (sI (sI W5 276 (168 + 3 * sc.1 4 + 2) (nI v2)) 274 4 (nI (sc.1 4 + 1))) := (q1.add (x := nI v2) h5 rfl).ge (((c2.ge.tr ge4).sI _ _ _).sI _ _ _)
        rcases c3 with ⟨d1, d2⟩ | ⟨d1, d3⟩
        · refine ⟨_, eR, sfE _ _ sf5, Or.inl ⟨1, tk2.2.1, ?_, d2⟩⟩
          simp only [d1, Bool.false_eq_true, if_false]
          rfl
        · rcases d3 with ⟨f, p, d4, d5⟩ | ⟨tk3, d4, d5⟩
          · refine ⟨_, eR, sfE _ _ sf5, Or.inl ⟨f, p, ?_, d5⟩⟩
            simp only [d1, d4, if_true]
            rfl
          · have wb := pNum_b d4
            refine ⟨_, eR, sfE _ _ sf5, Or.inr ⟨v, v2, tk3, ?_, (d5.sI _ _ _ (by decide)).sI _ _ _ (by decide), mq, gdv_add (by decide) (fun z => absurd z (by decide)) (fun _ => vb) (fun _ z => absurd rfl z) (fun _ => by omega)⟩⟩
            simp only [d1, d4, if_true]
            rfl
      · obtain ⟨v2, W5, c1, c2, c3⟩ := b3.nu (lo := 0) (H := sc.1 4) (by decide) (by omega)
        have g5 : gI W5 274 4 = nI (sc.1 4) := (c2.I (by decide) _).trans g4
        have sf5 : SfQ w W5 := sf4.tr c2.Q
        have eR : zR 192 120 [.ref 267, .int (nI s), jk] [] w = some (none, sI (sI W5 276 (168 + 3 * sc.1 4 + 2) (nI v2)) 274 4 (nI (sc.1 4 + 1))) := by
          rw [eA, l_BX k210 h14 s0 s5 (by omega) g3 c1, l_C h14 rfl g5]
        have mq : MoQ 4 (addS sc s v v2) (sI (sI W5 276 (168 + 3 * sc.1 4 + 2) (nI v2)) 274 4 (nI (sc.1 4 + 1))) := (q1.add (x := nI v2) h5 (by rw [if_neg s0])).ge (((c2.ge.tr ge4).sI _ _ _).sI _ _ _)
        rcases c3 with ⟨f, p, d4, d5⟩ | ⟨tk3, d4, d5⟩
        · refine ⟨_, eR, sfE _ _ sf5, Or.inl ⟨f, p, ?_, d5⟩⟩
          simp only [s0, s5, if_false, d4]
        · have wb := pNum_b d4
          rw [if_neg s0] at vb
          refine ⟨_, eR, sfE _ _ sf5, Or.inr ⟨v, v2, tk3, ?_, (d5.sI _ _ _ (by decide)).sI _ _ _ (by decide), mq, gdv_add hs (fun z => absurd z s0) (fun _ => vb) (fun _ _ => wb.2) (fun z => absurd z s5)⟩⟩
          simp only [s0, s5, if_false, d4]
/-- the sort that a line's word tells, as the reference has it -/
def srI (o : Option Nat) : Int32 := match o with
  | some i => if i = 6 then mI 1 else nI i
  | none => mI 1
set_option maxHeartbeats 4000000 in
set_option maxRecDepth 8192 in
theorem t_line1 {T : Nat → Int32} {n : Nat} {tk : Nat × Nat × Nat} {w : Wd} (h : RmS T n tk w) : zE 192 [.ref 267] w = zR 192 86 [.ref 267, .int (srI (lwN T tk)), jk] [] w := by
  have i0 : zE 183 [.ref 267, .long (lN 10786)] w = _ := h.isW (i := 0) (by decide)
  have i1 : zE 183 [.ref 267, .long (lN 841)] w = _ := h.isW (i := 1) (by decide)
  have i2 : zE 183 [.ref 267, .long (lN 240373)] w = _ := h.isW (i := 2) (by decide)
  have i3 : zE 183 [.ref 267, .long (lN 10815598)] w = _ := h.isW (i := 3) (by decide)
  have i4 : zE 183 [.ref 267, .long (lN 267347)] w = _ := h.isW (i := 4) (by decide)
  have i5 : zE 183 [.ref 267, .long (lN 409469)] w = _ := h.isW (i := 5) (by decide)
  unfold lwN
  rw [zE_W [86]]
  cases e0 : wdE T tk.1 tk.2.1 tk.2.2 0 with
  | true =>
    rw [e0] at i0
    simp (disch := omega) only [tt_192, T_192, mx_192, Nat.reduceLT, Nat.reduceLeDiff, Nat.reduceEqDiff, Nat.reduceAdd, Nat.reduceMul, Nat.reduceSub, Nat.reducePow, Nat.reduceMod, Nat.reduceDiv, Nat.reduceBEq, ↓reduceIte, reduceCtorEq, and_true, true_and, and_false, false_and, and_self, zW_eq, zin, zop, zst, fw_ite, fw_K, fw_R, fw_F, fw_C, zBW_s, nth, stL, okL, nlg, ct, ctv, cI, cL, pu, tkC, iniL, pad, eL, Value.category, swK, bz_0, bz_n0, bz_n1, bI_bz, bI_0, bI_t, bI_f, List.headD_cons, decide_true, decide_false, Bool.true_and, Bool.and_true, Bool.false_and, Bool.and_false, Bool.and_self, Bool.not_true, Bool.not_false, Bool.or_false, Bool.false_or, Bool.true_or, Bool.or_true, Bool.or_self, Bool.false_eq_true, rf_45, rf_47, rf_49, rf_50, rf_51, rf_58, rf_63, rf_65, rf_267, rf45, rf50, rf58, rf63, rf267, ob_45, ob_49, ob_50, ob_58, ob_63, ob_267, ln_46, ln_46n, ln_46m, ln_47, ln_47n, ln_48, ln_48n, ln_51, ln_56, ln_57, ln_59, ln_60, ln_61, ln_62, ln_64, ln_64n, ln_65, ln_268, ln_269, ln_270, ln_270n, ln_271, ln_271n, ln_272, ln_272n, ln_272m, ln_273, ln_274, ln_275, ln_276, ln_277, ln_278, ln_278n, ln_279, ln_280, ln_281, ln_282, ln_283, ln_283n, ln_284, ln_285, ln_286, ln_286n, ln_287, ln_287n, ln_288, ln_289, ln_289n, gF_sF, gF_sG, gF_sI, gF_sJ, gF_sP, gF_sR, gF_sL, gG_sF, gG_sG, gG_sI, gG_sJ, gG_sP, gG_sR, gG_sL, gI_sF, gI_sG, gI_sI, gI_sJ, gI_sP, gI_sR, gI_sL, gJ_sF, gJ_sG, gJ_sI, gJ_sJ, gJ_sP, gJ_sR, gJ_sL, gP_sF, gP_sG, gP_sI, gP_sJ, gP_sP, gP_sR, gP_sL, inB_n, inC_n, iX_n, nI_add, pk_mul, pk_sub, n_and, n_or, n_xor, n_one, n_ush, n_shr, n_div, n_rem, n_ltm, m_ltn, m_ltm, n_eqm, m_eqn, m_eqm, n_lt, n_eq, n_eq0, n_addm, n_i2l, m_i2l, n_l2i, lN_add, lN_mul, lN_sub, l_div, l_rem, l_eq0, lc_lt, lc_gt, lc_eq, l_lt, l_eq, l_ltm, ml_ltn, ml_ltm, l_eqm, ml_eqn, ml_eqm, ls_1, ls_2, ls_3, ls_4, ls_5, ls_6, ls_7, ls_8, ls_10, ls_11, ls_12, ls_13, ls_14, ls_15, ls_16, ls_17, ob_0, ob_9, rf_0, rf_9, i0, srI]
  | false =>
    rw [e0] at i0
    cases e1 : wdE T tk.1 tk.2.1 tk.2.2 1 with
    | true =>
      rw [e1] at i1
      simp (disch := omega) only [tt_192, T_192, mx_192, Nat.reduceLT, Nat.reduceLeDiff, Nat.reduceEqDiff, Nat.reduceAdd, Nat.reduceMul, Nat.reduceSub, Nat.reducePow, Nat.reduceMod, Nat.reduceDiv, Nat.reduceBEq, ↓reduceIte, reduceCtorEq, and_true, true_and, and_false, false_and, and_self, zW_eq, zin, zop, zst, fw_ite, fw_K, fw_R, fw_F, fw_C, zBW_s, nth, stL, okL, nlg, ct, ctv, cI, cL, pu, tkC, iniL, pad, eL, Value.category, swK, bz_0, bz_n0, bz_n1, bI_bz, bI_0, bI_t, bI_f, List.headD_cons, decide_true, decide_false, Bool.true_and, Bool.and_true, Bool.false_and, Bool.and_false, Bool.and_self, Bool.not_true, Bool.not_false, Bool.or_false, Bool.false_or, Bool.true_or, Bool.or_true, Bool.or_self, Bool.false_eq_true, rf_45, rf_47, rf_49, rf_50, rf_51, rf_58, rf_63, rf_65, rf_267, rf45, rf50, rf58, rf63, rf267, ob_45, ob_49, ob_50, ob_58, ob_63, ob_267, ln_46, ln_46n, ln_46m, ln_47, ln_47n, ln_48, ln_48n, ln_51, ln_56, ln_57, ln_59, ln_60, ln_61, ln_62, ln_64, ln_64n, ln_65, ln_268, ln_269, ln_270, ln_270n, ln_271, ln_271n, ln_272, ln_272n, ln_272m, ln_273, ln_274, ln_275, ln_276, ln_277, ln_278, ln_278n, ln_279, ln_280, ln_281, ln_282, ln_283, ln_283n, ln_284, ln_285, ln_286, ln_286n, ln_287, ln_287n, ln_288, ln_289, ln_289n, gF_sF, gF_sG, gF_sI, gF_sJ, gF_sP, gF_sR, gF_sL, gG_sF, gG_sG, gG_sI, gG_sJ, gG_sP, gG_sR, gG_sL, gI_sF, gI_sG, gI_sI, gI_sJ, gI_sP, gI_sR, gI_sL, gJ_sF, gJ_sG, gJ_sI, gJ_sJ, gJ_sP, gJ_sR, gJ_sL, gP_sF, gP_sG, gP_sI, gP_sJ, gP_sP, gP_sR, gP_sL, inB_n, inC_n, iX_n, nI_add, pk_mul, pk_sub, n_and, n_or, n_xor, n_one, n_ush, n_shr, n_div, n_rem, n_ltm, m_ltn, m_ltm, n_eqm, m_eqn, m_eqm, n_lt, n_eq, n_eq0, n_addm, n_i2l, m_i2l, n_l2i, lN_add, lN_mul, lN_sub, l_div, l_rem, l_eq0, lc_lt, lc_gt, lc_eq, l_lt, l_eq, l_ltm, ml_ltn, ml_ltm, l_eqm, ml_eqn, ml_eqm, ls_1, ls_2, ls_3, ls_4, ls_5, ls_6, ls_7, ls_8, ls_10, ls_11, ls_12, ls_13, ls_14, ls_15, ls_16, ls_17, ob_0, ob_9, rf_0, rf_9, i0, i1, srI]
    | false =>
      rw [e1] at i1
      cases e2 : wdE T tk.1 tk.2.1 tk.2.2 2 with
      | true =>
        rw [e2] at i2
        simp (disch := omega) only [tt_192, T_192, mx_192, Nat.reduceLT, Nat.reduceLeDiff, Nat.reduceEqDiff, Nat.reduceAdd, Nat.reduceMul, Nat.reduceSub, Nat.reducePow, Nat.reduceMod, Nat.reduceDiv, Nat.reduceBEq, ↓reduceIte, reduceCtorEq, and_true, true_and, and_false, false_and, and_self, zW_eq, zin, zop, zst, fw_ite, fw_K, fw_R, fw_F, fw_C, zBW_s, nth, stL, okL, nlg, ct, ctv, cI, cL, pu, tkC, iniL, pad, eL, Value.category, swK, bz_0, bz_n0, bz_n1, bI_bz, bI_0, bI_t, bI_f, List.headD_cons, decide_true, decide_false, Bool.true_and, Bool.and_true, Bool.false_and, Bool.and_false, Bool.and_self, Bool.not_true, Bool.not_false, Bool.or_false, Bool.false_or, Bool.true_or, Bool.or_true, Bool.or_self, Bool.false_eq_true, rf_45, rf_47, rf_49, rf_50, rf_51, rf_58, rf_63, rf_65, rf_267, rf45, rf50, rf58, rf63, rf267, ob_45, ob_49, ob_50, ob_58, ob_63, ob_267, ln_46, ln_46n, ln_46m, ln_47, ln_47n, ln_48, ln_48n, ln_51, ln_56, ln_57, ln_59, ln_60, ln_61, ln_62, ln_64, ln_64n, ln_65, ln_268, ln_269, ln_270, ln_270n, ln_271, ln_271n, ln_272, ln_272n, ln_272m, ln_273, ln_274, ln_275, ln_276, ln_277, ln_278, ln_278n, ln_279, ln_280, ln_281, ln_282, ln_283, ln_283n, ln_284, ln_285, ln_286, ln_286n, ln_287, ln_287n, ln_288, ln_289, ln_289n, gF_sF, gF_sG, gF_sI, gF_sJ, gF_sP, gF_sR, gF_sL, gG_sF, gG_sG, gG_sI, gG_sJ, gG_sP, gG_sR, gG_sL, gI_sF, gI_sG, gI_sI, gI_sJ, gI_sP, gI_sR, gI_sL, gJ_sF, gJ_sG, gJ_sI, gJ_sJ, gJ_sP, gJ_sR, gJ_sL, gP_sF, gP_sG, gP_sI, gP_sJ, gP_sP, gP_sR, gP_sL, inB_n, inC_n, iX_n, nI_add, pk_mul, pk_sub, n_and, n_or, n_xor, n_one, n_ush, n_shr, n_div, n_rem, n_ltm, m_ltn, m_ltm, n_eqm, m_eqn, m_eqm, n_lt, n_eq, n_eq0, n_addm, n_i2l, m_i2l, n_l2i, lN_add, lN_mul, lN_sub, l_div, l_rem, l_eq0, lc_lt, lc_gt, lc_eq, l_lt, l_eq, l_ltm, ml_ltn, ml_ltm, l_eqm, ml_eqn, ml_eqm, ls_1, ls_2, ls_3, ls_4, ls_5, ls_6, ls_7, ls_8, ls_10, ls_11, ls_12, ls_13, ls_14, ls_15, ls_16, ls_17, ob_0, ob_9, rf_0, rf_9, i0, i1, i2, srI]
      | false =>
        rw [e2] at i2
        cases e3 : wdE T tk.1 tk.2.1 tk.2.2 3 with
        | true =>
          rw [e3] at i3
          simp (disch := omega) only [tt_192, T_192, mx_192, Nat.reduceLT, Nat.reduceLeDiff, Nat.reduceEqDiff, Nat.reduceAdd, Nat.reduceMul, Nat.reduceSub, Nat.reducePow, Nat.reduceMod, Nat.reduceDiv, Nat.reduceBEq, ↓reduceIte, reduceCtorEq, and_true, true_and, and_false, false_and, and_self, zW_eq, zin, zop, zst, fw_ite, fw_K, fw_R, fw_F, fw_C, zBW_s, nth, stL, okL, nlg, ct, ctv, cI, cL, pu, tkC, iniL, pad, eL, Value.category, swK, bz_0, bz_n0, bz_n1, bI_bz, bI_0, bI_t, bI_f, List.headD_cons, decide_true, decide_false, Bool.true_and, Bool.and_true, Bool.false_and, Bool.and_false, Bool.and_self, Bool.not_true, Bool.not_false, Bool.or_false, Bool.false_or, Bool.true_or, Bool.or_true, Bool.or_self, Bool.false_eq_true, rf_45, rf_47, rf_49, rf_50, rf_51, rf_58, rf_63, rf_65, rf_267, rf45, rf50, rf58, rf63, rf267, ob_45, ob_49, ob_50, ob_58, ob_63, ob_267, ln_46, ln_46n, ln_46m, ln_47, ln_47n, ln_48, ln_48n, ln_51, ln_56, ln_57, ln_59, ln_60, ln_61, ln_62, ln_64, ln_64n, ln_65, ln_268, ln_269, ln_270, ln_270n, ln_271, ln_271n, ln_272, ln_272n, ln_272m, ln_273, ln_274, ln_275, ln_276, ln_277, ln_278, ln_278n, ln_279, ln_280, ln_281, ln_282, ln_283, ln_283n, ln_284, ln_285, ln_286, ln_286n, ln_287, ln_287n, ln_288, ln_289, ln_289n, gF_sF, gF_sG, gF_sI, gF_sJ, gF_sP, gF_sR, gF_sL, gG_sF, gG_sG, gG_sI, gG_sJ, gG_sP, gG_sR, gG_sL, gI_sF, gI_sG, gI_sI, gI_sJ, gI_sP, gI_sR, gI_sL, gJ_sF, gJ_sG, gJ_sI, gJ_sJ, gJ_sP, gJ_sR, gJ_sL, gP_sF, gP_sG, gP_sI, gP_sJ, gP_sP, gP_sR, gP_sL, inB_n, inC_n, iX_n, nI_add, pk_mul, pk_sub, n_and, n_or, n_xor, n_one, n_ush, n_shr, n_div, n_rem, n_ltm, m_ltn, m_ltm, n_eqm, m_eqn, m_eqm, n_lt, n_eq, n_eq0, n_addm, n_i2l, m_i2l, n_l2i, lN_add, lN_mul, lN_sub, l_div, l_rem, l_eq0, lc_lt, lc_gt, lc_eq, l_lt, l_eq, l_ltm, ml_ltn, ml_ltm, l_eqm, ml_eqn, ml_eqm, ls_1, ls_2, ls_3, ls_4, ls_5, ls_6, ls_7, ls_8, ls_10, ls_11, ls_12, ls_13, ls_14, ls_15, ls_16, ls_17, ob_0, ob_9, rf_0, rf_9, i0, i1, i2, i3, srI]
        | false =>
          rw [e3] at i3
          cases e4 : wdE T tk.1 tk.2.1 tk.2.2 4 with
          | true =>
            rw [e4] at i4
            simp (disch := omega) only [tt_192, T_192, mx_192, Nat.reduceLT, Nat.reduceLeDiff, Nat.reduceEqDiff, Nat.reduceAdd, Nat.reduceMul, Nat.reduceSub, Nat.reducePow, Nat.reduceMod, Nat.reduceDiv, Nat.reduceBEq, ↓reduceIte, reduceCtorEq, and_true, true_and, and_false, false_and, and_self, zW_eq, zin, zop, zst, fw_ite, fw_K, fw_R, fw_F, fw_C, zBW_s, nth, stL, okL, nlg, ct, ctv, cI, cL, pu, tkC, iniL, pad, eL, Value.category, swK, bz_0, bz_n0, bz_n1, bI_bz, bI_0, bI_t, bI_f, List.headD_cons, decide_true, decide_false, Bool.true_and, Bool.and_true, Bool.false_and, Bool.and_false, Bool.and_self, Bool.not_true, Bool.not_false, Bool.or_false, Bool.false_or, Bool.true_or, Bool.or_true, Bool.or_self, Bool.false_eq_true, rf_45, rf_47, rf_49, rf_50, rf_51, rf_58, rf_63, rf_65, rf_267, rf45, rf50, rf58, rf63, rf267, ob_45, ob_49, ob_50, ob_58, ob_63, ob_267, ln_46, ln_46n, ln_46m, ln_47, ln_47n, ln_48, ln_48n, ln_51, ln_56, ln_57, ln_59, ln_60, ln_61, ln_62, ln_64, ln_64n, ln_65, ln_268, ln_269, ln_270, ln_270n, ln_271, ln_271n, ln_272, ln_272n, ln_272m, ln_273, ln_274, ln_275, ln_276, ln_277, ln_278, ln_278n, ln_279, ln_280, ln_281, ln_282, ln_283, ln_283n, ln_284, ln_285, ln_286, ln_286n, ln_287, ln_287n, ln_288, ln_289, ln_289n, gF_sF, gF_sG, gF_sI, gF_sJ, gF_sP, gF_sR, gF_sL, gG_sF, gG_sG, gG_sI, gG_sJ, gG_sP, gG_sR, gG_sL, gI_sF, gI_sG, gI_sI, gI_sJ, gI_sP, gI_sR, gI_sL, gJ_sF, gJ_sG, gJ_sI, gJ_sJ, gJ_sP, gJ_sR, gJ_sL, gP_sF, gP_sG, gP_sI, gP_sJ, gP_sP, gP_sR, gP_sL, inB_n, inC_n, iX_n, nI_add, pk_mul, pk_sub, n_and, n_or, n_xor, n_one, n_ush, n_shr, n_div, n_rem, n_ltm, m_ltn, m_ltm, n_eqm, m_eqn, m_eqm, n_lt, n_eq, n_eq0, n_addm, n_i2l, m_i2l, n_l2i, lN_add, lN_mul, lN_sub, l_div, l_rem, l_eq0, lc_lt, lc_gt, lc_eq, l_lt, l_eq, l_ltm, ml_ltn, ml_ltm, l_eqm, ml_eqn, ml_eqm, ls_1, ls_2, ls_3, ls_4, ls_5, ls_6, ls_7, ls_8, ls_10, ls_11, ls_12, ls_13, ls_14, ls_15, ls_16, ls_17, ob_0, ob_9, rf_0, rf_9, i0, i1, i2, i3, i4, srI]
          | false =>
            rw [e4] at i4
            cases e5 : wdE T tk.1 tk.2.1 tk.2.2 5 with
            | true =>
              rw [e5] at i5
              simp (disch := omega) only [tt_192, T_192, mx_192, Nat.reduceLT, Nat.reduceLeDiff, Nat.reduceEqDiff, Nat.reduceAdd, Nat.reduceMul, Nat.reduceSub, Nat.reducePow, Nat.reduceMod, Nat.reduceDiv, Nat.reduceBEq, ↓reduceIte, reduceCtorEq, and_true, true_and, and_false, false_and, and_self, zW_eq, zin, zop, zst, fw_ite, fw_K, fw_R, fw_F, fw_C, zBW_s, nth, stL, okL, nlg, ct, ctv, cI, cL, pu, tkC, iniL, pad, eL, Value.category, swK, bz_0, bz_n0, bz_n1, bI_bz, bI_0, bI_t, bI_f, List.headD_cons, decide_true, decide_false, Bool.true_and, Bool.and_true, Bool.false_and, Bool.and_false, Bool.and_self, Bool.not_true, Bool.not_false, Bool.or_false, Bool.false_or, Bool.true_or, Bool.or_true, Bool.or_self, Bool.false_eq_true, rf_45, rf_47, rf_49, rf_50, rf_51, rf_58, rf_63, rf_65, rf_267, rf45, rf50, rf58, rf63, rf267, ob_45, ob_49, ob_50, ob_58, ob_63, ob_267, ln_46, ln_46n, ln_46m, ln_47, ln_47n, ln_48, ln_48n, ln_51, ln_56, ln_57, ln_59, ln_60, ln_61, ln_62, ln_64, ln_64n, ln_65, ln_268, ln_269, ln_270, ln_270n, ln_271, ln_271n, ln_272, ln_272n, ln_272m, ln_273, ln_274, ln_275, ln_276, ln_277, ln_278, ln_278n, ln_279, ln_280, ln_281, ln_282, ln_283, ln_283n, ln_284, ln_285, ln_286, ln_286n, ln_287, ln_287n, ln_288, ln_289, ln_289n, gF_sF, gF_sG, gF_sI, gF_sJ, gF_sP, gF_sR, gF_sL, gG_sF, gG_sG, gG_sI, gG_sJ, gG_sP, gG_sR, gG_sL, gI_sF, gI_sG, gI_sI, gI_sJ, gI_sP, gI_sR, gI_sL, gJ_sF, gJ_sG, gJ_sI, gJ_sJ, gJ_sP, gJ_sR, gJ_sL, gP_sF, gP_sG, gP_sI, gP_sJ, gP_sP, gP_sR, gP_sL, inB_n, inC_n, iX_n, nI_add, pk_mul, pk_sub, n_and, n_or, n_xor, n_one, n_ush, n_shr, n_div, n_rem, n_ltm, m_ltn, m_ltm, n_eqm, m_eqn, m_eqm, n_lt, n_eq, n_eq0, n_addm, n_i2l, m_i2l, n_l2i, lN_add, lN_mul, lN_sub, l_div, l_rem, l_eq0, lc_lt, lc_gt, lc_eq, l_lt, l_eq, l_ltm, ml_ltn, ml_ltm, l_eqm, ml_eqn, ml_eqm, ls_1, ls_2, ls_3, ls_4, ls_5, ls_6, ls_7, ls_8, ls_10, ls_11, ls_12, ls_13, ls_14, ls_15, ls_16, ls_17, ob_0, ob_9, rf_0, rf_9, i0, i1, i2, i3, i4, i5, srI]
            | false =>
              rw [e5] at i5
              cases e6 : wdE T tk.1 tk.2.1 tk.2.2 6 with
              | true => simp (disch := omega) only [tt_192, T_192, mx_192, Nat.reduceLT, Nat.reduceLeDiff, Nat.reduceEqDiff, Nat.reduceAdd, Nat.reduceMul, Nat.reduceSub, Nat.reducePow, Nat.reduceMod, Nat.reduceDiv, Nat.reduceBEq, ↓reduceIte, reduceCtorEq, and_true, true_and, and_false, false_and, and_self, zW_eq, zin, zop, zst, fw_ite, fw_K, fw_R, fw_F, fw_C, zBW_s, nth, stL, okL, nlg, ct, ctv, cI, cL, pu, tkC, iniL, pad, eL, Value.category, swK, bz_0, bz_n0, bz_n1, bI_bz, bI_0, bI_t, bI_f, List.headD_cons, decide_true, decide_false, Bool.true_and, Bool.and_true, Bool.false_and, Bool.and_false, Bool.and_self, Bool.not_true, Bool.not_false, Bool.or_false, Bool.false_or, Bool.true_or, Bool.or_true, Bool.or_self, Bool.false_eq_true, rf_45, rf_47, rf_49, rf_50, rf_51, rf_58, rf_63, rf_65, rf_267, rf45, rf50, rf58, rf63, rf267, ob_45, ob_49, ob_50, ob_58, ob_63, ob_267, ln_46, ln_46n, ln_46m, ln_47, ln_47n, ln_48, ln_48n, ln_51, ln_56, ln_57, ln_59, ln_60, ln_61, ln_62, ln_64, ln_64n, ln_65, ln_268, ln_269, ln_270, ln_270n, ln_271, ln_271n, ln_272, ln_272n, ln_272m, ln_273, ln_274, ln_275, ln_276, ln_277, ln_278, ln_278n, ln_279, ln_280, ln_281, ln_282, ln_283, ln_283n, ln_284, ln_285, ln_286, ln_286n, ln_287, ln_287n, ln_288, ln_289, ln_289n, gF_sF, gF_sG, gF_sI, gF_sJ, gF_sP, gF_sR, gF_sL, gG_sF, gG_sG, gG_sI, gG_sJ, gG_sP, gG_sR, gG_sL, gI_sF, gI_sG, gI_sI, gI_sJ, gI_sP, gI_sR, gI_sL, gJ_sF, gJ_sG, gJ_sI, gJ_sJ, gJ_sP, gJ_sR, gJ_sL, gP_sF, gP_sG, gP_sI, gP_sJ, gP_sP, gP_sR, gP_sL, inB_n, inC_n, iX_n, nI_add, pk_mul, pk_sub, n_and, n_or, n_xor, n_one, n_ush, n_shr, n_div, n_rem, n_ltm, m_ltn, m_ltm, n_eqm, m_eqn, m_eqm, n_lt, n_eq, n_eq0, n_addm, n_i2l, m_i2l, n_l2i, lN_add, lN_mul, lN_sub, l_div, l_rem, l_eq0, lc_lt, lc_gt, lc_eq, l_lt, l_eq, l_ltm, ml_ltn, ml_ltm, l_eqm, ml_eqn, ml_eqm, ls_1, ls_2, ls_3, ls_4, ls_5, ls_6, ls_7, ls_8, ls_10, ls_11, ls_12, ls_13, ls_14, ls_15, ls_16, ls_17, ob_0, ob_9, rf_0, rf_9, i0, i1, i2, i3, i4, i5, srI]
              | false => simp (disch := omega) only [tt_192, T_192, mx_192, Nat.reduceLT, Nat.reduceLeDiff, Nat.reduceEqDiff, Nat.reduceAdd, Nat.reduceMul, Nat.reduceSub, Nat.reducePow, Nat.reduceMod, Nat.reduceDiv, Nat.reduceBEq, ↓reduceIte, reduceCtorEq, and_true, true_and, and_false, false_and, and_self, zW_eq, zin, zop, zst, fw_ite, fw_K, fw_R, fw_F, fw_C, zBW_s, nth, stL, okL, nlg, ct, ctv, cI, cL, pu, tkC, iniL, pad, eL, Value.category, swK, bz_0, bz_n0, bz_n1, bI_bz, bI_0, bI_t, bI_f, List.headD_cons, decide_true, decide_false, Bool.true_and, Bool.and_true, Bool.false_and, Bool.and_false, Bool.and_self, Bool.not_true, Bool.not_false, Bool.or_false, Bool.false_or, Bool.true_or, Bool.or_true, Bool.or_self, Bool.false_eq_true, rf_45, rf_47, rf_49, rf_50, rf_51, rf_58, rf_63, rf_65, rf_267, rf45, rf50, rf58, rf63, rf267, ob_45, ob_49, ob_50, ob_58, ob_63, ob_267, ln_46, ln_46n, ln_46m, ln_47, ln_47n, ln_48, ln_48n, ln_51, ln_56, ln_57, ln_59, ln_60, ln_61, ln_62, ln_64, ln_64n, ln_65, ln_268, ln_269, ln_270, ln_270n, ln_271, ln_271n, ln_272, ln_272n, ln_272m, ln_273, ln_274, ln_275, ln_276, ln_277, ln_278, ln_278n, ln_279, ln_280, ln_281, ln_282, ln_283, ln_283n, ln_284, ln_285, ln_286, ln_286n, ln_287, ln_287n, ln_288, ln_289, ln_289n, gF_sF, gF_sG, gF_sI, gF_sJ, gF_sP, gF_sR, gF_sL, gG_sF, gG_sG, gG_sI, gG_sJ, gG_sP, gG_sR, gG_sL, gI_sF, gI_sG, gI_sI, gI_sJ, gI_sP, gI_sR, gI_sL, gJ_sF, gJ_sG, gJ_sI, gJ_sJ, gJ_sP, gJ_sR, gJ_sL, gP_sF, gP_sG, gP_sI, gP_sJ, gP_sP, gP_sR, gP_sL, inB_n, inC_n, iX_n, nI_add, pk_mul, pk_sub, n_and, n_or, n_xor, n_one, n_ush, n_shr, n_div, n_rem, n_ltm, m_ltn, m_ltm, n_eqm, m_eqn, m_eqm, n_lt, n_eq, n_eq0, n_addm, n_i2l, m_i2l, n_l2i, lN_add, lN_mul, lN_sub, l_div, l_rem, l_eq0, lc_lt, lc_gt, lc_eq, l_lt, l_eq, l_ltm, ml_ltn, ml_ltm, l_eqm, ml_eqn, ml_eqm, ls_1, ls_2, ls_3, ls_4, ls_5, ls_6, ls_7, ls_8, ls_10, ls_11, ls_12, ls_13, ls_14, ls_15, ls_16, ls_17, ob_0, ob_9, rf_0, rf_9, i0, i1, i2, i3, i4, i5, srI]
/-- a line that isn't the first -/
def pLi (T : Nat → Int32) (n : Nat) (sc : Sg) (tk : Nat × Nat × Nat) : (Nat × Nat) ⊕ (Sg × (Nat × Nat × Nat)) := match lwN T tk with
  | none => .inl (1, tk.2.1)
  | some i => if i = 6 then .inl (1, tk.2.1) else if sc.1 4 = 14 then .inl (3, tk.2.1) else pSum T n sc i (tkN T n tk.2.2)
set_option maxRecDepth 8192 in
set_option maxHeartbeats 4000000 in
theorem t_line {T : Nat → Int32} {n : Nat} {sc : Sg} {tk : Nat × Nat × Nat} {w : Wd} (h : RmS T n tk w) (hq : MoQ 4 sc w) (hp : PaS sc) : ∃ w', zE 192 [.ref 267] w = some (none, w') ∧ SfQ w w' ∧ ((∃ f p, pLi T n sc tk = .inl (f, p) ∧ RmF f p w') ∨ ∃ s f g tk', pLi T n sc tk = .inr (addS sc s f g, tk') ∧ RmS T n tk' w' ∧ MoQ 4 (addS sc s f g) w' ∧ sc.1 4 < 14 ∧ GdV (addS sc s f g) (sc.1 4)) := by
  have h5 := hp.1.2.2
  have h14 := hp.2.2.1
  have g4 : gI w 274 4 = nI (sc.1 4) := hq.2.1
  have g0 := h.2.2.1
  have hl := t_line1 h
  unfold pLi
  have bad : srI (lwN T tk) = mI 1 → ∃ w', zE 192 [.ref 267] w = some (none, w') ∧ SfQ w w' ∧ RmF 1 tk.2.1 w' := by
    intro e
    rw [e] at hl
    obtain ⟨w1, d1, d2, d3⟩ := h.fl (f := 1) (by decide)
    have f3 := d2.fl (nI 3)
    have b1 := d2.2.1
    have g4' : gI w1 274 4 = nI (sc.1 4) := (d3.I (by decide) _).trans g4
    refine ⟨w1, ?_, d3.Q, d2⟩
    rw [hl, zR_W []]
    by_cases z : sc.1 4 = 14
    · rw [z] at g4'
      simp (disch := omega) only [tt_192, T_192, mx_192, Nat.reduceLT, Nat.reduceLeDiff, Nat.reduceEqDiff, Nat.reduceAdd, Nat.reduceMul, Nat.reduceSub, Nat.reducePow, Nat.reduceMod, Nat.reduceDiv, Nat.reduceBEq, ↓reduceIte, reduceCtorEq, and_true, true_and, and_false, false_and, and_self, zW_eq, zin, zop, zst, fw_ite, fw_K, fw_R, fw_F, fw_C, zBW_s, nth, stL, okL, nlg, ct, ctv, cI, cL, pu, tkC, iniL, pad, eL, Value.category, swK, bz_0, bz_n0, bz_n1, bI_bz, bI_0, bI_t, bI_f, List.headD_cons, decide_true, decide_false, Bool.true_and, Bool.and_true, Bool.false_and, Bool.and_false, Bool.and_self, Bool.not_true, Bool.not_false, Bool.or_false, Bool.false_or, Bool.true_or, Bool.or_true, Bool.or_self, Bool.false_eq_true, rf_45, rf_47, rf_49, rf_50, rf_51, rf_58, rf_63, rf_65, rf_267, rf45, rf50, rf58, rf63, rf267, ob_45, ob_49, ob_50, ob_58, ob_63, ob_267, ln_46, ln_46n, ln_46m, ln_47, ln_47n, ln_48, ln_48n, ln_51, ln_56, ln_57, ln_59, ln_60, ln_61, ln_62, ln_64, ln_64n, ln_65, ln_268, ln_269, ln_270, ln_270n, ln_271, ln_271n, ln_272, ln_272n, ln_272m, ln_273, ln_274, ln_275, ln_276, ln_277, ln_278, ln_278n, ln_279, ln_280, ln_281, ln_282, ln_283, ln_283n, ln_284, ln_285, ln_286, ln_286n, ln_287, ln_287n, ln_288, ln_289, ln_289n, gF_sF, gF_sG, gF_sI, gF_sJ, gF_sP, gF_sR, gF_sL, gG_sF, gG_sG, gG_sI, gG_sJ, gG_sP, gG_sR, gG_sL, gI_sF, gI_sG, gI_sI, gI_sJ, gI_sP, gI_sR, gI_sL, gJ_sF, gJ_sG, gJ_sI, gJ_sJ, gJ_sP, gJ_sR, gJ_sL, gP_sF, gP_sG, gP_sI, gP_sJ, gP_sP, gP_sR, gP_sL, inB_n, inC_n, iX_n, nI_add, pk_mul, pk_sub, n_and, n_or, n_xor, n_one, n_ush, n_shr, n_div, n_rem, n_ltm, m_ltn, m_ltm, n_eqm, m_eqn, m_eqm, n_lt, n_eq, n_eq0, n_addm, n_i2l, m_i2l, n_l2i, lN_add, lN_mul, lN_sub, l_div, l_rem, l_eq0, lc_lt, lc_gt, lc_eq, l_lt, l_eq, l_ltm, ml_ltn, ml_ltm, l_eqm, ml_eqn, ml_eqm, ls_1, ls_2, ls_3, ls_4, ls_5, ls_6, ls_7, ls_8, ls_10, ls_11, ls_12, ls_13, ls_14, ls_15, ls_16, ls_17, ob_0, ob_9, rf_0, rf_9, d1, g4', f3, b1]
    · simp (disch := omega) only [tt_192, T_192, mx_192, Nat.reduceLT, Nat.reduceLeDiff, Nat.reduceEqDiff, Nat.reduceAdd, Nat.reduceMul, Nat.reduceSub, Nat.reducePow, Nat.reduceMod, Nat.reduceDiv, Nat.reduceBEq, ↓reduceIte, reduceCtorEq, and_true, true_and, and_false, false_and, and_self, zW_eq, zin, zop, zst, fw_ite, fw_K, fw_R, fw_F, fw_C, zBW_s, nth, stL, okL, nlg, ct, ctv, cI, cL, pu, tkC, iniL, pad, eL, Value.category, swK, bz_0, bz_n0, bz_n1, bI_bz, bI_0, bI_t, bI_f, List.headD_cons, decide_true, decide_false, Bool.true_and, Bool.and_true, Bool.false_and, Bool.and_false, Bool.and_self, Bool.not_true, Bool.not_false, Bool.or_false, Bool.false_or, Bool.true_or, Bool.or_true, Bool.or_self, Bool.false_eq_true, rf_45, rf_47, rf_49, rf_50, rf_51, rf_58, rf_63, rf_65, rf_267, rf45, rf50, rf58, rf63, rf267, ob_45, ob_49, ob_50, ob_58, ob_63, ob_267, ln_46, ln_46n, ln_46m, ln_47, ln_47n, ln_48, ln_48n, ln_51, ln_56, ln_57, ln_59, ln_60, ln_61, ln_62, ln_64, ln_64n, ln_65, ln_268, ln_269, ln_270, ln_270n, ln_271, ln_271n, ln_272, ln_272n, ln_272m, ln_273, ln_274, ln_275, ln_276, ln_277, ln_278, ln_278n, ln_279, ln_280, ln_281, ln_282, ln_283, ln_283n, ln_284, ln_285, ln_286, ln_286n, ln_287, ln_287n, ln_288, ln_289, ln_289n, gF_sF, gF_sG, gF_sI, gF_sJ, gF_sP, gF_sR, gF_sL, gG_sF, gG_sG, gG_sI, gG_sJ, gG_sP, gG_sR, gG_sL, gI_sF, gI_sG, gI_sI, gI_sJ, gI_sP, gI_sR, gI_sL, gJ_sF, gJ_sG, gJ_sI, gJ_sJ, gJ_sP, gJ_sR, gJ_sL, gP_sF, gP_sG, gP_sI, gP_sJ, gP_sP, gP_sR, gP_sL, inB_n, inC_n, iX_n, nI_add, pk_mul, pk_sub, n_and, n_or, n_xor, n_one, n_ush, n_shr, n_div, n_rem, n_ltm, m_ltn, m_ltm, n_eqm, m_eqn, m_eqm, n_lt, n_eq, n_eq0, n_addm, n_i2l, m_i2l, n_l2i, lN_add, lN_mul, lN_sub, l_div, l_rem, l_eq0, lc_lt, lc_gt, lc_eq, l_lt, l_eq, l_ltm, ml_ltn, ml_ltm, l_eqm, ml_eqn, ml_eqm, ls_1, ls_2, ls_3, ls_4, ls_5, ls_6, ls_7, ls_8, ls_10, ls_11, ls_12, ls_13, ls_14, ls_15, ls_16, ls_17, ob_0, ob_9, rf_0, rf_9, d1, g4', z, b1]
  cases hw : lwN T tk with
  | none =>
    obtain ⟨w', a1, a2, a3⟩ := bad (by rw [hw]; rfl)
    exact ⟨w', a1, a2, Or.inl ⟨1, _, rfl, a3⟩⟩
  | some i =>
    have ib := lwN_b hw
    by_cases i6 : i = 6
    · obtain ⟨w', a1, a2, a3⟩ := bad (by rw [hw]; exact if_pos i6)
      exact ⟨w', a1, a2, Or.inl ⟨1, _, if_pos i6, a3⟩⟩
    · have es : srI (lwN T tk) = nI i := by
        rw [hw]
        exact if_neg i6
      rw [es] at hl
      have i31 : i < 2 ^ 31 := by omega
      by_cases z : sc.1 4 = 14
      · obtain ⟨w1, d1, d2, d3⟩ := h.fl (f := 3) (by decide)
        have b1 := d2.2.1
        refine ⟨w1, ?_, d3.Q, Or.inl ⟨3, _, by simp only [i6, if_false, z, if_true], d2⟩⟩
        rw [z] at g4
        rw [hl, zR_W []]
        simp (disch := omega) only [tt_192, T_192, mx_192, Nat.reduceLT, Nat.reduceLeDiff, Nat.reduceEqDiff, Nat.reduceAdd, Nat.reduceMul, Nat.reduceSub, Nat.reducePow, Nat.reduceMod, Nat.reduceDiv, Nat.reduceBEq, ↓reduceIte, reduceCtorEq, and_true, true_and, and_false, false_and, and_self, zW_eq, zin, zop, zst, fw_ite, fw_K, fw_R, fw_F, fw_C, zBW_s, nth, stL, okL, nlg, ct, ctv, cI, cL, pu, tkC, iniL, pad, eL, Value.category, swK, bz_0, bz_n0, bz_n1, bI_bz, bI_0, bI_t, bI_f, List.headD_cons, decide_true, decide_false, Bool.true_and, Bool.and_true, Bool.false_and, Bool.and_false, Bool.and_self, Bool.not_true, Bool.not_false, Bool.or_false, Bool.false_or, Bool.true_or, Bool.or_true, Bool.or_self, Bool.false_eq_true, rf_45, rf_47, rf_49, rf_50, rf_51, rf_58, rf_63, rf_65, rf_267, rf45, rf50, rf58, rf63, rf267, ob_45, ob_49, ob_50, ob_58, ob_63, ob_267, ln_46, ln_46n, ln_46m, ln_47, ln_47n, ln_48, ln_48n, ln_51, ln_56, ln_57, ln_59, ln_60, ln_61, ln_62, ln_64, ln_64n, ln_65, ln_268, ln_269, ln_270, ln_270n, ln_271, ln_271n, ln_272, ln_272n, ln_272m, ln_273, ln_274, ln_275, ln_276, ln_277, ln_278, ln_278n, ln_279, ln_280, ln_281, ln_282, ln_283, ln_283n, ln_284, ln_285, ln_286, ln_286n, ln_287, ln_287n, ln_288, ln_289, ln_289n, gF_sF, gF_sG, gF_sI, gF_sJ, gF_sP, gF_sR, gF_sL, gG_sF, gG_sG, gG_sI, gG_sJ, gG_sP, gG_sR, gG_sL, gI_sF, gI_sG, gI_sI, gI_sJ, gI_sP, gI_sR, gI_sL, gJ_sF, gJ_sG, gJ_sI, gJ_sJ, gJ_sP, gJ_sR, gJ_sL, gP_sF, gP_sG, gP_sI, gP_sJ, gP_sP, gP_sR, gP_sL, inB_n, inC_n, iX_n, nI_add, pk_mul, pk_sub, n_and, n_or, n_xor, n_one, n_ush, n_shr, n_div, n_rem, n_ltm, m_ltn, m_ltm, n_eqm, m_eqn, m_eqm, n_lt, n_eq, n_eq0, n_addm, n_i2l, m_i2l, n_l2i, lN_add, lN_mul, lN_sub, l_div, l_rem, l_eq0, lc_lt, lc_gt, lc_eq, l_lt, l_eq, l_ltm, ml_ltn, ml_ltm, l_eqm, ml_eqn, ml_eqm, ls_1, ls_2, ls_3, ls_4, ls_5, ls_6, ls_7, ls_8, ls_10, ls_11, ls_12, ls_13, ls_14, ls_15, ls_16, ls_17, ob_0, ob_9, rf_0, rf_9, g4, d1, b1]
      · obtain ⟨w', a1, a2, a3⟩ := t_line2 (s := i) h hq h5 (by omega) (by omega)
        refine ⟨w', ?_, a2, ?_⟩
        · rw [hl, zR_W [120]]
          simp (disch := omega) only [tt_192, T_192, mx_192, Nat.reduceLT, Nat.reduceLeDiff, Nat.reduceEqDiff, Nat.reduceAdd, Nat.reduceMul, Nat.reduceSub, Nat.reducePow, Nat.reduceMod, Nat.reduceDiv, Nat.reduceBEq, ↓reduceIte, reduceCtorEq, and_true, true_and, and_false, false_and, and_self, zW_eq, zin, zop, zst, fw_ite, fw_K, fw_R, fw_F, fw_C, zBW_s, nth, stL, okL, nlg, ct, ctv, cI, cL, pu, tkC, iniL, pad, eL, Value.category, swK, bz_0, bz_n0, bz_n1, bI_bz, bI_0, bI_t, bI_f, List.headD_cons, decide_true, decide_false, Bool.true_and, Bool.and_true, Bool.false_and, Bool.and_false, Bool.and_self, Bool.not_true, Bool.not_false, Bool.or_false, Bool.false_or, Bool.true_or, Bool.or_true, Bool.or_self, Bool.false_eq_true, rf_45, rf_47, rf_49, rf_50, rf_51, rf_58, rf_63, rf_65, rf_267, rf45, rf50, rf58, rf63, rf267, ob_45, ob_49, ob_50, ob_58, ob_63, ob_267, ln_46, ln_46n, ln_46m, ln_47, ln_47n, ln_48, ln_48n, ln_51, ln_56, ln_57, ln_59, ln_60, ln_61, ln_62, ln_64, ln_64n, ln_65, ln_268, ln_269, ln_270, ln_270n, ln_271, ln_271n, ln_272, ln_272n, ln_272m, ln_273, ln_274, ln_275, ln_276, ln_277, ln_278, ln_278n, ln_279, ln_280, ln_281, ln_282, ln_283, ln_283n, ln_284, ln_285, ln_286, ln_286n, ln_287, ln_287n, ln_288, ln_289, ln_289n, gF_sF, gF_sG, gF_sI, gF_sJ, gF_sP, gF_sR, gF_sL, gG_sF, gG_sG, gG_sI, gG_sJ, gG_sP, gG_sR, gG_sL, gI_sF, gI_sG, gI_sI, gI_sJ, gI_sP, gI_sR, gI_sL, gJ_sF, gJ_sG, gJ_sI, gJ_sJ, gJ_sP, gJ_sR, gJ_sL, gP_sF, gP_sG, gP_sI, gP_sJ, gP_sP, gP_sR, gP_sL, inB_n, inC_n, iX_n, nI_add, pk_mul, pk_sub, n_and, n_or, n_xor, n_one, n_ush, n_shr, n_div, n_rem, n_ltm, m_ltn, m_ltm, n_eqm, m_eqn, m_eqm, n_lt, n_eq, n_eq0, n_addm, n_i2l, m_i2l, n_l2i, lN_add, lN_mul, lN_sub, l_div, l_rem, l_eq0, lc_lt, lc_gt, lc_eq, l_lt, l_eq, l_ltm, ml_ltn, ml_ltm, l_eqm, ml_eqn, ml_eqm, ls_1, ls_2, ls_3, ls_4, ls_5, ls_6, ls_7, ls_8, ls_10, ls_11, ls_12, ls_13, ls_14, ls_15, ls_16, ls_17, ob_0, ob_9, rf_0, rf_9, g4, z, g0, a1]
        · simp only [i6, if_false, z]
          rcases a3 with ⟨f, p, c1, c2⟩ | ⟨f, g, tk', c1, c2, c3, c4⟩
          · exact Or.inl ⟨f, p, c1, c2⟩
          · exact Or.inr ⟨i, f, g, tk', c1, c2, c3, by omega, c4⟩
