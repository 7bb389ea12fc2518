/-! ===== ways: routes ===== -/
def rtS (sc : Sg) (lim : Nat) (F : Nat → Option Nat) (Q : Qu) (d i p : Nat) : Nat := match qd Q p with
  | none => 0
  | some 0 => if inF Q i p = true then 1 else 0
  | some (e + 1) => if e + 1 ≤ d then pSm sc lim F Q i p e % MW else 0
theorem rtS_lt (sc : Sg) (lim : Nat) (F : Nat → Option Nat) (Q : Qu) (d i p : Nat) : rtS sc lim F Q d i p < MW := by
  have hM : (1 : Nat) < MW := by decide
  unfold rtS
  split
  · omega
  · split <;> omega
  · split
    · exact Nat.mod_lt _ (by decide)
    · omega
theorem pSm_n {sc : Sg} {lim : Nat} {F : Nat → Option Nat} {Q : Qu} {i p f : Nat} (hi : i < Q.length) (hF : ¬ F (qa Q i).1 = some f) : pSm sc lim F Q (i + 1) p f = pSm sc lim F Q i p f := by
  unfold pSm
  refine smC_c (fun c _ => ?_)
  rw [inF_s hi]
  unfold nrP
  by_cases z : p ^^^ flS sc c = (qa Q i).1
  · rw [z, decide_eq_false hF]
    simp
  · rw [decide_eq_false z, Bool.or_false]
/-- the counts at a place that is gone on from -/
theorem rt_at {sc : Sg} {lim : Nat} {F : Nat → Option Nat} {Q : Qu} {d i : Nat} (nd : ND Q) (hi : i < Q.length) (so : ∀ i j, i ≤ j → j < Q.length → (qa Q i).2 ≤ (qa Q j).2) (h2 : ∀ q e, F q = some e → e < d → qd Q q = some e) {e : Nat} (he : (qa Q i).2 = e + 1) (hed : e + 1 ≤ d) : rtS sc lim F Q d i (qa Q i).1 = nwN sc lim F (e + 1) (qa Q i).1 % MW := by
  unfold rtS
  rw [qd_qa nd hi, he]
  dsimp only
  rw [if_pos hed, pSm_all (fun q hq => ?_)]
  have hq2 := h2 q e hq (by omega)
  obtain ⟨j, j1, j2⟩ := mem_qa (qd_mem hq2)
  have hji : j < i := by
    by_cases z : j < i
    · exact z
    · have := so i j (by omega) j1
      rw [j2, he] at this
      have : e + 1 ≤ e := this
      omega
  have := inF_t hji (show i ≤ Q.length by omega)
  rw [j2] at this
  exact this
set_option maxHeartbeats 4000000 in
theorem t_routes {sc : Sg} (g : Gd sc) {lim a b c d p0 : Nat} {Q : Qu} {h : Nat} {w : Wd} (F : Nat → Option Nat) (ab : AB a b) (s : SrC sc lim 0 a b Q h w) (qb : QB sc lim 0 Q) (hlim : lim < 2 ^ 31) (h7 : gP w 7 = c) (hca : c ≠ a) (hcb : c ≠ b) (hc58 : c ≠ 58) (hc9 : 9 ≤ c) (lc : lnA c 0 = some 16384) (so : ∀ i j, i ≤ j → j < Q.length → (qa Q i).2 ≤ (qa Q j).2) (h1 : ∀ q e, qd Q q = some e → F q = some e) (h2 : ∀ q e, F q = some e → e < d → qd Q q = some e) (hp0 : p0 < 2 ^ sc.1 4) (hd : qd Q p0 = some d) : ∃ w', zE 84 [.ref 58, .int (nI p0)] w = some (some (.int (nI (nwN sc lim F d p0 % MW))), w') ∧ SmO (fun k => k = c) w w' := by
  have h16 := p14 g
  have hl := qb.len14 g
  have la := ab.la
  have lb := ab.lb
  have p16 : p0 < 16384 := by omega
  have hd20 : d < 16384 := by
    have := (qb.2 _ (qd_mem hd)).2.2
    have : d < 0 + Q.length := this
    omega
  have keep : ∀ W, SmO (fun k => k = c) w W → SrC sc lim 0 a b Q h W ∧ gP W 7 = c := by
    intro W hS
    obtain ⟨s0, s3, s4, s1, s2, s5, s6, sd, sq⟩ := s
    have eP := hS.2 (Ne.symm hc58)
    have e58 := (hS.1 58 (Ne.symm hc58)).1
    exact ⟨⟨s0.fr hS (fun k k1 k2 => by omega), (eP 3).trans s3, (eP 4).trans s4, (e58 1).trans s1, (e58 2).trans s2, (e58 5).trans s5, (e58 6).trans s6, fun p hp => by rw [(hS.1 a (Ne.symm hca)).2.2.1]; exact sd p hp, fun i hi => by rw [(hS.1 b (Ne.symm hcb)).2.2.1]; exact sq i hi⟩, (eP 7).trans h7⟩
  have lp : ∀ f i W X4, i + f = Q.length → RtC sc c (rtS sc lim F Q d i) W → SmO (fun k => k = c) w W → ∃ w', zR 84 17 [.ref 58, .int (nI p0), .ref c, .int (nI i), X4] [] W = some (some (.int (nI (rtS sc lim F Q d Q.length p0))), w') ∧ SmO (fun k => k = c) w w' := by
    intro f
    induction f with
    | zero =>
      intro i W X4 hi hR hS
      have hi : i = Q.length := by omega
      subst hi
      obtain ⟨sW, -⟩ := keep W hS
      have u6 := sW.2.2.2.2.2.2.1
      have r0 := hR p0 hp0
      refine ⟨W, ?_, hS⟩
      rw [zR_W [17]]
      simp (disch := omega) only [tt_84, T_84, mx_84, Nat.reduceLT, Nat.reduceLeDiff, Nat.reduceEqDiff, Nat.reduceAdd, Nat.reduceMul, Nat.reduceSub, Nat.reducePow, Nat.reduceMod, Nat.reduceDiv, Nat.reduceBEq, ↓reduceIte, reduceCtorEq, and_true, true_and, and_false, false_and, and_self, zW_eq, zin, zop, zst, fw_ite, fw_K, fw_R, fw_F, fw_C, zBW_s, nth, stL, okL, nlg, ct, ctv, cI, cL, pu, tkC, iniL, pad, eL, Value.category, swK, bz_0, bz_n0, bz_n1, bI_bz, bI_0, bI_t, bI_f, List.headD_cons, decide_true, decide_false, Bool.true_and, Bool.and_true, Bool.false_and, Bool.and_false, Bool.and_self, Bool.not_true, Bool.not_false, Bool.or_false, Bool.false_or, Bool.true_or, Bool.or_true, Bool.or_self, Bool.false_eq_true, rf_45, rf_47, rf_49, rf_50, rf_51, rf_58, rf_63, rf_65, rf_267, rf45, rf50, rf58, rf63, rf267, ob_45, ob_49, ob_50, ob_58, ob_63, ob_267, ln_46, ln_46n, ln_46m, ln_47, ln_47n, ln_48, ln_48n, ln_51, ln_56, ln_57, ln_59, ln_60, ln_61, ln_62, ln_64, ln_64n, ln_65, ln_268, ln_269, ln_270, ln_270n, ln_271, ln_271n, ln_272, ln_272n, ln_272m, ln_273, ln_274, ln_275, ln_276, ln_277, ln_278, ln_278n, ln_279, ln_280, ln_281, ln_282, ln_283, ln_283n, ln_284, ln_285, ln_286, ln_286n, ln_287, ln_287n, ln_288, ln_289, ln_289n, gF_sF, gF_sG, gF_sI, gF_sJ, gF_sP, gF_sR, gF_sL, gG_sF, gG_sG, gG_sI, gG_sJ, gG_sP, gG_sR, gG_sL, gI_sF, gI_sG, gI_sI, gI_sJ, gI_sP, gI_sR, gI_sL, gJ_sF, gJ_sG, gJ_sI, gJ_sJ, gJ_sP, gJ_sR, gJ_sL, gP_sF, gP_sG, gP_sI, gP_sJ, gP_sP, gP_sR, gP_sL, inB_n, inC_n, iX_n, nI_add, pk_mul, pk_sub, n_and, n_or, n_xor, n_one, n_ush, n_shr, n_div, n_rem, n_ltm, m_ltn, m_ltm, n_eqm, m_eqn, m_eqm, n_lt, n_eq, n_eq0, n_addm, n_i2l, m_i2l, n_l2i, lN_add, lN_mul, lN_sub, l_div, l_rem, l_eq0, lc_lt, lc_gt, lc_eq, l_lt, l_eq, l_ltm, ml_ltn, ml_ltm, l_eqm, ml_eqn, ml_eqm, ls_1, ls_2, ls_3, ls_4, ls_5, ls_6, ls_7, ls_8, ls_10, ls_11, ls_12, ls_13, ls_14, ls_15, ls_16, ls_17, ob_0, ob_9, rf_0, rf_9, u6, Nat.lt_irrefl, lc, p16, r0]
    | succ f ih =>
      intro i W X4 hi hR hS
      have hlt : i < Q.length := by omega
      have i16 : i < 16384 := by omega
      obtain ⟨sW, -⟩ := keep W hS
      have u3 := sW.2.1
      have u4 := sW.2.2.1
      have u6 := sW.2.2.2.2.2.2.1
      obtain ⟨x1, x2, x3⟩ := qb.hd hlt
      have q16 : (qa Q i).1 < 16384 := by omega
      have rq := sW.2.2.2.2.2.2.2.2 i hlt
      have rd := sW.2.2.2.2.2.2.2.1 _ x1
      rw [qd_qa qb.1 hlt] at rd
      have rd : gI W a (qa Q i).1 = nI (qa Q i).2 := rd
      have r0 := sW.2.2.2.2.2.2.2.1 _ hp0
      rw [hd] at r0
      have r0 : gI W a p0 = nI d := r0
      have hFi : F (qa Q i).1 = some (qa Q i).2 := h1 _ _ (qd_qa qb.1 hlt)
      -- the row when a source has been marked
      have step0 : (qa Q i).2 = 0 → RtC sc c (fun p => if p = (qa Q i).1 then 1 else rtS sc lim F Q d i p) (sI W c (qa Q i).1 (nI 1)) := fun _ p hp => by
        rw [gI_sI]
        dsimp only
        by_cases z : p = (qa Q i).1
        · rw [if_pos ⟨rfl, z⟩, if_pos z]
        · rw [if_neg (fun y => z y.2), if_neg z]; exact hR p hp
      have fin : ∀ (R : Nat → Nat) V, RtC sc c R V → (∀ p, p < 2 ^ sc.1 4 → R p = rtS sc lim F Q d (i + 1) p) → SmO (fun k => k = c) w V → ∃ w', zR 84 17 [.ref 58, .int (nI p0), .ref c, .int (nI (i + 1)), .int (nI (qa Q i).1)] [] V = some (some (.int (nI (rtS sc lim F Q d Q.length p0))), w') ∧ SmO (fun k => k = c) w w' := fun R V hV hRp hSV => ih (i + 1) V (.int (nI (qa Q i).1)) (by omega) (fun p hp => by rw [← hRp p hp]; exact hV p hp) hSV
      -- what the next count is
      have nx : ∀ (R : Nat → Nat), (∀ p, R p = if (qa Q i).2 = 0 ∧ p = (qa Q i).1 then 1 else rtS sc lim F Q d i p) → ∀ p, p < 2 ^ sc.1 4 → (qa Q i).2 < d → (if qd Q p = some ((qa Q i).2 + 1) then (R p + aSm sc lim F (qa Q i).1 (qa Q i).2 p 28) % MW else R p) = rtS sc lim F Q d (i + 1) p := by
        intro R hRp p hp hlt2
        rw [hRp p]
        by_cases z : qd Q p = some ((qa Q i).2 + 1)
        · rw [if_pos z]
          have hin := qb.2 _ (qd_mem z)
          have hne : ¬ ((qa Q i).2 = 0 ∧ p = (qa Q i).1) := by
            rintro ⟨-, rfl⟩
            rw [qd_qa qb.1 hlt] at z
            have := Option.some.inj z
            omega
          rw [if_neg hne]
          unfold rtS
          rw [z]
          dsimp only
          rw [if_pos (by omega), if_pos (by omega), pSm_s g qb.1 hlt hFi hin.1 hin.2.1 x1 x2, Nat.mod_add_mod]
        · rw [if_neg z]
          cases hq : qd Q p with
          | none =>
            have hne : ¬ ((qa Q i).2 = 0 ∧ p = (qa Q i).1) := by
              rintro ⟨-, rfl⟩
              rw [qd_qa qb.1 hlt] at hq
              cases hq
            rw [if_neg hne]
            unfold rtS
            rw [hq]
          | some y =>
            cases y with
            | zero =>
              unfold rtS
              rw [hq]
              dsimp only
              rw [inF_s hlt]
              by_cases e : p = (qa Q i).1
              · have : (qa Q i).2 = 0 := by
                  rw [e, qd_qa qb.1 hlt] at hq
                  exact Option.some.inj hq
                rw [if_pos ⟨this, e⟩, decide_eq_true e, Bool.or_true, if_pos rfl]
              · rw [if_neg (fun x => e x.2), decide_eq_false e, Bool.or_false]
            | succ y =>
              have hne : ¬ ((qa Q i).2 = 0 ∧ p = (qa Q i).1) := by
                rintro ⟨h0, rfl⟩
                rw [qd_qa qb.1 hlt] at hq
                have := Option.some.inj hq
                omega
              rw [if_neg hne]
              unfold rtS
              rw [hq]
              dsimp only
              rw [pSm_n hlt (by
                rw [hFi]
                intro x
                have := Option.some.inj x
                rw [hq] at z
                exact z (by rw [this]))]
      have nx2 : ∀ (R : Nat → Nat), (∀ p, R p = if (qa Q i).2 = 0 ∧ p = (qa Q i).1 then 1 else rtS sc lim F Q d i p) → ∀ p, p < 2 ^ sc.1 4 → ¬ (qa Q i).2 < d → R p = rtS sc lim F Q d (i + 1) p := by
        intro R hRp p hp hge
        rw [hRp p]
        cases hq : qd Q p with
        | none =>
          have hne : ¬ ((qa Q i).2 = 0 ∧ p = (qa Q i).1) := by
            rintro ⟨-, rfl⟩
            rw [qd_qa qb.1 hlt] at hq
            cases hq
          rw [if_neg hne]
          unfold rtS
          rw [hq]
        | some y =>
          cases y with
          | zero =>
            unfold rtS
            rw [hq]
            dsimp only
            rw [inF_s hlt]
            by_cases e : p = (qa Q i).1
            · have : (qa Q i).2 = 0 := by
                rw [e, qd_qa qb.1 hlt] at hq
                exact Option.some.inj hq
              rw [if_pos ⟨this, e⟩, decide_eq_true e, Bool.or_true, if_pos rfl]
            · rw [if_neg (fun x => e x.2), decide_eq_false e, Bool.or_false]
          | succ y =>
            have hne : ¬ ((qa Q i).2 = 0 ∧ p = (qa Q i).1) := by
              rintro ⟨h0, rfl⟩
              rw [qd_qa qb.1 hlt] at hq
              have := Option.some.inj hq
              omega
            rw [if_neg hne]
            unfold rtS
            rw [hq]
            dsimp only
            by_cases yd : y + 1 ≤ d
            · rw [if_pos yd, if_pos yd, pSm_n hlt (by
                rw [hFi]
                intro x
                have := Option.some.inj x
                omega)]
            · rw [if_neg yd, if_neg yd]
      have M1 : (1 : Nat) < MW := by decide
      by_cases e0 : (qa Q i).2 = 0
      · have hV := step0 e0
        have hSV : SmO (fun k => k = c) w (sI W c (qa Q i).1 (nI 1)) := hS.tr (SmO.sI rfl)
        have hform : ∀ p, (if p = (qa Q i).1 then 1 else rtS sc lim F Q d i p) = if (qa Q i).2 = 0 ∧ p = (qa Q i).1 then 1 else rtS sc lim F Q d i p := fun p => by
          by_cases z : p = (qa Q i).1
          · rw [if_pos z, if_pos ⟨e0, z⟩]
          · rw [if_neg z, if_neg (fun x => z x.2)]
        by_cases ed : (qa Q i).2 < d
        · obtain ⟨V2, c1, c2, c3⟩ := t_passRoutesOn g F ab (keep _ hSV).1 qb (by decide) hlim hca hcb hc58 hc9 lc hlt _ hV (fun p => by split; exact M1; exact rtS_lt _ _ _ _ _ _ _) (by rw [if_pos rfl, e0]; exact (Nat.mod_eq_of_lt M1).symm)
          obtain ⟨w', k1, k2⟩ := fin _ V2 c2 (fun p hp => nx _ hform p hp ed) (hSV.tr c3)
          refine ⟨w', ?_, k2⟩
          rw [e0] at rd ed
          have rd2 : gI (sI W c (qa Q i).1 (nI 1)) a (qa Q i).1 = nI 0 := by rw [gI_sI, if_neg (fun z => hca z.1.symm)]; exact rd
          have r02 : gI (sI W c (qa Q i).1 (nI 1)) a p0 = nI d := by rw [gI_sI, if_neg (fun z => hca z.1.symm)]; exact r0
          generalize hVV : sI W c (qa Q i).1 (nI 1) = V at *
          have v3 := (keep V hSV).1.2.1
          rw [zR_W [17]]
          simp (disch := omega) only [tt_84, T_84, mx_84, Nat.reduceLT, Nat.reduceLeDiff, Nat.reduceEqDiff, Nat.reduceAdd, Nat.reduceMul, Nat.reduceSub, Nat.reducePow, Nat.reduceMod, Nat.reduceDiv, Nat.reduceBEq, ↓reduceIte, reduceCtorEq, and_true, true_and, and_false, false_and, and_self, zW_eq, zin, zop, zst, fw_ite, fw_K, fw_R, fw_F, fw_C, zBW_s, nth, stL, okL, nlg, ct, ctv, cI, cL, pu, tkC, iniL, pad, eL, Value.category, swK, bz_0, bz_n0, bz_n1, bI_bz, bI_0, bI_t, bI_f, List.headD_cons, decide_true, decide_false, Bool.true_and, Bool.and_true, Bool.false_and, Bool.and_false, Bool.and_self, Bool.not_true, Bool.not_false, Bool.or_false, Bool.false_or, Bool.true_or, Bool.or_true, Bool.or_self, Bool.false_eq_true, rf_45, rf_47, rf_49, rf_50, rf_51, rf_58, rf_63, rf_65, rf_267, rf45, rf50, rf58, rf63, rf267, ob_45, ob_49, ob_50, ob_58, ob_63, ob_267, ln_46, ln_46n, ln_46m, ln_47, ln_47n, ln_48, ln_48n, ln_51, ln_56, ln_57, ln_59, ln_60, ln_61, ln_62, ln_64, ln_64n, ln_65, ln_268, ln_269, ln_270, ln_270n, ln_271, ln_271n, ln_272, ln_272n, ln_272m, ln_273, ln_274, ln_275, ln_276, ln_277, ln_278, ln_278n, ln_279, ln_280, ln_281, ln_282, ln_283, ln_283n, ln_284, ln_285, ln_286, ln_286n, ln_287, ln_287n, ln_288, ln_289, ln_289n, gF_sF, gF_sG, gF_sI, gF_sJ, gF_sP, gF_sR, gF_sL, gG_sF, gG_sG, gG_sI, gG_sJ, gG_sP, gG_sR, gG_sL, gI_sF, gI_sG, gI_sI, gI_sJ, gI_sP, gI_sR, gI_sL, gJ_sF, gJ_sG, gJ_sI, gJ_sJ, gJ_sP, gJ_sR, gJ_sL, gP_sF, gP_sG, gP_sI, gP_sJ, gP_sP, gP_sR, gP_sL, inB_n, inC_n, iX_n, nI_add, pk_mul, pk_sub, n_and, n_or, n_xor, n_one, n_ush, n_shr, n_div, n_rem, n_ltm, m_ltn, m_ltm, n_eqm, m_eqn, m_eqm, n_lt, n_eq, n_eq0, n_addm, n_i2l, m_i2l, n_l2i, lN_add, lN_mul, lN_sub, l_div, l_rem, l_eq0, lc_lt, lc_gt, lc_eq, l_lt, l_eq, l_ltm, ml_ltn, ml_ltm, l_eqm, ml_eqn, ml_eqm, ls_1, ls_2, ls_3, ls_4, ls_5, ls_6, ls_7, ls_8, ls_10, ls_11, ls_12, ls_13, ls_14, ls_15, ls_16, ls_17, ob_0, ob_9, rf_0, rf_9, u6, hlt, u4, lb, i16, rq, u3, la, q16, rd, lc, hVV, v3, rd2, p16, r02, ed, c1, k1]
        · obtain ⟨w', k1, k2⟩ := fin _ _ hV (fun p hp => nx2 _ hform p hp ed) hSV
          refine ⟨w', ?_, k2⟩
          rw [e0] at rd ed
          have rd2 : gI (sI W c (qa Q i).1 (nI 1)) a (qa Q i).1 = nI 0 := by rw [gI_sI, if_neg (fun z => hca z.1.symm)]; exact rd
          have r02 : gI (sI W c (qa Q i).1 (nI 1)) a p0 = nI d := by rw [gI_sI, if_neg (fun z => hca z.1.symm)]; exact r0
          generalize hVV : sI W c (qa Q i).1 (nI 1) = V at *
          have v3 := (keep V hSV).1.2.1
          rw [zR_W [17]]
          simp (disch := omega) only [tt_84, T_84, mx_84, Nat.reduceLT, Nat.reduceLeDiff, Nat.reduceEqDiff, Nat.reduceAdd, Nat.reduceMul, Nat.reduceSub, Nat.reducePow, Nat.reduceMod, Nat.reduceDiv, Nat.reduceBEq, ↓reduceIte, reduceCtorEq, and_true, true_and, and_false, false_and, and_self, zW_eq, zin, zop, zst, fw_ite, fw_K, fw_R, fw_F, fw_C, zBW_s, nth, stL, okL, nlg, ct, ctv, cI, cL, pu, tkC, iniL, pad, eL, Value.category, swK, bz_0, bz_n0, bz_n1, bI_bz, bI_0, bI_t, bI_f, List.headD_cons, decide_true, decide_false, Bool.true_and, Bool.and_true, Bool.false_and, Bool.and_false, Bool.and_self, Bool.not_true, Bool.not_false, Bool.or_false, Bool.false_or, Bool.true_or, Bool.or_true, Bool.or_self, Bool.false_eq_true, rf_45, rf_47, rf_49, rf_50, rf_51, rf_58, rf_63, rf_65, rf_267, rf45, rf50, rf58, rf63, rf267, ob_45, ob_49, ob_50, ob_58, ob_63, ob_267, ln_46, ln_46n, ln_46m, ln_47, ln_47n, ln_48, ln_48n, ln_51, ln_56, ln_57, ln_59, ln_60, ln_61, ln_62, ln_64, ln_64n, ln_65, ln_268, ln_269, ln_270, ln_270n, ln_271, ln_271n, ln_272, ln_272n, ln_272m, ln_273, ln_274, ln_275, ln_276, ln_277, ln_278, ln_278n, ln_279, ln_280, ln_281, ln_282, ln_283, ln_283n, ln_284, ln_285, ln_286, ln_286n, ln_287, ln_287n, ln_288, ln_289, ln_289n, gF_sF, gF_sG, gF_sI, gF_sJ, gF_sP, gF_sR, gF_sL, gG_sF, gG_sG, gG_sI, gG_sJ, gG_sP, gG_sR, gG_sL, gI_sF, gI_sG, gI_sI, gI_sJ, gI_sP, gI_sR, gI_sL, gJ_sF, gJ_sG, gJ_sI, gJ_sJ, gJ_sP, gJ_sR, gJ_sL, gP_sF, gP_sG, gP_sI, gP_sJ, gP_sP, gP_sR, gP_sL, inB_n, inC_n, iX_n, nI_add, pk_mul, pk_sub, n_and, n_or, n_xor, n_one, n_ush, n_shr, n_div, n_rem, n_ltm, m_ltn, m_ltm, n_eqm, m_eqn, m_eqm, n_lt, n_eq, n_eq0, n_addm, n_i2l, m_i2l, n_l2i, lN_add, lN_mul, lN_sub, l_div, l_rem, l_eq0, lc_lt, lc_gt, lc_eq, l_lt, l_eq, l_ltm, ml_ltn, ml_ltm, l_eqm, ml_eqn, ml_eqm, ls_1, ls_2, ls_3, ls_4, ls_5, ls_6, ls_7, ls_8, ls_10, ls_11, ls_12, ls_13, ls_14, ls_15, ls_16, ls_17, ob_0, ob_9, rf_0, rf_9, u6, hlt, u4, lb, i16, rq, u3, la, q16, rd, lc, hVV, v3, rd2, p16, r02, ed, k1]
      · have hform : ∀ p, rtS sc lim F Q d i p = if (qa Q i).2 = 0 ∧ p = (qa Q i).1 then 1 else rtS sc lim F Q d i p := fun p => by rw [if_neg (fun x => e0 x.1)]
        by_cases ed : (qa Q i).2 < d
        · obtain ⟨y, hy⟩ : ∃ y, (qa Q i).2 = y + 1 := ⟨(qa Q i).2 - 1, by omega⟩
          have hat := rt_at (sc := sc) (lim := lim) qb.1 hlt so h2 hy (by omega)
          obtain ⟨V2, c1, c2, c3⟩ := t_passRoutesOn g F ab sW qb (by decide) hlim hca hcb hc58 hc9 lc hlt _ hR (fun p => rtS_lt _ _ _ _ _ _ _) (by rw [hy]; exact hat)
          obtain ⟨w', k1, k2⟩ := fin _ V2 c2 (fun p hp => nx _ hform p hp ed) (hS.tr c3)
          refine ⟨w', ?_, k2⟩
          rw [zR_W [17]]
          simp (disch := omega) only [tt_84, T_84, mx_84, Nat.reduceLT, Nat.reduceLeDiff, Nat.reduceEqDiff, Nat.reduceAdd, Nat.reduceMul, Nat.reduceSub, Nat.reducePow, Nat.reduceMod, Nat.reduceDiv, Nat.reduceBEq, ↓reduceIte, reduceCtorEq, and_true, true_and, and_false, false_and, and_self, zW_eq, zin, zop, zst, fw_ite, fw_K, fw_R, fw_F, fw_C, zBW_s, nth, stL, okL, nlg, ct, ctv, cI, cL, pu, tkC, iniL, pad, eL, Value.category, swK, bz_0, bz_n0, bz_n1, bI_bz, bI_0, bI_t, bI_f, List.headD_cons, decide_true, decide_false, Bool.true_and, Bool.and_true, Bool.false_and, Bool.and_false, Bool.and_self, Bool.not_true, Bool.not_false, Bool.or_false, Bool.false_or, Bool.true_or, Bool.or_true, Bool.or_self, Bool.false_eq_true, rf_45, rf_47, rf_49, rf_50, rf_51, rf_58, rf_63, rf_65, rf_267, rf45, rf50, rf58, rf63, rf267, ob_45, ob_49, ob_50, ob_58, ob_63, ob_267, ln_46, ln_46n, ln_46m, ln_47, ln_47n, ln_48, ln_48n, ln_51, ln_56, ln_57, ln_59, ln_60, ln_61, ln_62, ln_64, ln_64n, ln_65, ln_268, ln_269, ln_270, ln_270n, ln_271, ln_271n, ln_272, ln_272n, ln_272m, ln_273, ln_274, ln_275, ln_276, ln_277, ln_278, ln_278n, ln_279, ln_280, ln_281, ln_282, ln_283, ln_283n, ln_284, ln_285, ln_286, ln_286n, ln_287, ln_287n, ln_288, ln_289, ln_289n, gF_sF, gF_sG, gF_sI, gF_sJ, gF_sP, gF_sR, gF_sL, gG_sF, gG_sG, gG_sI, gG_sJ, gG_sP, gG_sR, gG_sL, gI_sF, gI_sG, gI_sI, gI_sJ, gI_sP, gI_sR, gI_sL, gJ_sF, gJ_sG, gJ_sI, gJ_sJ, gJ_sP, gJ_sR, gJ_sL, gP_sF, gP_sG, gP_sI, gP_sJ, gP_sP, gP_sR, gP_sL, inB_n, inC_n, iX_n, nI_add, pk_mul, pk_sub, n_and, n_or, n_xor, n_one, n_ush, n_shr, n_div, n_rem, n_ltm, m_ltn, m_ltm, n_eqm, m_eqn, m_eqm, n_lt, n_eq, n_eq0, n_addm, n_i2l, m_i2l, n_l2i, lN_add, lN_mul, lN_sub, l_div, l_rem, l_eq0, lc_lt, lc_gt, lc_eq, l_lt, l_eq, l_ltm, ml_ltn, ml_ltm, l_eqm, ml_eqn, ml_eqm, ls_1, ls_2, ls_3, ls_4, ls_5, ls_6, ls_7, ls_8, ls_10, ls_11, ls_12, ls_13, ls_14, ls_15, ls_16, ls_17, ob_0, ob_9, rf_0, rf_9, u6, hlt, u4, lb, i16, rq, u3, la, q16, rd, e0, p16, r0, ed, c1, k1]
        · obtain ⟨w', k1, k2⟩ := fin _ W hR (fun p hp => nx2 _ hform p hp ed) hS
          refine ⟨w', ?_, k2⟩
          rw [zR_W [17]]
          simp (disch := omega) only [tt_84, T_84, mx_84, Nat.reduceLT, Nat.reduceLeDiff, Nat.reduceEqDiff, Nat.reduceAdd, Nat.reduceMul, Nat.reduceSub, Nat.reducePow, Nat.reduceMod, Nat.reduceDiv, Nat.reduceBEq, ↓reduceIte, reduceCtorEq, and_true, true_and, and_false, false_and, and_self, zW_eq, zin, zop, zst, fw_ite, fw_K, fw_R, fw_F, fw_C, zBW_s, nth, stL, okL, nlg, ct, ctv, cI, cL, pu, tkC, iniL, pad, eL, Value.category, swK, bz_0, bz_n0, bz_n1, bI_bz, bI_0, bI_t, bI_f, List.headD_cons, decide_true, decide_false, Bool.true_and, Bool.and_true, Bool.false_and, Bool.and_false, Bool.and_self, Bool.not_true, Bool.not_false, Bool.or_false, Bool.false_or, Bool.true_or, Bool.or_true, Bool.or_self, Bool.false_eq_true, rf_45, rf_47, rf_49, rf_50, rf_51, rf_58, rf_63, rf_65, rf_267, rf45, rf50, rf58, rf63, rf267, ob_45, ob_49, ob_50, ob_58, ob_63, ob_267, ln_46, ln_46n, ln_46m, ln_47, ln_47n, ln_48, ln_48n, ln_51, ln_56, ln_57, ln_59, ln_60, ln_61, ln_62, ln_64, ln_64n, ln_65, ln_268, ln_269, ln_270, ln_270n, ln_271, ln_271n, ln_272, ln_272n, ln_272m, ln_273, ln_274, ln_275, ln_276, ln_277, ln_278, ln_278n, ln_279, ln_280, ln_281, ln_282, ln_283, ln_283n, ln_284, ln_285, ln_286, ln_286n, ln_287, ln_287n, ln_288, ln_289, ln_289n, gF_sF, gF_sG, gF_sI, gF_sJ, gF_sP, gF_sR, gF_sL, gG_sF, gG_sG, gG_sI, gG_sJ, gG_sP, gG_sR, gG_sL, gI_sF, gI_sG, gI_sI, gI_sJ, gI_sP, gI_sR, gI_sL, gJ_sF, gJ_sG, gJ_sI, gJ_sJ, gJ_sP, gJ_sR, gJ_sL, gP_sF, gP_sG, gP_sI, gP_sJ, gP_sP, gP_sR, gP_sL, inB_n, inC_n, iX_n, nI_add, pk_mul, pk_sub, n_and, n_or, n_xor, n_one, n_ush, n_shr, n_div, n_rem, n_ltm, m_ltn, m_ltm, n_eqm, m_eqn, m_eqm, n_lt, n_eq, n_eq0, n_addm, n_i2l, m_i2l, n_l2i, lN_add, lN_mul, lN_sub, l_div, l_rem, l_eq0, lc_lt, lc_gt, lc_eq, l_lt, l_eq, l_ltm, ml_ltn, ml_ltm, l_eqm, ml_eqn, ml_eqm, ls_1, ls_2, ls_3, ls_4, ls_5, ls_6, ls_7, ls_8, ls_10, ls_11, ls_12, ls_13, ls_14, ls_15, ls_16, ls_17, ob_0, ob_9, rf_0, rf_9, u6, hlt, u4, lb, i16, rq, u3, la, q16, rd, e0, p16, r0, ed, k1]
  obtain ⟨w1, f1, f2, f3, f4⟩ := t_fillI (a := c) (n := 16384) (m := 2 ^ sc.1 4) (nI 0) w lc h16 (by decide)
  obtain ⟨w', k1, k2⟩ := lp Q.length 0 w1 jk (Nat.zero_add _) (fun p hp => by
    rw [f2 p hp]
    congr 1
    unfold rtS
    split
    · rfl
    · rw [inF_0, if_neg (by decide)]
    · rw [pSm_0]
      split <;> rfl) f3
  have er : rtS sc lim F Q d Q.length p0 = nwN sc lim F d p0 % MW := by
    obtain ⟨j, j1, j2⟩ := mem_qa (qd_mem hd)
    unfold rtS
    rw [hd]
    cases d with
    | zero =>
      dsimp only
      have := inF_t j1 (Nat.le_refl _)
      rw [j2] at this
      rw [this, if_pos rfl]
      exact (Nat.mod_eq_of_lt (by decide)).symm
    | succ d =>
      dsimp only
      rw [if_pos (Nat.le_refl _), pSm_all (fun q hq => ?_)]
      obtain ⟨u, u1, u2⟩ := mem_qa (qd_mem (h2 q d hq (by omega)))
      have := inF_t u1 (Nat.le_refl _)
      rw [u2] at this
      exact this
  rw [er] at k1
  refine ⟨w', ?_, k2⟩
  rw [zE_W [17]]
  simp (disch := omega) only [tt_84, T_84, mx_84, Nat.reduceLT, Nat.reduceLeDiff, Nat.reduceEqDiff, Nat.reduceAdd, Nat.reduceMul, Nat.reduceSub, Nat.reducePow, Nat.reduceMod, Nat.reduceDiv, Nat.reduceBEq, ↓reduceIte, reduceCtorEq, and_true, true_and, and_false, false_and, and_self, zW_eq, zin, zop, zst, fw_ite, fw_K, fw_R, fw_F, fw_C, zBW_s, nth, stL, okL, nlg, ct, ctv, cI, cL, pu, tkC, iniL, pad, eL, Value.category, swK, bz_0, bz_n0, bz_n1, bI_bz, bI_0, bI_t, bI_f, List.headD_cons, decide_true, decide_false, Bool.true_and, Bool.and_true, Bool.false_and, Bool.and_false, Bool.and_self, Bool.not_true, Bool.not_false, Bool.or_false, Bool.false_or, Bool.true_or, Bool.or_true, Bool.or_self, Bool.false_eq_true, rf_45, rf_47, rf_49, rf_50, rf_51, rf_58, rf_63, rf_65, rf_267, rf45, rf50, rf58, rf63, rf267, ob_45, ob_49, ob_50, ob_58, ob_63, ob_267, ln_46, ln_46n, ln_46m, ln_47, ln_47n, ln_48, ln_48n, ln_51, ln_56, ln_57, ln_59, ln_60, ln_61, ln_62, ln_64, ln_64n, ln_65, ln_268, ln_269, ln_270, ln_270n, ln_271, ln_271n, ln_272, ln_272n, ln_272m, ln_273, ln_274, ln_275, ln_276, ln_277, ln_278, ln_278n, ln_279, ln_280, ln_281, ln_282, ln_283, ln_283n, ln_284, ln_285, ln_286, ln_286n, ln_287, ln_287n, ln_288, ln_289, ln_289n, gF_sF, gF_sG, gF_sI, gF_sJ, gF_sP, gF_sR, gF_sL, gG_sF, gG_sG, gG_sI, gG_sJ, gG_sP, gG_sR, gG_sL, gI_sF, gI_sG, gI_sI, gI_sJ, gI_sP, gI_sR, gI_sL, gJ_sF, gJ_sG, gJ_sI, gJ_sJ, gJ_sP, gJ_sR, gJ_sL, gP_sF, gP_sG, gP_sI, gP_sJ, gP_sP, gP_sR, gP_sL, inB_n, inC_n, iX_n, nI_add, pk_mul, pk_sub, n_and, n_or, n_xor, n_one, n_ush, n_shr, n_div, n_rem, n_ltm, m_ltn, m_ltm, n_eqm, m_eqn, m_eqm, n_lt, n_eq, n_eq0, n_addm, n_i2l, m_i2l, n_l2i, lN_add, lN_mul, lN_sub, l_div, l_rem, l_eq0, lc_lt, lc_gt, lc_eq, l_lt, l_eq, l_ltm, ml_ltn, ml_ltm, l_eqm, ml_eqn, ml_eqm, ls_1, ls_2, ls_3, ls_4, ls_5, ls_6, ls_7, ls_8, ls_10, ls_11, ls_12, ls_13, ls_14, ls_15, ls_16, ls_17, ob_0, ob_9, rf_0, rf_9, h7, t_positions g s.1, f1, k1]
