/-! ===== sum: all that a SUM comes of ===== -/
theorem need_mem {sc : Sg} {v o : Nat} : (needS sc v).testBit o = true ↔ (sc.2 0 v ≠ 0 ∧ (o = sc.2 1 v ∨ (sc.2 0 v ≠ 5 ∧ o = sc.2 2 v))) := by
  unfold needS
  by_cases e0 : sc.2 0 v = 0
  · simp [e0]
  · rw [if_neg e0]
    by_cases e5 : sc.2 0 v = 5
    · rw [if_pos e5, Nat.testBit_two_pow]
      simp [e5]
      exact eq_comm
    · rw [if_neg e5, Nat.testBit_or, Nat.testBit_two_pow, Nat.testBit_two_pow]
      simp [e0, e5]
      constructor
      · rintro (h | h)
        · exact Or.inl h.symm
        · exact Or.inr h.symm
      · rintro (h | h)
        · exact Or.inl h.symm
        · exact Or.inr h.symm
theorem anc_mem {sc : Sg} {v u : Nat} (g : GdV sc v) : (ancS sc v).testBit u = true ↔ ∃ o, (needS sc v).testBit o = true ∧ (u = o ∨ (ancS sc o).testBit u = true) := by
  rw [ancS_eq g]
  unfold ancF
  constructor
  · intro h
    by_cases e0 : sc.2 0 v = 0
    · rw [if_pos e0] at h; simp at h
    · rw [if_neg e0] at h
      by_cases e5 : sc.2 0 v = 5
      · rw [if_pos e5, Nat.testBit_or, Nat.testBit_two_pow] at h
        refine ⟨sc.2 1 v, need_mem.mpr ⟨e0, Or.inl rfl⟩, ?_⟩
        rw [Bool.or_eq_true] at h
        exact h.imp (fun z => (of_decide_eq_true z).symm) id
      · rw [if_neg e5, Nat.testBit_or, Nat.testBit_or, Nat.testBit_or, Nat.testBit_two_pow, Nat.testBit_two_pow] at h
        rw [Bool.or_eq_true, Bool.or_eq_true, Bool.or_eq_true] at h
        rcases h with (z | z) | (z | z)
        · exact ⟨sc.2 1 v, need_mem.mpr ⟨e0, Or.inl rfl⟩, Or.inl (of_decide_eq_true z).symm⟩
        · exact ⟨sc.2 1 v, need_mem.mpr ⟨e0, Or.inl rfl⟩, Or.inr z⟩
        · exact ⟨sc.2 2 v, need_mem.mpr ⟨e0, Or.inr ⟨e5, rfl⟩⟩, Or.inl (of_decide_eq_true z).symm⟩
        · exact ⟨sc.2 2 v, need_mem.mpr ⟨e0, Or.inr ⟨e5, rfl⟩⟩, Or.inr z⟩
  · rintro ⟨o, ho, hu⟩
    obtain ⟨e0, ho⟩ := need_mem.mp ho
    rw [if_neg e0]
    by_cases e5 : sc.2 0 v = 5
    · have : o = sc.2 1 v := by rcases ho with z | z; exact z; exact absurd e5 z.1
      subst this
      rw [if_pos e5, Nat.testBit_or, Nat.testBit_two_pow, Bool.or_eq_true]
      exact hu.imp (fun z => decide_eq_true z.symm) id
    · rw [if_neg e5, Nat.testBit_or, Nat.testBit_or, Nat.testBit_or, Nat.testBit_two_pow, Nat.testBit_two_pow]
      rw [Bool.or_eq_true, Bool.or_eq_true, Bool.or_eq_true]
      rcases ho with z | z
      · subst z
        exact Or.inl (hu.imp (fun z => decide_eq_true z.symm) id)
      · obtain ⟨-, z⟩ := z
        subst z
        exact Or.inr (hu.imp (fun z => decide_eq_true z.symm) id)
theorem tb_lt {a n u : Nat} (h : a < 2 ^ n) (hu : a.testBit u = true) : u < n := by
  by_cases q : u < n
  · exact q
  · rw [Nat.testBit_lt_two_pow (Nat.lt_of_lt_of_le h (Nat.pow_le_pow_right (by decide) (by omega)))] at hu
    cases hu
theorem anc_need {sc : Sg} {v u : Nat} (g : GdV sc v) (h : (needS sc v).testBit u = true) : (ancS sc v).testBit u = true := (anc_mem g).mpr ⟨u, h, Or.inl rfl⟩
theorem anc_tr {sc : Sg} (g : ∀ v, v < sc.1 4 → GdV sc v) : ∀ v, v < sc.1 4 → ∀ a u, (ancS sc v).testBit a = true → (needS sc a).testBit u = true → (ancS sc v).testBit u = true := by
  intro v
  induction v using Nat.strongRecOn with
  | ind v ih =>
    intro hv a u ha hu
    obtain ⟨o, ho, h2⟩ := (anc_mem (g v hv)).mp ha
    have hov := tb_lt (needS_lt (g v hv)) ho
    refine (anc_mem (g v hv)).mpr ⟨o, ho, Or.inr ?_⟩
    rcases h2 with e | h2
    · subst e; exact anc_need (g a (by omega)) hu
    · exact ih o hov (by omega) a u h2 hu
/-- the reference's way: from k - 1 down -/
def anD (sc : Sg) (k : Nat) : Nat → Nat
  | 0 => needS sc k
  | d + 1 => if (anD sc k d).testBit (k - 1 - d) = true then anD sc k d ||| needS sc (k - 1 - d) else anD sc k d
theorem anD_s (sc : Sg) (k d : Nat) : anD sc k (d + 1) = if (anD sc k d).testBit (k - 1 - d) = true then anD sc k d ||| needS sc (k - 1 - d) else anD sc k d := rfl
theorem anD_sub {sc : Sg} (g : ∀ v, v < sc.1 4 → GdV sc v) {k : Nat} (hk : k < sc.1 4) : ∀ d u, (anD sc k d).testBit u = true → (ancS sc k).testBit u = true := by
  intro d
  induction d with
  | zero => intro u hu; exact anc_need (g k hk) hu
  | succ d ih =>
    intro u hu
    rw [anD_s] at hu
    split at hu
    · rename_i ha
      rw [Nat.testBit_or, Bool.or_eq_true] at hu
      rcases hu with hu | hu
      · exact ih u hu
      · exact anc_tr g k hk _ u (ih _ ha) hu
    · exact ih u hu
theorem anD_lt {sc : Sg} (g : ∀ v, v < sc.1 4 → GdV sc v) {k : Nat} (hk : k < sc.1 4) (d : Nat) : anD sc k d < 2 ^ k := by
  refine Nat.lt_pow_two_of_testBit _ (fun i hi => ?_)
  cases h : (anD sc k d).testBit i with
  | false => rfl
  | true =>
    have := tb_lt (ancS_lt g k hk) (anD_sub g hk d i h)
    omega
theorem anD_mono {sc : Sg} {k : Nat} : ∀ d u, (anD sc k d).testBit u = true → (anD sc k (d + 1)).testBit u = true := by
  intro d u hu
  rw [anD_s]
  split
  · rw [Nat.testBit_or, hu]; rfl
  · exact hu
theorem anD_le {sc : Sg} {k : Nat} {d e u : Nat} (h : d ≤ e) (hu : (anD sc k d).testBit u = true) : (anD sc k e).testBit u = true := by
  induction h with
  | refl => exact hu
  | step _ ih => exact anD_mono _ _ ih
/-- what is above the place that was reached stays as it is -/
theorem anD_hi {sc : Sg} (g : ∀ v, v < sc.1 4 → GdV sc v) {k : Nat} (hk : k < sc.1 4) : ∀ d e u, d ≤ e → e ≤ k → k - 1 - d ≤ u → (anD sc k e).testBit u = true → (anD sc k d).testBit u = true := by
  intro d e u hde
  induction hde with
  | refl => intro _ _ h; exact h
  | step hle ih =>
    rename_i e
    have hde : d ≤ e := hle
    intro he hu h
    rw [anD_s] at h
    split at h
    · rw [Nat.testBit_or, Bool.or_eq_true] at h
      rcases h with h | h
      · exact ih (by omega) hu h
      · have := tb_lt (needS_lt (g (k - 1 - e) (by omega))) h
        omega
    · exact ih (by omega) hu h
theorem anD_cl {sc : Sg} (g : ∀ v, v < sc.1 4 → GdV sc v) {k : Nat} (hk : k < sc.1 4) {a u : Nat} (ha : a < k) (h : (anD sc k k).testBit a = true) (hu : (needS sc a).testBit u = true) : (anD sc k k).testBit u = true := by
  have h1 := anD_hi g hk (k - 1 - a) k a (by omega) (Nat.le_refl k) (by omega) h
  have e : k - 1 - (k - 1 - a) = a := by omega
  refine anD_le (d := k - 1 - a + 1) (by omega) ?_
  rw [anD_s, e, if_pos h1, Nat.testBit_or, hu, Bool.or_true]
theorem anD_eq {sc : Sg} (g : ∀ v, v < sc.1 4 → GdV sc v) {k : Nat} (hk : k < sc.1 4) : anD sc k k = ancS sc k := by
  have sup : ∀ o, o < k → (anD sc k k).testBit o = true → ∀ u, (ancS sc o).testBit u = true → (anD sc k k).testBit u = true := by
    intro o
    induction o using Nat.strongRecOn with
    | ind o ih =>
      intro ho hb u hu
      obtain ⟨p, hp, h2⟩ := (anc_mem (g o (by omega))).mp hu
      have hpo := tb_lt (needS_lt (g o (by omega))) hp
      have hpb := anD_cl g hk ho hb hp
      rcases h2 with e | h2
      · subst e; exact hpb
      · exact ih p hpo (by omega) hpb u h2
  apply Nat.eq_of_testBit_eq
  intro u
  have a : (anD sc k k).testBit u = true → (ancS sc k).testBit u = true := anD_sub g hk k u
  have b : (ancS sc k).testBit u = true → (anD sc k k).testBit u = true := by
    intro h
    obtain ⟨o, ho, h2⟩ := (anc_mem (g k hk)).mp h
    have hok := tb_lt (needS_lt (g k hk)) ho
    have hob : (anD sc k k).testBit o = true := anD_le (d := 0) (Nat.zero_le _) ho
    rcases h2 with e | h2
    · subst e; exact hob
    · exact sup o hok hob u h2
  cases h1 : (anD sc k k).testBit u <;> cases h2 : (ancS sc k).testBit u <;> simp_all
theorem pop_bitsP (p : Nat → Bool) : ∀ n, n ≤ 32 → pop (bitsP p n) = cnt p n := by
  intro n
  induction n with
  | zero => intro _; exact pp_0 32
  | succ n ih =>
    intro hn
    have ih := ih (by omega)
    cases h : p n with
    | true =>
      have hz : (bitsP p n).testBit n = false := by rw [bitsP_tb]; simp
      rw [bitsP_t h, cnt_t h, or_xor hz, pop_xc (by omega) hz, ih]
    | false => rw [bitsP_f h, cnt_f h, ih]
theorem t_ancestors {sc : Sg} {w : Wd} {v : Nat} (hT : MoT sc w) (g : Gd sc) (hv : v < sc.1 4) : zE 203 [.ref 267, .int (nI v)] w = some (some (.int (nI (ancS sc v))), w) := by
  have h14 := g.1
  have gg := g.2.2.2.2.2.2.1
  have lp : ∀ i d, i + d = v → zR 203 10 [.ref 267, .int (nI v), .int (nI (anD sc v d)), .int (if i = 0 then mI 1 else nI (i - 1))] [] w = some (some (.int (nI (ancS sc v))), w) := by
    intro i
    induction i with
    | zero =>
      intro d hd
      have hd : d = v := by omega
      rw [hd, anD_eq gg hv, zR_W [10]]
      simp (disch := omega) only [tt_203, T_203, mx_203, Nat.reduceLT, Nat.reduceLeDiff, Nat.reduceEqDiff, Nat.reduceAdd, Nat.reduceMul, Nat.reduceSub, Nat.reducePow, Nat.reduceMod, Nat.reduceDiv, Nat.reduceBEq, ↓reduceIte, reduceCtorEq, and_true, true_and, and_false, false_and, and_self, zW_eq, zin, zop, zst, fw_ite, fw_K, fw_R, fw_F, fw_C, zBW_s, nth, stL, okL, nlg, ct, ctv, cI, cL, pu, tkC, iniL, pad, eL, Value.category, swK, bz_0, bz_n0, bz_n1, bI_bz, bI_0, bI_t, bI_f, List.headD_cons, decide_true, decide_false, Bool.true_and, Bool.and_true, Bool.false_and, Bool.and_false, Bool.and_self, Bool.not_true, Bool.not_false, Bool.or_false, Bool.false_or, Bool.true_or, Bool.or_true, Bool.or_self, Bool.false_eq_true, rf_45, rf_47, rf_49, rf_50, rf_51, rf_58, rf_63, rf_65, rf_267, rf45, rf50, rf58, rf63, rf267, ob_45, ob_49, ob_50, ob_58, ob_63, ob_267, ln_46, ln_46n, ln_46m, ln_47, ln_47n, ln_48, ln_48n, ln_51, ln_56, ln_57, ln_59, ln_60, ln_61, ln_62, ln_64, ln_64n, ln_65, ln_268, ln_269, ln_270, ln_270n, ln_271, ln_271n, ln_272, ln_272n, ln_272m, ln_273, ln_274, ln_275, ln_276, ln_277, ln_278, ln_278n, ln_279, ln_280, ln_281, ln_282, ln_283, ln_283n, ln_284, ln_285, ln_286, ln_286n, ln_287, ln_287n, ln_288, ln_289, ln_289n, gF_sF, gF_sG, gF_sI, gF_sJ, gF_sP, gF_sR, gF_sL, gG_sF, gG_sG, gG_sI, gG_sJ, gG_sP, gG_sR, gG_sL, gI_sF, gI_sG, gI_sI, gI_sJ, gI_sP, gI_sR, gI_sL, gJ_sF, gJ_sG, gJ_sI, gJ_sJ, gJ_sP, gJ_sR, gJ_sL, gP_sF, gP_sG, gP_sI, gP_sJ, gP_sP, gP_sR, gP_sL, inB_n, inC_n, iX_n, nI_add, pk_mul, pk_sub, n_and, n_or, n_xor, n_one, n_ush, n_shr, n_div, n_rem, n_ltm, m_ltn, m_ltm, n_eqm, m_eqn, m_eqm, n_lt, n_eq, n_eq0, n_addm, n_i2l, m_i2l, n_l2i, lN_add, lN_mul, lN_sub, l_div, l_rem, l_eq0, lc_lt, lc_gt, lc_eq, l_lt, l_eq, l_ltm, ml_ltn, ml_ltm, l_eqm, ml_eqn, ml_eqm, ls_1, ls_2, ls_3, ls_4, ls_5, ls_6, ls_7, ls_8, ls_10, ls_11, ls_12, ls_13, ls_14, ls_15, ls_16, ls_17, ob_0, ob_9, rf_0, rf_9]
    | succ i ih =>
      intro d hd
      have hlt := anD_lt gg hv d
      have h214 : 2 ^ v < 2 ^ 14 := p2_lt (by omega)
      have hih := ih (d + 1) (by omega)
      have e : v - 1 - d = i := by omega
      rw [anD_s, e] at hih
      rw [zR_W [10]]
      have hi2 : i < sc.1 4 := by omega
      have e3 : nI i + mI 1 = (if i = 0 then mI 1 else nI (i - 1)) := by
        by_cases z : i = 0
        · rw [if_pos z, z]; decide +kernel
        · rw [if_neg z, n_addm (by omega)]
      rw [if_neg (by omega), Nat.add_sub_cancel]
      have ne01 : (nI 0 = nI 1) = False := eq_false (by decide)
      cases hb : (anD sc v d).testBit i with
      | true =>
        rw [hb, if_pos rfl] at hih
        rw [← e3] at hih
        generalize hQ : nI i + mI 1 = Q at hih
        simp (disch := omega) only [tt_203, T_203, mx_203, Nat.reduceLT, Nat.reduceLeDiff, Nat.reduceEqDiff, Nat.reduceAdd, Nat.reduceMul, Nat.reduceSub, Nat.reducePow, Nat.reduceMod, Nat.reduceDiv, Nat.reduceBEq, ↓reduceIte, reduceCtorEq, and_true, true_and, and_false, false_and, and_self, zW_eq, zin, zop, zst, fw_ite, fw_K, fw_R, fw_F, fw_C, zBW_s, nth, stL, okL, nlg, ct, ctv, cI, cL, pu, tkC, iniL, pad, eL, Value.category, swK, bz_0, bz_n0, bz_n1, bI_bz, bI_0, bI_t, bI_f, List.headD_cons, decide_true, decide_false, Bool.true_and, Bool.and_true, Bool.false_and, Bool.and_false, Bool.and_self, Bool.not_true, Bool.not_false, Bool.or_false, Bool.false_or, Bool.true_or, Bool.or_true, Bool.or_self, Bool.false_eq_true, rf_45, rf_47, rf_49, rf_50, rf_51, rf_58, rf_63, rf_65, rf_267, rf45, rf50, rf58, rf63, rf267, ob_45, ob_49, ob_50, ob_58, ob_63, ob_267, ln_46, ln_46n, ln_46m, ln_47, ln_47n, ln_48, ln_48n, ln_51, ln_56, ln_57, ln_59, ln_60, ln_61, ln_62, ln_64, ln_64n, ln_65, ln_268, ln_269, ln_270, ln_270n, ln_271, ln_271n, ln_272, ln_272n, ln_272m, ln_273, ln_274, ln_275, ln_276, ln_277, ln_278, ln_278n, ln_279, ln_280, ln_281, ln_282, ln_283, ln_283n, ln_284, ln_285, ln_286, ln_286n, ln_287, ln_287n, ln_288, ln_289, ln_289n, gF_sF, gF_sG, gF_sI, gF_sJ, gF_sP, gF_sR, gF_sL, gG_sF, gG_sG, gG_sI, gG_sJ, gG_sP, gG_sR, gG_sL, gI_sF, gI_sG, gI_sI, gI_sJ, gI_sP, gI_sR, gI_sL, gJ_sF, gJ_sG, gJ_sI, gJ_sJ, gJ_sP, gJ_sR, gJ_sL, gP_sF, gP_sG, gP_sI, gP_sJ, gP_sP, gP_sR, gP_sL, inB_n, inC_n, iX_n, nI_add, pk_mul, pk_sub, n_and, n_or, n_xor, n_one, n_ush, n_shr, n_div, n_rem, n_ltm, m_ltn, m_ltm, n_eqm, m_eqn, m_eqm, n_lt, n_eq, n_eq0, n_addm, n_i2l, m_i2l, n_l2i, lN_add, lN_mul, lN_sub, l_div, l_rem, l_eq0, lc_lt, lc_gt, lc_eq, l_lt, l_eq, l_ltm, ml_ltn, ml_ltm, l_eqm, ml_eqn, ml_eqm, ls_1, ls_2, ls_3, ls_4, ls_5, ls_6, ls_7, ls_8, ls_10, ls_11, ls_12, ls_13, ls_14, ls_15, ls_16, ls_17, ob_0, ob_9, rf_0, rf_9, bitV, hb, t_needs hT g hi2, hQ, hih, Nat.not_lt_zero]
      | false =>
        rw [hb, if_neg (by decide)] at hih
        rw [← e3] at hih
        generalize hQ : nI i + mI 1 = Q at hih
        simp (disch := omega) only [tt_203, T_203, mx_203, Nat.reduceLT, Nat.reduceLeDiff, Nat.reduceEqDiff, Nat.reduceAdd, Nat.reduceMul, Nat.reduceSub, Nat.reducePow, Nat.reduceMod, Nat.reduceDiv, Nat.reduceBEq, ↓reduceIte, reduceCtorEq, and_true, true_and, and_false, false_and, and_self, zW_eq, zin, zop, zst, fw_ite, fw_K, fw_R, fw_F, fw_C, zBW_s, nth, stL, okL, nlg, ct, ctv, cI, cL, pu, tkC, iniL, pad, eL, Value.category, swK, bz_0, bz_n0, bz_n1, bI_bz, bI_0, bI_t, bI_f, List.headD_cons, decide_true, decide_false, Bool.true_and, Bool.and_true, Bool.false_and, Bool.and_false, Bool.and_self, Bool.not_true, Bool.not_false, Bool.or_false, Bool.false_or, Bool.true_or, Bool.or_true, Bool.or_self, Bool.false_eq_true, rf_45, rf_47, rf_49, rf_50, rf_51, rf_58, rf_63, rf_65, rf_267, rf45, rf50, rf58, rf63, rf267, ob_45, ob_49, ob_50, ob_58, ob_63, ob_267, ln_46, ln_46n, ln_46m, ln_47, ln_47n, ln_48, ln_48n, ln_51, ln_56, ln_57, ln_59, ln_60, ln_61, ln_62, ln_64, ln_64n, ln_65, ln_268, ln_269, ln_270, ln_270n, ln_271, ln_271n, ln_272, ln_272n, ln_272m, ln_273, ln_274, ln_275, ln_276, ln_277, ln_278, ln_278n, ln_279, ln_280, ln_281, ln_282, ln_283, ln_283n, ln_284, ln_285, ln_286, ln_286n, ln_287, ln_287n, ln_288, ln_289, ln_289n, gF_sF, gF_sG, gF_sI, gF_sJ, gF_sP, gF_sR, gF_sL, gG_sF, gG_sG, gG_sI, gG_sJ, gG_sP, gG_sR, gG_sL, gI_sF, gI_sG, gI_sI, gI_sJ, gI_sP, gI_sR, gI_sL, gJ_sF, gJ_sG, gJ_sI, gJ_sJ, gJ_sP, gJ_sR, gJ_sL, gP_sF, gP_sG, gP_sI, gP_sJ, gP_sP, gP_sR, gP_sL, inB_n, inC_n, iX_n, nI_add, pk_mul, pk_sub, n_and, n_or, n_xor, n_one, n_ush, n_shr, n_div, n_rem, n_ltm, m_ltn, m_ltm, n_eqm, m_eqn, m_eqm, n_lt, n_eq, n_eq0, n_addm, n_i2l, m_i2l, n_l2i, lN_add, lN_mul, lN_sub, l_div, l_rem, l_eq0, lc_lt, lc_gt, lc_eq, l_lt, l_eq, l_ltm, ml_ltn, ml_ltm, l_eqm, ml_eqn, ml_eqm, ls_1, ls_2, ls_3, ls_4, ls_5, ls_6, ls_7, ls_8, ls_10, ls_11, ls_12, ls_13, ls_14, ls_15, ls_16, ls_17, ob_0, ob_9, rf_0, rf_9, bitV, hb, ne01, hQ, hih, Nat.not_lt_zero]
  have h0 := lp v 0 (Nat.add_zero _)
  have e0 : nI v - nI 1 = (if v = 0 then mI 1 else nI (v - 1)) := by
    by_cases z : v = 0
    · rw [if_pos z, z]; decide +kernel
    · rw [if_neg z, pk_sub (by omega)]
  rw [← e0] at h0
  rw [zE_W [10]]
  generalize hQ : nI v - nI 1 = Q at h0
  simp (disch := omega) only [tt_203, T_203, mx_203, Nat.reduceLT, Nat.reduceLeDiff, Nat.reduceEqDiff, Nat.reduceAdd, Nat.reduceMul, Nat.reduceSub, Nat.reducePow, Nat.reduceMod, Nat.reduceDiv, Nat.reduceBEq, ↓reduceIte, reduceCtorEq, and_true, true_and, and_false, false_and, and_self, zW_eq, zin, zop, zst, fw_ite, fw_K, fw_R, fw_F, fw_C, zBW_s, nth, stL, okL, nlg, ct, ctv, cI, cL, pu, tkC, iniL, pad, eL, Value.category, swK, bz_0, bz_n0, bz_n1, bI_bz, bI_0, bI_t, bI_f, List.headD_cons, decide_true, decide_false, Bool.true_and, Bool.and_true, Bool.false_and, Bool.and_false, Bool.and_self, Bool.not_true, Bool.not_false, Bool.or_false, Bool.false_or, Bool.true_or, Bool.or_true, Bool.or_self, Bool.false_eq_true, rf_45, rf_47, rf_49, rf_50, rf_51, rf_58, rf_63, rf_65, rf_267, rf45, rf50, rf58, rf63, rf267, ob_45, ob_49, ob_50, ob_58, ob_63, ob_267, ln_46, ln_46n, ln_46m, ln_47, ln_47n, ln_48, ln_48n, ln_51, ln_56, ln_57, ln_59, ln_60, ln_61, ln_62, ln_64, ln_64n, ln_65, ln_268, ln_269, ln_270, ln_270n, ln_271, ln_271n, ln_272, ln_272n, ln_272m, ln_273, ln_274, ln_275, ln_276, ln_277, ln_278, ln_278n, ln_279, ln_280, ln_281, ln_282, ln_283, ln_283n, ln_284, ln_285, ln_286, ln_286n, ln_287, ln_287n, ln_288, ln_289, ln_289n, gF_sF, gF_sG, gF_sI, gF_sJ, gF_sP, gF_sR, gF_sL, gG_sF, gG_sG, gG_sI, gG_sJ, gG_sP, gG_sR, gG_sL, gI_sF, gI_sG, gI_sI, gI_sJ, gI_sP, gI_sR, gI_sL, gJ_sF, gJ_sG, gJ_sI, gJ_sJ, gJ_sP, gJ_sR, gJ_sL, gP_sF, gP_sG, gP_sI, gP_sJ, gP_sP, gP_sR, gP_sL, inB_n, inC_n, iX_n, nI_add, pk_mul, pk_sub, n_and, n_or, n_xor, n_one, n_ush, n_shr, n_div, n_rem, n_ltm, m_ltn, m_ltm, n_eqm, m_eqn, m_eqm, n_lt, n_eq, n_eq0, n_addm, n_i2l, m_i2l, n_l2i, lN_add, lN_mul, lN_sub, l_div, l_rem, l_eq0, lc_lt, lc_gt, lc_eq, l_lt, l_eq, l_ltm, ml_ltn, ml_ltm, l_eqm, ml_eqn, ml_eqm, ls_1, ls_2, ls_3, ls_4, ls_5, ls_6, ls_7, ls_8, ls_10, ls_11, ls_12, ls_13, ls_14, ls_15, ls_16, ls_17, ob_0, ob_9, rf_0, rf_9, t_needs hT g hv, hQ]
  exact h0
set_option maxRecDepth 100000 in
set_option maxHeartbeats 16000000 in
theorem pr_sum {A : Ab} {w : Wd} (h : Rel A w) (x y : Int32) : Pair 109 206 [.int x, .int y] A w := by
  have hc := h.cC
  have g := h.g
  have gg := g.2.2.2.2.2.2.1
  have h14 := g.1
  have hT : MoT A.2.2.1 w := h.2.1.2.2.1.1
  have hT1 : MoT A.2.2.1 (sF w 267 0 (nI 0)) := hT
  have hB : MoB 0 A.2.2.1 w := h.2.1.2.2.1.2
  have hB1 : MoB 0 A.2.2.1 (sF w 267 0 (nI 0)) := hB
  have hT2 : MoT A.2.2.1 (wDep A.2.2.1 (sF w 267 0 (nI 0))) := wDep_T hT1
  have hB2 : MoB 0 A.2.2.1 (wDep A.2.2.1 (sF w 267 0 (nI 0))) := wDep_B hB1
  have hK2 : MoKeep w (wDep A.2.2.1 (sF w 267 0 (nI 0))) := (MoKeep.sF w 0 _ (by decide)).tr (MoKeep.sR _ _ _ (by decide))
  have key : ∀ r, zE 109 [.ref 45, .int x, .int y] w = some (some (.int r), w) → zE 206 [.ref 267, .int x, .int y] w = some (some (.int r), sF w 267 0 (nI 0)) → Pair 109 206 [.int x, .int y] A w := fun r e1 e2 => Pair.of (by simp [okV]) h.1 h.wp e1 h.1 e2 (keep0 h.2.1 h.2.2 (MoKeep.sF w 0 _ (by decide)) hT hB) h.2.2
  have key2 : ∀ r, zE 109 [.ref 45, .int x, .int y] w = some (some (.int r), w) → zE 206 [.ref 267, .int x, .int y] w = some (some (.int r), wDep A.2.2.1 (sF w 267 0 (nI 0))) → Pair 109 206 [.int x, .int y] A w := fun r e1 e2 => Pair.of (by simp [okV]) h.1 h.wp e1 h.1 e2 (keep0 h.2.1 h.2.2 hK2 hT2 hB2) h.2.2
  rcases isNat_cases x (n := A.2.2.1.1 4) (by omega) with ⟨v, hv, rfl⟩ | e
  · have hv14 : v < 14 := by omega
    have ht := isNat_t hv (by omega)
    have hA := hc.2.2.1 v hv
    simp only [Nat.zero_add] at hA
    have hM := hT.2.2 v hv
    have b0 : 3 * v < 252 := by omega
    have b1 : 3 * v + 1 < 252 := by omega
    have b2 : 3 * v + 2 < 252 := by omega
    rcases out_of y 0 5 with ⟨a, -, ha, rfl⟩ | ho
    · have ha6 : a = 0 ∨ a = 1 ∨ a = 2 ∨ a = 3 ∨ a = 4 ∨ a = 5 := by omega
      rcases ha6 with rfl | rfl | rfl | rfl | rfl | rfl
      · refine key (nI (A.2.2.1.2 0 v)) ?_ ?_
        · rw [zE_W []]
          simp (disch := omega) only [tt_109, T_109, mx_109, Nat.reduceLT, Nat.reduceLeDiff, Nat.reduceEqDiff, Nat.reduceAdd, Nat.reduceMul, Nat.reduceSub, Nat.reducePow, Nat.reduceMod, Nat.reduceDiv, Nat.reduceBEq, ↓reduceIte, reduceCtorEq, and_true, true_and, and_false, false_and, and_self, zW_eq, zin, zop, zst, fw_ite, fw_K, fw_R, fw_F, fw_C, zBW_s, nth, stL, okL, nlg, ct, ctv, cI, cL, pu, tkC, iniL, pad, eL, Value.category, swK, bz_0, bz_n0, bz_n1, bI_bz, bI_0, bI_t, bI_f, List.headD_cons, decide_true, decide_false, Bool.true_and, Bool.and_true, Bool.false_and, Bool.and_false, Bool.and_self, Bool.not_true, Bool.not_false, Bool.or_false, Bool.false_or, Bool.true_or, Bool.or_true, Bool.or_self, Bool.false_eq_true, rf_45, rf_47, rf_49, rf_50, rf_51, rf_58, rf_63, rf_65, rf_267, rf45, rf50, rf58, rf63, rf267, ob_45, ob_49, ob_50, ob_58, ob_63, ob_267, ln_46, ln_46n, ln_46m, ln_47, ln_47n, ln_48, ln_48n, ln_51, ln_56, ln_57, ln_59, ln_60, ln_61, ln_62, ln_64, ln_64n, ln_65, ln_268, ln_269, ln_270, ln_270n, ln_271, ln_271n, ln_272, ln_272n, ln_272m, ln_273, ln_274, ln_275, ln_276, ln_277, ln_278, ln_278n, ln_279, ln_280, ln_281, ln_282, ln_283, ln_283n, ln_284, ln_285, ln_286, ln_286n, ln_287, ln_287n, ln_288, ln_289, ln_289n, gF_sF, gF_sG, gF_sI, gF_sJ, gF_sP, gF_sR, gF_sL, gG_sF, gG_sG, gG_sI, gG_sJ, gG_sP, gG_sR, gG_sL, gI_sF, gI_sG, gI_sI, gI_sJ, gI_sP, gI_sR, gI_sL, gJ_sF, gJ_sG, gJ_sI, gJ_sJ, gJ_sP, gJ_sR, gJ_sL, gP_sF, gP_sG, gP_sI, gP_sJ, gP_sP, gP_sR, gP_sL, inB_n, inC_n, iX_n, nI_add, pk_mul, pk_sub, n_and, n_or, n_xor, n_one, n_ush, n_shr, n_div, n_rem, n_ltm, m_ltn, m_ltm, n_eqm, m_eqn, m_eqm, n_lt, n_eq, n_eq0, n_addm, n_i2l, m_i2l, n_l2i, lN_add, lN_mul, lN_sub, l_div, l_rem, l_eq0, lc_lt, lc_gt, lc_eq, l_lt, l_eq, l_ltm, ml_ltn, ml_ltm, l_eqm, ml_eqn, ml_eqm, ls_1, ls_2, ls_3, ls_4, ls_5, ls_6, ls_7, ls_8, ls_10, ls_11, ls_12, ls_13, ls_14, ls_15, ls_16, ls_17, ob_0, ob_9, rf_0, rf_9, t_cNoSum h.1 g, ht, hA, hv14]
        · rw [zE_W []]
          simp (disch := omega) only [tt_206, T_206, mx_206, Nat.reduceLT, Nat.reduceLeDiff, Nat.reduceEqDiff, Nat.reduceAdd, Nat.reduceMul, Nat.reduceSub, Nat.reducePow, Nat.reduceMod, Nat.reduceDiv, Nat.reduceBEq, ↓reduceIte, reduceCtorEq, and_true, true_and, and_false, false_and, and_self, zW_eq, zin, zop, zst, fw_ite, fw_K, fw_R, fw_F, fw_C, zBW_s, nth, stL, okL, nlg, ct, ctv, cI, cL, pu, tkC, iniL, pad, eL, Value.category, swK, bz_0, bz_n0, bz_n1, bI_bz, bI_0, bI_t, bI_f, List.headD_cons, decide_true, decide_false, Bool.true_and, Bool.and_true, Bool.false_and, Bool.and_false, Bool.and_self, Bool.not_true, Bool.not_false, Bool.or_false, Bool.false_or, Bool.true_or, Bool.or_true, Bool.or_self, Bool.false_eq_true, rf_45, rf_47, rf_49, rf_50, rf_51, rf_58, rf_63, rf_65, rf_267, rf45, rf50, rf58, rf63, rf267, ob_45, ob_49, ob_50, ob_58, ob_63, ob_267, ln_46, ln_46n, ln_46m, ln_47, ln_47n, ln_48, ln_48n, ln_51, ln_56, ln_57, ln_59, ln_60, ln_61, ln_62, ln_64, ln_64n, ln_65, ln_268, ln_269, ln_270, ln_270n, ln_271, ln_271n, ln_272, ln_272n, ln_272m, ln_273, ln_274, ln_275, ln_276, ln_277, ln_278, ln_278n, ln_279, ln_280, ln_281, ln_282, ln_283, ln_283n, ln_284, ln_285, ln_286, ln_286n, ln_287, ln_287n, ln_288, ln_289, ln_289n, gF_sF, gF_sG, gF_sI, gF_sJ, gF_sP, gF_sR, gF_sL, gG_sF, gG_sG, gG_sI, gG_sJ, gG_sP, gG_sR, gG_sL, gI_sF, gI_sG, gI_sI, gI_sJ, gI_sP, gI_sR, gI_sL, gJ_sF, gJ_sG, gJ_sI, gJ_sJ, gJ_sP, gJ_sR, gJ_sL, gP_sF, gP_sG, gP_sI, gP_sJ, gP_sP, gP_sR, gP_sL, inB_n, inC_n, iX_n, nI_add, pk_mul, pk_sub, n_and, n_or, n_xor, n_one, n_ush, n_shr, n_div, n_rem, n_ltm, m_ltn, m_ltm, n_eqm, m_eqn, m_eqm, n_lt, n_eq, n_eq0, n_addm, n_i2l, m_i2l, n_l2i, lN_add, lN_mul, lN_sub, l_div, l_rem, l_eq0, lc_lt, lc_gt, lc_eq, l_lt, l_eq, l_ltm, ml_ltn, ml_ltm, l_eqm, ml_eqn, ml_eqm, ls_1, ls_2, ls_3, ls_4, ls_5, ls_6, ls_7, ls_8, ls_10, ls_11, ls_12, ls_13, ls_14, ls_15, ls_16, ls_17, ob_0, ob_9, rf_0, rf_9, t_isSum hT1 g, ht, t_in, hM, b0, Nat.add_zero, Nat.not_lt_zero]
      · refine key (nI (A.2.2.1.2 1 v)) ?_ ?_
        · rw [zE_W []]
          simp (disch := omega) only [tt_109, T_109, mx_109, Nat.reduceLT, Nat.reduceLeDiff, Nat.reduceEqDiff, Nat.reduceAdd, Nat.reduceMul, Nat.reduceSub, Nat.reducePow, Nat.reduceMod, Nat.reduceDiv, Nat.reduceBEq, ↓reduceIte, reduceCtorEq, and_true, true_and, and_false, false_and, and_self, zW_eq, zin, zop, zst, fw_ite, fw_K, fw_R, fw_F, fw_C, zBW_s, nth, stL, okL, nlg, ct, ctv, cI, cL, pu, tkC, iniL, pad, eL, Value.category, swK, bz_0, bz_n0, bz_n1, bI_bz, bI_0, bI_t, bI_f, List.headD_cons, decide_true, decide_false, Bool.true_and, Bool.and_true, Bool.false_and, Bool.and_false, Bool.and_self, Bool.not_true, Bool.not_false, Bool.or_false, Bool.false_or, Bool.true_or, Bool.or_true, Bool.or_self, Bool.false_eq_true, rf_45, rf_47, rf_49, rf_50, rf_51, rf_58, rf_63, rf_65, rf_267, rf45, rf50, rf58, rf63, rf267, ob_45, ob_49, ob_50, ob_58, ob_63, ob_267, ln_46, ln_46n, ln_46m, ln_47, ln_47n, ln_48, ln_48n, ln_51, ln_56, ln_57, ln_59, ln_60, ln_61, ln_62, ln_64, ln_64n, ln_65, ln_268, ln_269, ln_270, ln_270n, ln_271, ln_271n, ln_272, ln_272n, ln_272m, ln_273, ln_274, ln_275, ln_276, ln_277, ln_278, ln_278n, ln_279, ln_280, ln_281, ln_282, ln_283, ln_283n, ln_284, ln_285, ln_286, ln_286n, ln_287, ln_287n, ln_288, ln_289, ln_289n, gF_sF, gF_sG, gF_sI, gF_sJ, gF_sP, gF_sR, gF_sL, gG_sF, gG_sG, gG_sI, gG_sJ, gG_sP, gG_sR, gG_sL, gI_sF, gI_sG, gI_sI, gI_sJ, gI_sP, gI_sR, gI_sL, gJ_sF, gJ_sG, gJ_sI, gJ_sJ, gJ_sP, gJ_sR, gJ_sL, gP_sF, gP_sG, gP_sI, gP_sJ, gP_sP, gP_sR, gP_sL, inB_n, inC_n, iX_n, nI_add, pk_mul, pk_sub, n_and, n_or, n_xor, n_one, n_ush, n_shr, n_div, n_rem, n_ltm, m_ltn, m_ltm, n_eqm, m_eqn, m_eqm, n_lt, n_eq, n_eq0, n_addm, n_i2l, m_i2l, n_l2i, lN_add, lN_mul, lN_sub, l_div, l_rem, l_eq0, lc_lt, lc_gt, lc_eq, l_lt, l_eq, l_ltm, ml_ltn, ml_ltm, l_eqm, ml_eqn, ml_eqm, ls_1, ls_2, ls_3, ls_4, ls_5, ls_6, ls_7, ls_8, ls_10, ls_11, ls_12, ls_13, ls_14, ls_15, ls_16, ls_17, ob_0, ob_9, rf_0, rf_9, t_cNoSum h.1 g, ht, hA, hv14]
        · rw [zE_W []]
          simp (disch := omega) only [tt_206, T_206, mx_206, Nat.reduceLT, Nat.reduceLeDiff, Nat.reduceEqDiff, Nat.reduceAdd, Nat.reduceMul, Nat.reduceSub, Nat.reducePow, Nat.reduceMod, Nat.reduceDiv, Nat.reduceBEq, ↓reduceIte, reduceCtorEq, and_true, true_and, and_false, false_and, and_self, zW_eq, zin, zop, zst, fw_ite, fw_K, fw_R, fw_F, fw_C, zBW_s, nth, stL, okL, nlg, ct, ctv, cI, cL, pu, tkC, iniL, pad, eL, Value.category, swK, bz_0, bz_n0, bz_n1, bI_bz, bI_0, bI_t, bI_f, List.headD_cons, decide_true, decide_false, Bool.true_and, Bool.and_true, Bool.false_and, Bool.and_false, Bool.and_self, Bool.not_true, Bool.not_false, Bool.or_false, Bool.false_or, Bool.true_or, Bool.or_true, Bool.or_self, Bool.false_eq_true, rf_45, rf_47, rf_49, rf_50, rf_51, rf_58, rf_63, rf_65, rf_267, rf45, rf50, rf58, rf63, rf267, ob_45, ob_49, ob_50, ob_58, ob_63, ob_267, ln_46, ln_46n, ln_46m, ln_47, ln_47n, ln_48, ln_48n, ln_51, ln_56, ln_57, ln_59, ln_60, ln_61, ln_62, ln_64, ln_64n, ln_65, ln_268, ln_269, ln_270, ln_270n, ln_271, ln_271n, ln_272, ln_272n, ln_272m, ln_273, ln_274, ln_275, ln_276, ln_277, ln_278, ln_278n, ln_279, ln_280, ln_281, ln_282, ln_283, ln_283n, ln_284, ln_285, ln_286, ln_286n, ln_287, ln_287n, ln_288, ln_289, ln_289n, gF_sF, gF_sG, gF_sI, gF_sJ, gF_sP, gF_sR, gF_sL, gG_sF, gG_sG, gG_sI, gG_sJ, gG_sP, gG_sR, gG_sL, gI_sF, gI_sG, gI_sI, gI_sJ, gI_sP, gI_sR, gI_sL, gJ_sF, gJ_sG, gJ_sI, gJ_sJ, gJ_sP, gJ_sR, gJ_sL, gP_sF, gP_sG, gP_sI, gP_sJ, gP_sP, gP_sR, gP_sL, inB_n, inC_n, iX_n, nI_add, pk_mul, pk_sub, n_and, n_or, n_xor, n_one, n_ush, n_shr, n_div, n_rem, n_ltm, m_ltn, m_ltm, n_eqm, m_eqn, m_eqm, n_lt, n_eq, n_eq0, n_addm, n_i2l, m_i2l, n_l2i, lN_add, lN_mul, lN_sub, l_div, l_rem, l_eq0, lc_lt, lc_gt, lc_eq, l_lt, l_eq, l_ltm, ml_ltn, ml_ltm, l_eqm, ml_eqn, ml_eqm, ls_1, ls_2, ls_3, ls_4, ls_5, ls_6, ls_7, ls_8, ls_10, ls_11, ls_12, ls_13, ls_14, ls_15, ls_16, ls_17, ob_0, ob_9, rf_0, rf_9, t_isSum hT1 g, ht, t_in, hM, b1, Nat.not_lt_zero]
      · have hA3 := hA.2.2.1
        have hM3 := hM.2.2
        refine key (if A.2.2.1.2 0 v = 0 then mI 1 else nI (A.2.2.1.2 2 v)) ?_ ?_
        · rw [zE_W []]
          generalize (if A.2.2.1.2 0 v = 0 then mI 1 else nI (A.2.2.1.2 2 v)) = Q at hA3 ⊢
          simp (disch := omega) only [tt_109, T_109, mx_109, Nat.reduceLT, Nat.reduceLeDiff, Nat.reduceEqDiff, Nat.reduceAdd, Nat.reduceMul, Nat.reduceSub, Nat.reducePow, Nat.reduceMod, Nat.reduceDiv, Nat.reduceBEq, ↓reduceIte, reduceCtorEq, and_true, true_and, and_false, false_and, and_self, zW_eq, zin, zop, zst, fw_ite, fw_K, fw_R, fw_F, fw_C, zBW_s, nth, stL, okL, nlg, ct, ctv, cI, cL, pu, tkC, iniL, pad, eL, Value.category, swK, bz_0, bz_n0, bz_n1, bI_bz, bI_0, bI_t, bI_f, List.headD_cons, decide_true, decide_false, Bool.true_and, Bool.and_true, Bool.false_and, Bool.and_false, Bool.and_self, Bool.not_true, Bool.not_false, Bool.or_false, Bool.false_or, Bool.true_or, Bool.or_true, Bool.or_self, Bool.false_eq_true, rf_45, rf_47, rf_49, rf_50, rf_51, rf_58, rf_63, rf_65, rf_267, rf45, rf50, rf58, rf63, rf267, ob_45, ob_49, ob_50, ob_58, ob_63, ob_267, ln_46, ln_46n, ln_46m, ln_47, ln_47n, ln_48, ln_48n, ln_51, ln_56, ln_57, ln_59, ln_60, ln_61, ln_62, ln_64, ln_64n, ln_65, ln_268, ln_269, ln_270, ln_270n, ln_271, ln_271n, ln_272, ln_272n, ln_272m, ln_273, ln_274, ln_275, ln_276, ln_277, ln_278, ln_278n, ln_279, ln_280, ln_281, ln_282, ln_283, ln_283n, ln_284, ln_285, ln_286, ln_286n, ln_287, ln_287n, ln_288, ln_289, ln_289n, gF_sF, gF_sG, gF_sI, gF_sJ, gF_sP, gF_sR, gF_sL, gG_sF, gG_sG, gG_sI, gG_sJ, gG_sP, gG_sR, gG_sL, gI_sF, gI_sG, gI_sI, gI_sJ, gI_sP, gI_sR, gI_sL, gJ_sF, gJ_sG, gJ_sI, gJ_sJ, gJ_sP, gJ_sR, gJ_sL, gP_sF, gP_sG, gP_sI, gP_sJ, gP_sP, gP_sR, gP_sL, inB_n, inC_n, iX_n, nI_add, pk_mul, pk_sub, n_and, n_or, n_xor, n_one, n_ush, n_shr, n_div, n_rem, n_ltm, m_ltn, m_ltm, n_eqm, m_eqn, m_eqm, n_lt, n_eq, n_eq0, n_addm, n_i2l, m_i2l, n_l2i, lN_add, lN_mul, lN_sub, l_div, l_rem, l_eq0, lc_lt, lc_gt, lc_eq, l_lt, l_eq, l_ltm, ml_ltn, ml_ltm, l_eqm, ml_eqn, ml_eqm, ls_1, ls_2, ls_3, ls_4, ls_5, ls_6, ls_7, ls_8, ls_10, ls_11, ls_12, ls_13, ls_14, ls_15, ls_16, ls_17, ob_0, ob_9, rf_0, rf_9, t_cNoSum h.1 g, ht, hA3, hv14]
        · rw [zE_W []]
          generalize (if A.2.2.1.2 0 v = 0 then mI 1 else nI (A.2.2.1.2 2 v)) = Q at hM3 ⊢
          simp (disch := omega) only [tt_206, T_206, mx_206, Nat.reduceLT, Nat.reduceLeDiff, Nat.reduceEqDiff, Nat.reduceAdd, Nat.reduceMul, Nat.reduceSub, Nat.reducePow, Nat.reduceMod, Nat.reduceDiv, Nat.reduceBEq, ↓reduceIte, reduceCtorEq, and_true, true_and, and_false, false_and, and_self, zW_eq, zin, zop, zst, fw_ite, fw_K, fw_R, fw_F, fw_C, zBW_s, nth, stL, okL, nlg, ct, ctv, cI, cL, pu, tkC, iniL, pad, eL, Value.category, swK, bz_0, bz_n0, bz_n1, bI_bz, bI_0, bI_t, bI_f, List.headD_cons, decide_true, decide_false, Bool.true_and, Bool.and_true, Bool.false_and, Bool.and_false, Bool.and_self, Bool.not_true, Bool.not_false, Bool.or_false, Bool.false_or, Bool.true_or, Bool.or_true, Bool.or_self, Bool.false_eq_true, rf_45, rf_47, rf_49, rf_50, rf_51, rf_58, rf_63, rf_65, rf_267, rf45, rf50, rf58, rf63, rf267, ob_45, ob_49, ob_50, ob_58, ob_63, ob_267, ln_46, ln_46n, ln_46m, ln_47, ln_47n, ln_48, ln_48n, ln_51, ln_56, ln_57, ln_59, ln_60, ln_61, ln_62, ln_64, ln_64n, ln_65, ln_268, ln_269, ln_270, ln_270n, ln_271, ln_271n, ln_272, ln_272n, ln_272m, ln_273, ln_274, ln_275, ln_276, ln_277, ln_278, ln_278n, ln_279, ln_280, ln_281, ln_282, ln_283, ln_283n, ln_284, ln_285, ln_286, ln_286n, ln_287, ln_287n, ln_288, ln_289, ln_289n, gF_sF, gF_sG, gF_sI, gF_sJ, gF_sP, gF_sR, gF_sL, gG_sF, gG_sG, gG_sI, gG_sJ, gG_sP, gG_sR, gG_sL, gI_sF, gI_sG, gI_sI, gI_sJ, gI_sP, gI_sR, gI_sL, gJ_sF, gJ_sG, gJ_sI, gJ_sJ, gJ_sP, gJ_sR, gJ_sL, gP_sF, gP_sG, gP_sI, gP_sJ, gP_sP, gP_sR, gP_sL, inB_n, inC_n, iX_n, nI_add, pk_mul, pk_sub, n_and, n_or, n_xor, n_one, n_ush, n_shr, n_div, n_rem, n_ltm, m_ltn, m_ltm, n_eqm, m_eqn, m_eqm, n_lt, n_eq, n_eq0, n_addm, n_i2l, m_i2l, n_l2i, lN_add, lN_mul, lN_sub, l_div, l_rem, l_eq0, lc_lt, lc_gt, lc_eq, l_lt, l_eq, l_ltm, ml_ltn, ml_ltm, l_eqm, ml_eqn, ml_eqm, ls_1, ls_2, ls_3, ls_4, ls_5, ls_6, ls_7, ls_8, ls_10, ls_11, ls_12, ls_13, ls_14, ls_15, ls_16, ls_17, ob_0, ob_9, rf_0, rf_9, t_isSum hT1 g, ht, t_in, hM3, b2, Nat.not_lt_zero]
      · have hal := ancS_lt gg v hv
        have h214 : 2 ^ v < 2 ^ 14 := p2_lt (by omega)
        refine key (nI (pop (ancS A.2.2.1 v))) ?_ ?_
        · rw [zE_W []]
          simp (disch := omega) only [tt_109, T_109, mx_109, Nat.reduceLT, Nat.reduceLeDiff, Nat.reduceEqDiff, Nat.reduceAdd, Nat.reduceMul, Nat.reduceSub, Nat.reducePow, Nat.reduceMod, Nat.reduceDiv, Nat.reduceBEq, ↓reduceIte, reduceCtorEq, and_true, true_and, and_false, false_and, and_self, zW_eq, zin, zop, zst, fw_ite, fw_K, fw_R, fw_F, fw_C, zBW_s, nth, stL, okL, nlg, ct, ctv, cI, cL, pu, tkC, iniL, pad, eL, Value.category, swK, bz_0, bz_n0, bz_n1, bI_bz, bI_0, bI_t, bI_f, List.headD_cons, decide_true, decide_false, Bool.true_and, Bool.and_true, Bool.false_and, Bool.and_false, Bool.and_self, Bool.not_true, Bool.not_false, Bool.or_false, Bool.false_or, Bool.true_or, Bool.or_true, Bool.or_self, Bool.false_eq_true, rf_45, rf_47, rf_49, rf_50, rf_51, rf_58, rf_63, rf_65, rf_267, rf45, rf50, rf58, rf63, rf267, ob_45, ob_49, ob_50, ob_58, ob_63, ob_267, ln_46, ln_46n, ln_46m, ln_47, ln_47n, ln_48, ln_48n, ln_51, ln_56, ln_57, ln_59, ln_60, ln_61, ln_62, ln_64, ln_64n, ln_65, ln_268, ln_269, ln_270, ln_270n, ln_271, ln_271n, ln_272, ln_272n, ln_272m, ln_273, ln_274, ln_275, ln_276, ln_277, ln_278, ln_278n, ln_279, ln_280, ln_281, ln_282, ln_283, ln_283n, ln_284, ln_285, ln_286, ln_286n, ln_287, ln_287n, ln_288, ln_289, ln_289n, gF_sF, gF_sG, gF_sI, gF_sJ, gF_sP, gF_sR, gF_sL, gG_sF, gG_sG, gG_sI, gG_sJ, gG_sP, gG_sR, gG_sL, gI_sF, gI_sG, gI_sI, gI_sJ, gI_sP, gI_sR, gI_sL, gJ_sF, gJ_sG, gJ_sI, gJ_sJ, gJ_sP, gJ_sR, gJ_sL, gP_sF, gP_sG, gP_sI, gP_sJ, gP_sP, gP_sR, gP_sL, inB_n, inC_n, iX_n, nI_add, pk_mul, pk_sub, n_and, n_or, n_xor, n_one, n_ush, n_shr, n_div, n_rem, n_ltm, m_ltn, m_ltm, n_eqm, m_eqn, m_eqm, n_lt, n_eq, n_eq0, n_addm, n_i2l, m_i2l, n_l2i, lN_add, lN_mul, lN_sub, l_div, l_rem, l_eq0, lc_lt, lc_gt, lc_eq, l_lt, l_eq, l_ltm, ml_ltn, ml_ltm, l_eqm, ml_eqn, ml_eqm, ls_1, ls_2, ls_3, ls_4, ls_5, ls_6, ls_7, ls_8, ls_10, ls_11, ls_12, ls_13, ls_14, ls_15, ls_16, ls_17, ob_0, ob_9, rf_0, rf_9, t_cNoSum h.1 g, ht, hA, hv14, t_bitCount]
        · rw [zE_W []]
          simp (disch := omega) only [tt_206, T_206, mx_206, Nat.reduceLT, Nat.reduceLeDiff, Nat.reduceEqDiff, Nat.reduceAdd, Nat.reduceMul, Nat.reduceSub, Nat.reducePow, Nat.reduceMod, Nat.reduceDiv, Nat.reduceBEq, ↓reduceIte, reduceCtorEq, and_true, true_and, and_false, false_and, and_self, zW_eq, zin, zop, zst, fw_ite, fw_K, fw_R, fw_F, fw_C, zBW_s, nth, stL, okL, nlg, ct, ctv, cI, cL, pu, tkC, iniL, pad, eL, Value.category, swK, bz_0, bz_n0, bz_n1, bI_bz, bI_0, bI_t, bI_f, List.headD_cons, decide_true, decide_false, Bool.true_and, Bool.and_true, Bool.false_and, Bool.and_false, Bool.and_self, Bool.not_true, Bool.not_false, Bool.or_false, Bool.false_or, Bool.true_or, Bool.or_true, Bool.or_self, Bool.false_eq_true, rf_45, rf_47, rf_49, rf_50, rf_51, rf_58, rf_63, rf_65, rf_267, rf45, rf50, rf58, rf63, rf267, ob_45, ob_49, ob_50, ob_58, ob_63, ob_267, ln_46, ln_46n, ln_46m, ln_47, ln_47n, ln_48, ln_48n, ln_51, ln_56, ln_57, ln_59, ln_60, ln_61, ln_62, ln_64, ln_64n, ln_65, ln_268, ln_269, ln_270, ln_270n, ln_271, ln_271n, ln_272, ln_272n, ln_272m, ln_273, ln_274, ln_275, ln_276, ln_277, ln_278, ln_278n, ln_279, ln_280, ln_281, ln_282, ln_283, ln_283n, ln_284, ln_285, ln_286, ln_286n, ln_287, ln_287n, ln_288, ln_289, ln_289n, gF_sF, gF_sG, gF_sI, gF_sJ, gF_sP, gF_sR, gF_sL, gG_sF, gG_sG, gG_sI, gG_sJ, gG_sP, gG_sR, gG_sL, gI_sF, gI_sG, gI_sI, gI_sJ, gI_sP, gI_sR, gI_sL, gJ_sF, gJ_sG, gJ_sI, gJ_sJ, gJ_sP, gJ_sR, gJ_sL, gP_sF, gP_sG, gP_sI, gP_sJ, gP_sP, gP_sR, gP_sL, inB_n, inC_n, iX_n, nI_add, pk_mul, pk_sub, n_and, n_or, n_xor, n_one, n_ush, n_shr, n_div, n_rem, n_ltm, m_ltn, m_ltm, n_eqm, m_eqn, m_eqm, n_lt, n_eq, n_eq0, n_addm, n_i2l, m_i2l, n_l2i, lN_add, lN_mul, lN_sub, l_div, l_rem, l_eq0, lc_lt, lc_gt, lc_eq, l_lt, l_eq, l_ltm, ml_ltn, ml_ltm, l_eqm, ml_eqn, ml_eqm, ls_1, ls_2, ls_3, ls_4, ls_5, ls_6, ls_7, ls_8, ls_10, ls_11, ls_12, ls_13, ls_14, ls_15, ls_16, ls_17, ob_0, ob_9, rf_0, rf_9, t_isSum hT1 g, ht, t_in, t_ancestors hT1 g hv, t_sizeOf, Nat.not_lt_zero]
      · have n4 := hT2.2.1
        have lp : ∀ d i, i + d = A.2.2.1.1 4 → v < i → zR 206 81 [.ref 267, .int (nI v), .int (nI 4), .int (nI (cnt (offP A.2.2.1 v) i)), .int (nI i)] [] (wDep A.2.2.1 (sF w 267 0 (nI 0))) = some (some (.int (nI (cnt (offP A.2.2.1 v) (A.2.2.1.1 4)))), wDep A.2.2.1 (sF w 267 0 (nI 0))) := by
          intro d
          induction d with
          | zero =>
            intro i hi _
            have hi : i = A.2.2.1.1 4 := by omega
            rw [hi, zR_W [81]]
            simp (disch := omega) only [tt_206, T_206, mx_206, Nat.reduceLT, Nat.reduceLeDiff, Nat.reduceEqDiff, Nat.reduceAdd, Nat.reduceMul, Nat.reduceSub, Nat.reducePow, Nat.reduceMod, Nat.reduceDiv, Nat.reduceBEq, ↓reduceIte, reduceCtorEq, and_true, true_and, and_false, false_and, and_self, zW_eq, zin, zop, zst, fw_ite, fw_K, fw_R, fw_F, fw_C, zBW_s, nth, stL, okL, nlg, ct, ctv, cI, cL, pu, tkC, iniL, pad, eL, Value.category, swK, bz_0, bz_n0, bz_n1, bI_bz, bI_0, bI_t, bI_f, List.headD_cons, decide_true, decide_false, Bool.true_and, Bool.and_true, Bool.false_and, Bool.and_false, Bool.and_self, Bool.not_true, Bool.not_false, Bool.or_false, Bool.false_or, Bool.true_or, Bool.or_true, Bool.or_self, Bool.false_eq_true, rf_45, rf_47, rf_49, rf_50, rf_51, rf_58, rf_63, rf_65, rf_267, rf45, rf50, rf58, rf63, rf267, ob_45, ob_49, ob_50, ob_58, ob_63, ob_267, ln_46, ln_46n, ln_46m, ln_47, ln_47n, ln_48, ln_48n, ln_51, ln_56, ln_57, ln_59, ln_60, ln_61, ln_62, ln_64, ln_64n, ln_65, ln_268, ln_269, ln_270, ln_270n, ln_271, ln_271n, ln_272, ln_272n, ln_272m, ln_273, ln_274, ln_275, ln_276, ln_277, ln_278, ln_278n, ln_279, ln_280, ln_281, ln_282, ln_283, ln_283n, ln_284, ln_285, ln_286, ln_286n, ln_287, ln_287n, ln_288, ln_289, ln_289n, gF_sF, gF_sG, gF_sI, gF_sJ, gF_sP, gF_sR, gF_sL, gG_sF, gG_sG, gG_sI, gG_sJ, gG_sP, gG_sR, gG_sL, gI_sF, gI_sG, gI_sI, gI_sJ, gI_sP, gI_sR, gI_sL, gJ_sF, gJ_sG, gJ_sI, gJ_sJ, gJ_sP, gJ_sR, gJ_sL, gP_sF, gP_sG, gP_sI, gP_sJ, gP_sP, gP_sR, gP_sL, inB_n, inC_n, iX_n, nI_add, pk_mul, pk_sub, n_and, n_or, n_xor, n_one, n_ush, n_shr, n_div, n_rem, n_ltm, m_ltn, m_ltm, n_eqm, m_eqn, m_eqm, n_lt, n_eq, n_eq0, n_addm, n_i2l, m_i2l, n_l2i, lN_add, lN_mul, lN_sub, l_div, l_rem, l_eq0, lc_lt, lc_gt, lc_eq, l_lt, l_eq, l_ltm, ml_ltn, ml_ltm, l_eqm, ml_eqn, ml_eqm, ls_1, ls_2, ls_3, ls_4, ls_5, ls_6, ls_7, ls_8, ls_10, ls_11, ls_12, ls_13, ls_14, ls_15, ls_16, ls_17, ob_0, ob_9, rf_0, rf_9, n4, Nat.lt_irrefl]
          | succ d ih =>
            intro i hi hvi
            have hlt : i < A.2.2.1.1 4 := by omega
            have hal := ancS_lt gg i hlt
            have h214 : 2 ^ i < 2 ^ 14 := p2_lt (by omega)
            have hih := ih (i + 1) (by omega) (by omega)
            rw [zR_W [81]]
            cases hb : (ancS A.2.2.1 i).testBit v with
            | true =>
              rw [cnt_t (show offP A.2.2.1 v i = true by simp [offP, hvi, hb])] at hih
              simp (disch := omega) only [tt_206, T_206, mx_206, Nat.reduceLT, Nat.reduceLeDiff, Nat.reduceEqDiff, Nat.reduceAdd, Nat.reduceMul, Nat.reduceSub, Nat.reducePow, Nat.reduceMod, Nat.reduceDiv, Nat.reduceBEq, ↓reduceIte, reduceCtorEq, and_true, true_and, and_false, false_and, and_self, zW_eq, zin, zop, zst, fw_ite, fw_K, fw_R, fw_F, fw_C, zBW_s, nth, stL, okL, nlg, ct, ctv, cI, cL, pu, tkC, iniL, pad, eL, Value.category, swK, bz_0, bz_n0, bz_n1, bI_bz, bI_0, bI_t, bI_f, List.headD_cons, decide_true, decide_false, Bool.true_and, Bool.and_true, Bool.false_and, Bool.and_false, Bool.and_self, Bool.not_true, Bool.not_false, Bool.or_false, Bool.false_or, Bool.true_or, Bool.or_true, Bool.or_self, Bool.false_eq_true, rf_45, rf_47, rf_49, rf_50, rf_51, rf_58, rf_63, rf_65, rf_267, rf45, rf50, rf58, rf63, rf267, ob_45, ob_49, ob_50, ob_58, ob_63, ob_267, ln_46, ln_46n, ln_46m, ln_47, ln_47n, ln_48, ln_48n, ln_51, ln_56, ln_57, ln_59, ln_60, ln_61, ln_62, ln_64, ln_64n, ln_65, ln_268, ln_269, ln_270, ln_270n, ln_271, ln_271n, ln_272, ln_272n, ln_272m, ln_273, ln_274, ln_275, ln_276, ln_277, ln_278, ln_278n, ln_279, ln_280, ln_281, ln_282, ln_283, ln_283n, ln_284, ln_285, ln_286, ln_286n, ln_287, ln_287n, ln_288, ln_289, ln_289n, gF_sF, gF_sG, gF_sI, gF_sJ, gF_sP, gF_sR, gF_sL, gG_sF, gG_sG, gG_sI, gG_sJ, gG_sP, gG_sR, gG_sL, gI_sF, gI_sG, gI_sI, gI_sJ, gI_sP, gI_sR, gI_sL, gJ_sF, gJ_sG, gJ_sI, gJ_sJ, gJ_sP, gJ_sR, gJ_sL, gP_sF, gP_sG, gP_sI, gP_sJ, gP_sP, gP_sR, gP_sL, inB_n, inC_n, iX_n, nI_add, pk_mul, pk_sub, n_and, n_or, n_xor, n_one, n_ush, n_shr, n_div, n_rem, n_ltm, m_ltn, m_ltm, n_eqm, m_eqn, m_eqm, n_lt, n_eq, n_eq0, n_addm, n_i2l, m_i2l, n_l2i, lN_add, lN_mul, lN_sub, l_div, l_rem, l_eq0, lc_lt, lc_gt, lc_eq, l_lt, l_eq, l_ltm, ml_ltn, ml_ltm, l_eqm, ml_eqn, ml_eqm, ls_1, ls_2, ls_3, ls_4, ls_5, ls_6, ls_7, ls_8, ls_10, ls_11, ls_12, ls_13, ls_14, ls_15, ls_16, ls_17, ob_0, ob_9, rf_0, rf_9, n4, hlt, t_ancestors hT2 g hlt, bitV, hb, hih]
            | false =>
              rw [cnt_f (show offP A.2.2.1 v i = false by simp [offP, hb])] at hih
              simp (disch := omega) only [tt_206, T_206, mx_206, Nat.reduceLT, Nat.reduceLeDiff, Nat.reduceEqDiff, Nat.reduceAdd, Nat.reduceMul, Nat.reduceSub, Nat.reducePow, Nat.reduceMod, Nat.reduceDiv, Nat.reduceBEq, ↓reduceIte, reduceCtorEq, and_true, true_and, and_false, false_and, and_self, zW_eq, zin, zop, zst, fw_ite, fw_K, fw_R, fw_F, fw_C, zBW_s, nth, stL, okL, nlg, ct, ctv, cI, cL, pu, tkC, iniL, pad, eL, Value.category, swK, bz_0, bz_n0, bz_n1, bI_bz, bI_0, bI_t, bI_f, List.headD_cons, decide_true, decide_false, Bool.true_and, Bool.and_true, Bool.false_and, Bool.and_false, Bool.and_self, Bool.not_true, Bool.not_false, Bool.or_false, Bool.false_or, Bool.true_or, Bool.or_true, Bool.or_self, Bool.false_eq_true, rf_45, rf_47, rf_49, rf_50, rf_51, rf_58, rf_63, rf_65, rf_267, rf45, rf50, rf58, rf63, rf267, ob_45, ob_49, ob_50, ob_58, ob_63, ob_267, ln_46, ln_46n, ln_46m, ln_47, ln_47n, ln_48, ln_48n, ln_51, ln_56, ln_57, ln_59, ln_60, ln_61, ln_62, ln_64, ln_64n, ln_65, ln_268, ln_269, ln_270, ln_270n, ln_271, ln_271n, ln_272, ln_272n, ln_272m, ln_273, ln_274, ln_275, ln_276, ln_277, ln_278, ln_278n, ln_279, ln_280, ln_281, ln_282, ln_283, ln_283n, ln_284, ln_285, ln_286, ln_286n, ln_287, ln_287n, ln_288, ln_289, ln_289n, gF_sF, gF_sG, gF_sI, gF_sJ, gF_sP, gF_sR, gF_sL, gG_sF, gG_sG, gG_sI, gG_sJ, gG_sP, gG_sR, gG_sL, gI_sF, gI_sG, gI_sI, gI_sJ, gI_sP, gI_sR, gI_sL, gJ_sF, gJ_sG, gJ_sI, gJ_sJ, gJ_sP, gJ_sR, gJ_sL, gP_sF, gP_sG, gP_sI, gP_sJ, gP_sP, gP_sR, gP_sL, inB_n, inC_n, iX_n, nI_add, pk_mul, pk_sub, n_and, n_or, n_xor, n_one, n_ush, n_shr, n_div, n_rem, n_ltm, m_ltn, m_ltm, n_eqm, m_eqn, m_eqm, n_lt, n_eq, n_eq0, n_addm, n_i2l, m_i2l, n_l2i, lN_add, lN_mul, lN_sub, l_div, l_rem, l_eq0, lc_lt, lc_gt, lc_eq, l_lt, l_eq, l_ltm, ml_ltn, ml_ltm, l_eqm, ml_eqn, ml_eqm, ls_1, ls_2, ls_3, ls_4, ls_5, ls_6, ls_7, ls_8, ls_10, ls_11, ls_12, ls_13, ls_14, ls_15, ls_16, ls_17, ob_0, ob_9, rf_0, rf_9, n4, hlt, t_ancestors hT2 g hlt, bitV, hb, Nat.add_zero, hih]
        have hz : ∀ n, n ≤ v + 1 → cnt (offP A.2.2.1 v) n = 0 := by
          intro n
          induction n with
          | zero => intro _; rfl
          | succ n ih =>
            intro hn
            rw [cnt_f (show offP A.2.2.1 v n = false by simp [offP, show ¬ v < n by omega]), ih (by omega)]
        have h0 := lp (A.2.2.1.1 4 - (v + 1)) (v + 1) (by omega) (by omega)
        rw [hz (v + 1) (Nat.le_refl _)] at h0
        have hbl := bitsP_31 (offP A.2.2.1 v) h14
        have hpb := pop_bitsP (offP A.2.2.1 v) (A.2.2.1.1 4) (by omega)
        refine key2 (nI (cnt (offP A.2.2.1 v) (A.2.2.1.1 4))) ?_ ?_
        · rw [zE_W []]
          simp (disch := omega) only [tt_109, T_109, mx_109, Nat.reduceLT, Nat.reduceLeDiff, Nat.reduceEqDiff, Nat.reduceAdd, Nat.reduceMul, Nat.reduceSub, Nat.reducePow, Nat.reduceMod, Nat.reduceDiv, Nat.reduceBEq, ↓reduceIte, reduceCtorEq, and_true, true_and, and_false, false_and, and_self, zW_eq, zin, zop, zst, fw_ite, fw_K, fw_R, fw_F, fw_C, zBW_s, nth, stL, okL, nlg, ct, ctv, cI, cL, pu, tkC, iniL, pad, eL, Value.category, swK, bz_0, bz_n0, bz_n1, bI_bz, bI_0, bI_t, bI_f, List.headD_cons, decide_true, decide_false, Bool.true_and, Bool.and_true, Bool.false_and, Bool.and_false, Bool.and_self, Bool.not_true, Bool.not_false, Bool.or_false, Bool.false_or, Bool.true_or, Bool.or_true, Bool.or_self, Bool.false_eq_true, rf_45, rf_47, rf_49, rf_50, rf_51, rf_58, rf_63, rf_65, rf_267, rf45, rf50, rf58, rf63, rf267, ob_45, ob_49, ob_50, ob_58, ob_63, ob_267, ln_46, ln_46n, ln_46m, ln_47, ln_47n, ln_48, ln_48n, ln_51, ln_56, ln_57, ln_59, ln_60, ln_61, ln_62, ln_64, ln_64n, ln_65, ln_268, ln_269, ln_270, ln_270n, ln_271, ln_271n, ln_272, ln_272n, ln_272m, ln_273, ln_274, ln_275, ln_276, ln_277, ln_278, ln_278n, ln_279, ln_280, ln_281, ln_282, ln_283, ln_283n, ln_284, ln_285, ln_286, ln_286n, ln_287, ln_287n, ln_288, ln_289, ln_289n, gF_sF, gF_sG, gF_sI, gF_sJ, gF_sP, gF_sR, gF_sL, gG_sF, gG_sG, gG_sI, gG_sJ, gG_sP, gG_sR, gG_sL, gI_sF, gI_sG, gI_sI, gI_sJ, gI_sP, gI_sR, gI_sL, gJ_sF, gJ_sG, gJ_sI, gJ_sJ, gJ_sP, gJ_sR, gJ_sL, gP_sF, gP_sG, gP_sI, gP_sJ, gP_sP, gP_sR, gP_sL, inB_n, inC_n, iX_n, nI_add, pk_mul, pk_sub, n_and, n_or, n_xor, n_one, n_ush, n_shr, n_div, n_rem, n_ltm, m_ltn, m_ltm, n_eqm, m_eqn, m_eqm, n_lt, n_eq, n_eq0, n_addm, n_i2l, m_i2l, n_l2i, lN_add, lN_mul, lN_sub, l_div, l_rem, l_eq0, lc_lt, lc_gt, lc_eq, l_lt, l_eq, l_ltm, ml_ltn, ml_ltm, l_eqm, ml_eqn, ml_eqm, ls_1, ls_2, ls_3, ls_4, ls_5, ls_6, ls_7, ls_8, ls_10, ls_11, ls_12, ls_13, ls_14, ls_15, ls_16, ls_17, ob_0, ob_9, rf_0, rf_9, t_cNoSum h.1 g, ht, t_offspring hc g hv, t_bitCount, hpb]
        · rw [zE_W [81]]
          simp (disch := omega) only [tt_206, T_206, mx_206, Nat.reduceLT, Nat.reduceLeDiff, Nat.reduceEqDiff, Nat.reduceAdd, Nat.reduceMul, Nat.reduceSub, Nat.reducePow, Nat.reduceMod, Nat.reduceDiv, Nat.reduceBEq, ↓reduceIte, reduceCtorEq, and_true, true_and, and_false, false_and, and_self, zW_eq, zin, zop, zst, fw_ite, fw_K, fw_R, fw_F, fw_C, zBW_s, nth, stL, okL, nlg, ct, ctv, cI, cL, pu, tkC, iniL, pad, eL, Value.category, swK, bz_0, bz_n0, bz_n1, bI_bz, bI_0, bI_t, bI_f, List.headD_cons, decide_true, decide_false, Bool.true_and, Bool.and_true, Bool.false_and, Bool.and_false, Bool.and_self, Bool.not_true, Bool.not_false, Bool.or_false, Bool.false_or, Bool.true_or, Bool.or_true, Bool.or_self, Bool.false_eq_true, rf_45, rf_47, rf_49, rf_50, rf_51, rf_58, rf_63, rf_65, rf_267, rf45, rf50, rf58, rf63, rf267, ob_45, ob_49, ob_50, ob_58, ob_63, ob_267, ln_46, ln_46n, ln_46m, ln_47, ln_47n, ln_48, ln_48n, ln_51, ln_56, ln_57, ln_59, ln_60, ln_61, ln_62, ln_64, ln_64n, ln_65, ln_268, ln_269, ln_270, ln_270n, ln_271, ln_271n, ln_272, ln_272n, ln_272m, ln_273, ln_274, ln_275, ln_276, ln_277, ln_278, ln_278n, ln_279, ln_280, ln_281, ln_282, ln_283, ln_283n, ln_284, ln_285, ln_286, ln_286n, ln_287, ln_287n, ln_288, ln_289, ln_289n, gF_sF, gF_sG, gF_sI, gF_sJ, gF_sP, gF_sR, gF_sL, gG_sF, gG_sG, gG_sI, gG_sJ, gG_sP, gG_sR, gG_sL, gI_sF, gI_sG, gI_sI, gI_sJ, gI_sP, gI_sR, gI_sL, gJ_sF, gJ_sG, gJ_sI, gJ_sJ, gJ_sP, gJ_sR, gJ_sL, gP_sF, gP_sG, gP_sI, gP_sJ, gP_sP, gP_sR, gP_sL, inB_n, inC_n, iX_n, nI_add, pk_mul, pk_sub, n_and, n_or, n_xor, n_one, n_ush, n_shr, n_div, n_rem, n_ltm, m_ltn, m_ltm, n_eqm, m_eqn, m_eqm, n_lt, n_eq, n_eq0, n_addm, n_i2l, m_i2l, n_l2i, lN_add, lN_mul, lN_sub, l_div, l_rem, l_eq0, lc_lt, lc_gt, lc_eq, l_lt, l_eq, l_ltm, ml_ltn, ml_ltm, l_eqm, ml_eqn, ml_eqm, ls_1, ls_2, ls_3, ls_4, ls_5, ls_6, ls_7, ls_8, ls_10, ls_11, ls_12, ls_13, ls_14, ls_15, ls_16, ls_17, ob_0, ob_9, rf_0, rf_9, t_isSum hT1 g, ht, t_in, t_laysDepths hT1 g, Nat.not_lt_zero]
          exact h0
      · have rd := wDep_r (w := sF w 267 0 (nI 0)) hv
        refine key2 (nI (depS A.2.2.1 v)) ?_ ?_
        · rw [zE_W []]
          simp (disch := omega) only [tt_109, T_109, mx_109, Nat.reduceLT, Nat.reduceLeDiff, Nat.reduceEqDiff, Nat.reduceAdd, Nat.reduceMul, Nat.reduceSub, Nat.reducePow, Nat.reduceMod, Nat.reduceDiv, Nat.reduceBEq, ↓reduceIte, reduceCtorEq, and_true, true_and, and_false, false_and, and_self, zW_eq, zin, zop, zst, fw_ite, fw_K, fw_R, fw_F, fw_C, zBW_s, nth, stL, okL, nlg, ct, ctv, cI, cL, pu, tkC, iniL, pad, eL, Value.category, swK, bz_0, bz_n0, bz_n1, bI_bz, bI_0, bI_t, bI_f, List.headD_cons, decide_true, decide_false, Bool.true_and, Bool.and_true, Bool.false_and, Bool.and_false, Bool.and_self, Bool.not_true, Bool.not_false, Bool.or_false, Bool.false_or, Bool.true_or, Bool.or_true, Bool.or_self, Bool.false_eq_true, rf_45, rf_47, rf_49, rf_50, rf_51, rf_58, rf_63, rf_65, rf_267, rf45, rf50, rf58, rf63, rf267, ob_45, ob_49, ob_50, ob_58, ob_63, ob_267, ln_46, ln_46n, ln_46m, ln_47, ln_47n, ln_48, ln_48n, ln_51, ln_56, ln_57, ln_59, ln_60, ln_61, ln_62, ln_64, ln_64n, ln_65, ln_268, ln_269, ln_270, ln_270n, ln_271, ln_271n, ln_272, ln_272n, ln_272m, ln_273, ln_274, ln_275, ln_276, ln_277, ln_278, ln_278n, ln_279, ln_280, ln_281, ln_282, ln_283, ln_283n, ln_284, ln_285, ln_286, ln_286n, ln_287, ln_287n, ln_288, ln_289, ln_289n, gF_sF, gF_sG, gF_sI, gF_sJ, gF_sP, gF_sR, gF_sL, gG_sF, gG_sG, gG_sI, gG_sJ, gG_sP, gG_sR, gG_sL, gI_sF, gI_sG, gI_sI, gI_sJ, gI_sP, gI_sR, gI_sL, gJ_sF, gJ_sG, gJ_sI, gJ_sJ, gJ_sP, gJ_sR, gJ_sL, gP_sF, gP_sG, gP_sI, gP_sJ, gP_sP, gP_sR, gP_sL, inB_n, inC_n, iX_n, nI_add, pk_mul, pk_sub, n_and, n_or, n_xor, n_one, n_ush, n_shr, n_div, n_rem, n_ltm, m_ltn, m_ltm, n_eqm, m_eqn, m_eqm, n_lt, n_eq, n_eq0, n_addm, n_i2l, m_i2l, n_l2i, lN_add, lN_mul, lN_sub, l_div, l_rem, l_eq0, lc_lt, lc_gt, lc_eq, l_lt, l_eq, l_ltm, ml_ltn, ml_ltm, l_eqm, ml_eqn, ml_eqm, ls_1, ls_2, ls_3, ls_4, ls_5, ls_6, ls_7, ls_8, ls_10, ls_11, ls_12, ls_13, ls_14, ls_15, ls_16, ls_17, ob_0, ob_9, rf_0, rf_9, t_cNoSum h.1 g, ht, hA, hv14]
        · rw [zE_W []]
          simp (disch := omega) only [tt_206, T_206, mx_206, Nat.reduceLT, Nat.reduceLeDiff, Nat.reduceEqDiff, Nat.reduceAdd, Nat.reduceMul, Nat.reduceSub, Nat.reducePow, Nat.reduceMod, Nat.reduceDiv, Nat.reduceBEq, ↓reduceIte, reduceCtorEq, and_true, true_and, and_false, false_and, and_self, zW_eq, zin, zop, zst, fw_ite, fw_K, fw_R, fw_F, fw_C, zBW_s, nth, stL, okL, nlg, ct, ctv, cI, cL, pu, tkC, iniL, pad, eL, Value.category, swK, bz_0, bz_n0, bz_n1, bI_bz, bI_0, bI_t, bI_f, List.headD_cons, decide_true, decide_false, Bool.true_and, Bool.and_true, Bool.false_and, Bool.and_false, Bool.and_self, Bool.not_true, Bool.not_false, Bool.or_false, Bool.false_or, Bool.true_or, Bool.or_true, Bool.or_self, Bool.false_eq_true, rf_45, rf_47, rf_49, rf_50, rf_51, rf_58, rf_63, rf_65, rf_267, rf45, rf50, rf58, rf63, rf267, ob_45, ob_49, ob_50, ob_58, ob_63, ob_267, ln_46, ln_46n, ln_46m, ln_47, ln_47n, ln_48, ln_48n, ln_51, ln_56, ln_57, ln_59, ln_60, ln_61, ln_62, ln_64, ln_64n, ln_65, ln_268, ln_269, ln_270, ln_270n, ln_271, ln_271n, ln_272, ln_272n, ln_272m, ln_273, ln_274, ln_275, ln_276, ln_277, ln_278, ln_278n, ln_279, ln_280, ln_281, ln_282, ln_283, ln_283n, ln_284, ln_285, ln_286, ln_286n, ln_287, ln_287n, ln_288, ln_289, ln_289n, gF_sF, gF_sG, gF_sI, gF_sJ, gF_sP, gF_sR, gF_sL, gG_sF, gG_sG, gG_sI, gG_sJ, gG_sP, gG_sR, gG_sL, gI_sF, gI_sG, gI_sI, gI_sJ, gI_sP, gI_sR, gI_sL, gJ_sF, gJ_sG, gJ_sI, gJ_sJ, gJ_sP, gJ_sR, gJ_sL, gP_sF, gP_sG, gP_sI, gP_sJ, gP_sP, gP_sR, gP_sL, inB_n, inC_n, iX_n, nI_add, pk_mul, pk_sub, n_and, n_or, n_xor, n_one, n_ush, n_shr, n_div, n_rem, n_ltm, m_ltn, m_ltm, n_eqm, m_eqn, m_eqm, n_lt, n_eq, n_eq0, n_addm, n_i2l, m_i2l, n_l2i, lN_add, lN_mul, lN_sub, l_div, l_rem, l_eq0, lc_lt, lc_gt, lc_eq, l_lt, l_eq, l_ltm, ml_ltn, ml_ltm, l_eqm, ml_eqn, ml_eqm, ls_1, ls_2, ls_3, ls_4, ls_5, ls_6, ls_7, ls_8, ls_10, ls_11, ls_12, ls_13, ls_14, ls_15, ls_16, ls_17, ob_0, ob_9, rf_0, rf_9, t_isSum hT1 g, ht, t_in, t_laysDepths hT1 g, rd, hv14, Nat.not_lt_zero]
    · have hi := in_out (x := y) (lo := 0) (hi := 5) (by decide) (by decide) ho
      have o0 := ho 0 (by decide) (by decide)
      have o1 := ho 1 (by decide) (by decide)
      have o2 := ho 2 (by decide) (by decide)
      have o3 := ho 3 (by decide) (by decide)
      have o4 := ho 4 (by decide) (by decide)
      have o5 := ho 5 (by decide) (by decide)
      refine key (mI 2) ?_ ?_
      · rw [zE_W []]
        simp (disch := omega) only [tt_109, T_109, mx_109, Nat.reduceLT, Nat.reduceLeDiff, Nat.reduceEqDiff, Nat.reduceAdd, Nat.reduceMul, Nat.reduceSub, Nat.reducePow, Nat.reduceMod, Nat.reduceDiv, Nat.reduceBEq, ↓reduceIte, reduceCtorEq, and_true, true_and, and_false, false_and, and_self, zW_eq, zin, zop, zst, fw_ite, fw_K, fw_R, fw_F, fw_C, zBW_s, nth, stL, okL, nlg, ct, ctv, cI, cL, pu, tkC, iniL, pad, eL, Value.category, swK, bz_0, bz_n0, bz_n1, bI_bz, bI_0, bI_t, bI_f, List.headD_cons, decide_true, decide_false, Bool.true_and, Bool.and_true, Bool.false_and, Bool.and_false, Bool.and_self, Bool.not_true, Bool.not_false, Bool.or_false, Bool.false_or, Bool.true_or, Bool.or_true, Bool.or_self, Bool.false_eq_true, rf_45, rf_47, rf_49, rf_50, rf_51, rf_58, rf_63, rf_65, rf_267, rf45, rf50, rf58, rf63, rf267, ob_45, ob_49, ob_50, ob_58, ob_63, ob_267, ln_46, ln_46n, ln_46m, ln_47, ln_47n, ln_48, ln_48n, ln_51, ln_56, ln_57, ln_59, ln_60, ln_61, ln_62, ln_64, ln_64n, ln_65, ln_268, ln_269, ln_270, ln_270n, ln_271, ln_271n, ln_272, ln_272n, ln_272m, ln_273, ln_274, ln_275, ln_276, ln_277, ln_278, ln_278n, ln_279, ln_280, ln_281, ln_282, ln_283, ln_283n, ln_284, ln_285, ln_286, ln_286n, ln_287, ln_287n, ln_288, ln_289, ln_289n, gF_sF, gF_sG, gF_sI, gF_sJ, gF_sP, gF_sR, gF_sL, gG_sF, gG_sG, gG_sI, gG_sJ, gG_sP, gG_sR, gG_sL, gI_sF, gI_sG, gI_sI, gI_sJ, gI_sP, gI_sR, gI_sL, gJ_sF, gJ_sG, gJ_sI, gJ_sJ, gJ_sP, gJ_sR, gJ_sL, gP_sF, gP_sG, gP_sI, gP_sJ, gP_sP, gP_sR, gP_sL, inB_n, inC_n, iX_n, nI_add, pk_mul, pk_sub, n_and, n_or, n_xor, n_one, n_ush, n_shr, n_div, n_rem, n_ltm, m_ltn, m_ltm, n_eqm, m_eqn, m_eqm, n_lt, n_eq, n_eq0, n_addm, n_i2l, m_i2l, n_l2i, lN_add, lN_mul, lN_sub, l_div, l_rem, l_eq0, lc_lt, lc_gt, lc_eq, l_lt, l_eq, l_ltm, ml_ltn, ml_ltm, l_eqm, ml_eqn, ml_eqm, ls_1, ls_2, ls_3, ls_4, ls_5, ls_6, ls_7, ls_8, ls_10, ls_11, ls_12, ls_13, ls_14, ls_15, ls_16, ls_17, ob_0, ob_9, rf_0, rf_9, t_cNoSum h.1 g, ht, o0, o1, o2, o3, o4, o5]
      · rw [zE_W []]
        simp (disch := omega) only [tt_206, T_206, mx_206, Nat.reduceLT, Nat.reduceLeDiff, Nat.reduceEqDiff, Nat.reduceAdd, Nat.reduceMul, Nat.reduceSub, Nat.reducePow, Nat.reduceMod, Nat.reduceDiv, Nat.reduceBEq, ↓reduceIte, reduceCtorEq, and_true, true_and, and_false, false_and, and_self, zW_eq, zin, zop, zst, fw_ite, fw_K, fw_R, fw_F, fw_C, zBW_s, nth, stL, okL, nlg, ct, ctv, cI, cL, pu, tkC, iniL, pad, eL, Value.category, swK, bz_0, bz_n0, bz_n1, bI_bz, bI_0, bI_t, bI_f, List.headD_cons, decide_true, decide_false, Bool.true_and, Bool.and_true, Bool.false_and, Bool.and_false, Bool.and_self, Bool.not_true, Bool.not_false, Bool.or_false, Bool.false_or, Bool.true_or, Bool.or_true, Bool.or_self, Bool.false_eq_true, rf_45, rf_47, rf_49, rf_50, rf_51, rf_58, rf_63, rf_65, rf_267, rf45, rf50, rf58, rf63, rf267, ob_45, ob_49, ob_50, ob_58, ob_63, ob_267, ln_46, ln_46n, ln_46m, ln_47, ln_47n, ln_48, ln_48n, ln_51, ln_56, ln_57, ln_59, ln_60, ln_61, ln_62, ln_64, ln_64n, ln_65, ln_268, ln_269, ln_270, ln_270n, ln_271, ln_271n, ln_272, ln_272n, ln_272m, ln_273, ln_274, ln_275, ln_276, ln_277, ln_278, ln_278n, ln_279, ln_280, ln_281, ln_282, ln_283, ln_283n, ln_284, ln_285, ln_286, ln_286n, ln_287, ln_287n, ln_288, ln_289, ln_289n, gF_sF, gF_sG, gF_sI, gF_sJ, gF_sP, gF_sR, gF_sL, gG_sF, gG_sG, gG_sI, gG_sJ, gG_sP, gG_sR, gG_sL, gI_sF, gI_sG, gI_sI, gI_sJ, gI_sP, gI_sR, gI_sL, gJ_sF, gJ_sG, gJ_sI, gJ_sJ, gJ_sP, gJ_sR, gJ_sL, gP_sF, gP_sG, gP_sI, gP_sJ, gP_sP, gP_sR, gP_sL, inB_n, inC_n, iX_n, nI_add, pk_mul, pk_sub, n_and, n_or, n_xor, n_one, n_ush, n_shr, n_div, n_rem, n_ltm, m_ltn, m_ltm, n_eqm, m_eqn, m_eqm, n_lt, n_eq, n_eq0, n_addm, n_i2l, m_i2l, n_l2i, lN_add, lN_mul, lN_sub, l_div, l_rem, l_eq0, lc_lt, lc_gt, lc_eq, l_lt, l_eq, l_ltm, ml_ltn, ml_ltm, l_eqm, ml_eqn, ml_eqm, ls_1, ls_2, ls_3, ls_4, ls_5, ls_6, ls_7, ls_8, ls_10, ls_11, ls_12, ls_13, ls_14, ls_15, ls_16, ls_17, ob_0, ob_9, rf_0, rf_9, t_isSum hT1 g, ht, t_in, hi]
  · refine key (mI 2) ?_ ?_
    · rw [zE_W []]
      simp (disch := omega) only [tt_109, T_109, mx_109, Nat.reduceLT, Nat.reduceLeDiff, Nat.reduceEqDiff, Nat.reduceAdd, Nat.reduceMul, Nat.reduceSub, Nat.reducePow, Nat.reduceMod, Nat.reduceDiv, Nat.reduceBEq, ↓reduceIte, reduceCtorEq, and_true, true_and, and_false, false_and, and_self, zW_eq, zin, zop, zst, fw_ite, fw_K, fw_R, fw_F, fw_C, zBW_s, nth, stL, okL, nlg, ct, ctv, cI, cL, pu, tkC, iniL, pad, eL, Value.category, swK, bz_0, bz_n0, bz_n1, bI_bz, bI_0, bI_t, bI_f, List.headD_cons, decide_true, decide_false, Bool.true_and, Bool.and_true, Bool.false_and, Bool.and_false, Bool.and_self, Bool.not_true, Bool.not_false, Bool.or_false, Bool.false_or, Bool.true_or, Bool.or_true, Bool.or_self, Bool.false_eq_true, rf_45, rf_47, rf_49, rf_50, rf_51, rf_58, rf_63, rf_65, rf_267, rf45, rf50, rf58, rf63, rf267, ob_45, ob_49, ob_50, ob_58, ob_63, ob_267, ln_46, ln_46n, ln_46m, ln_47, ln_47n, ln_48, ln_48n, ln_51, ln_56, ln_57, ln_59, ln_60, ln_61, ln_62, ln_64, ln_64n, ln_65, ln_268, ln_269, ln_270, ln_270n, ln_271, ln_271n, ln_272, ln_272n, ln_272m, ln_273, ln_274, ln_275, ln_276, ln_277, ln_278, ln_278n, ln_279, ln_280, ln_281, ln_282, ln_283, ln_283n, ln_284, ln_285, ln_286, ln_286n, ln_287, ln_287n, ln_288, ln_289, ln_289n, gF_sF, gF_sG, gF_sI, gF_sJ, gF_sP, gF_sR, gF_sL, gG_sF, gG_sG, gG_sI, gG_sJ, gG_sP, gG_sR, gG_sL, gI_sF, gI_sG, gI_sI, gI_sJ, gI_sP, gI_sR, gI_sL, gJ_sF, gJ_sG, gJ_sI, gJ_sJ, gJ_sP, gJ_sR, gJ_sL, gP_sF, gP_sG, gP_sI, gP_sJ, gP_sP, gP_sR, gP_sL, inB_n, inC_n, iX_n, nI_add, pk_mul, pk_sub, n_and, n_or, n_xor, n_one, n_ush, n_shr, n_div, n_rem, n_ltm, m_ltn, m_ltm, n_eqm, m_eqn, m_eqm, n_lt, n_eq, n_eq0, n_addm, n_i2l, m_i2l, n_l2i, lN_add, lN_mul, lN_sub, l_div, l_rem, l_eq0, lc_lt, lc_gt, lc_eq, l_lt, l_eq, l_ltm, ml_ltn, ml_ltm, l_eqm, ml_eqn, ml_eqm, ls_1, ls_2, ls_3, ls_4, ls_5, ls_6, ls_7, ls_8, ls_10, ls_11, ls_12, ls_13, ls_14, ls_15, ls_16, ls_17, ob_0, ob_9, rf_0, rf_9, t_cNoSum h.1 g, e]
    · rw [zE_W []]
      simp (disch := omega) only [tt_206, T_206, mx_206, Nat.reduceLT, Nat.reduceLeDiff, Nat.reduceEqDiff, Nat.reduceAdd, Nat.reduceMul, Nat.reduceSub, Nat.reducePow, Nat.reduceMod, Nat.reduceDiv, Nat.reduceBEq, ↓reduceIte, reduceCtorEq, and_true, true_and, and_false, false_and, and_self, zW_eq, zin, zop, zst, fw_ite, fw_K, fw_R, fw_F, fw_C, zBW_s, nth, stL, okL, nlg, ct, ctv, cI, cL, pu, tkC, iniL, pad, eL, Value.category, swK, bz_0, bz_n0, bz_n1, bI_bz, bI_0, bI_t, bI_f, List.headD_cons, decide_true, decide_false, Bool.true_and, Bool.and_true, Bool.false_and, Bool.and_false, Bool.and_self, Bool.not_true, Bool.not_false, Bool.or_false, Bool.false_or, Bool.true_or, Bool.or_true, Bool.or_self, Bool.false_eq_true, rf_45, rf_47, rf_49, rf_50, rf_51, rf_58, rf_63, rf_65, rf_267, rf45, rf50, rf58, rf63, rf267, ob_45, ob_49, ob_50, ob_58, ob_63, ob_267, ln_46, ln_46n, ln_46m, ln_47, ln_47n, ln_48, ln_48n, ln_51, ln_56, ln_57, ln_59, ln_60, ln_61, ln_62, ln_64, ln_64n, ln_65, ln_268, ln_269, ln_270, ln_270n, ln_271, ln_271n, ln_272, ln_272n, ln_272m, ln_273, ln_274, ln_275, ln_276, ln_277, ln_278, ln_278n, ln_279, ln_280, ln_281, ln_282, ln_283, ln_283n, ln_284, ln_285, ln_286, ln_286n, ln_287, ln_287n, ln_288, ln_289, ln_289n, gF_sF, gF_sG, gF_sI, gF_sJ, gF_sP, gF_sR, gF_sL, gG_sF, gG_sG, gG_sI, gG_sJ, gG_sP, gG_sR, gG_sL, gI_sF, gI_sG, gI_sI, gI_sJ, gI_sP, gI_sR, gI_sL, gJ_sF, gJ_sG, gJ_sI, gJ_sJ, gJ_sP, gJ_sR, gJ_sL, gP_sF, gP_sG, gP_sI, gP_sJ, gP_sP, gP_sR, gP_sL, inB_n, inC_n, iX_n, nI_add, pk_mul, pk_sub, n_and, n_or, n_xor, n_one, n_ush, n_shr, n_div, n_rem, n_ltm, m_ltn, m_ltm, n_eqm, m_eqn, m_eqm, n_lt, n_eq, n_eq0, n_addm, n_i2l, m_i2l, n_l2i, lN_add, lN_mul, lN_sub, l_div, l_rem, l_eq0, lc_lt, lc_gt, lc_eq, l_lt, l_eq, l_ltm, ml_ltn, ml_ltm, l_eqm, ml_eqn, ml_eqm, ls_1, ls_2, ls_3, ls_4, ls_5, ls_6, ls_7, ls_8, ls_10, ls_11, ls_12, ls_13, ls_14, ls_15, ls_16, ls_17, ob_0, ob_9, rf_0, rf_9, t_isSum hT1 g, e]
