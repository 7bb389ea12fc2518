/-! ===== sources; floods; seek ===== -/
def GlB (set : Nat) (ex : Bool) (p : Nat) : Bool := if ex = true then decide (p = set) else decide (p &&& set = set)
def gQ (bar : Nat → Bool) (set : Nat) (ex : Bool) (lim : Nat) : Nat → Qu
  | 0 => []
  | p + 1 => if GlB set ex p = true then qsrc bar lim (gQ bar set ex lim p) p else gQ bar set ex lim p
theorem gQ_s (bar : Nat → Bool) (set : Nat) (ex : Bool) (lim p : Nat) : gQ bar set ex lim (p + 1) = if GlB set ex p = true then qsrc bar lim (gQ bar set ex lim p) p else gQ bar set ex lim p := rfl
theorem qsrc_mem {bar : Nat → Bool} {lim p : Nat} {Q : Qu} {x : Nat × Nat} (h : x ∈ qsrc bar lim Q p) : x ∈ Q ∨ (x = (p, 0) ∧ pop p ≤ lim ∧ bar p = false) := by
  unfold qsrc at h
  by_cases z : pop p ≤ lim
  · rw [if_pos z] at h
    rcases qput_mem h with h | ⟨h, hb⟩
    · exact Or.inl h
    · exact Or.inr ⟨h, z, hb⟩
  · rw [if_neg z] at h; exact Or.inl h
theorem gQ_mem {bar : Nat → Bool} {set : Nat} {ex : Bool} {lim : Nat} : ∀ N x, x ∈ gQ bar set ex lim N → x.2 = 0 ∧ x.1 < N ∧ GlB set ex x.1 = true ∧ pop x.1 ≤ lim ∧ bar x.1 = false := by
  intro N
  induction N with
  | zero => intro x hx; cases hx
  | succ N ih =>
    intro x hx
    rw [gQ_s] at hx
    by_cases z : GlB set ex N = true
    · rw [if_pos z] at hx
      rcases qsrc_mem hx with hx | ⟨rfl, h1, h2⟩
      · have := ih x hx
        exact ⟨this.1, by omega, this.2.2⟩
      · exact ⟨rfl, Nat.lt_succ_self N, z, h1, h2⟩
    · rw [if_neg z] at hx
      have := ih x hx
      exact ⟨this.1, by omega, this.2.2⟩
/-- the sources of a flood from the goals -/
def SG (sc : Sg) (set : Nat) (ex : Bool) (lim p : Nat) : Prop := p < 2 ^ sc.1 4 ∧ pop p ≤ lim ∧ GlB set ex p = true
theorem iv_qsrc {E : Nat → Nat → Prop} {S : Nat → Prop} {bar : Nat → Bool} {lim p : Nat} {Q : Qu} (I : Iv E (src0 S) Q 0) (h0 : ∀ x, x ∈ Q → x.2 = 0) (hs : pop p ≤ lim → bar p = false → S p) : Iv E (src0 S) (qsrc bar lim Q p) 0 := by
  unfold qsrc
  by_cases z : pop p ≤ lim
  · rw [if_pos z]
    exact iv_src I (fun hb => ⟨hs z hb, rfl⟩) (fun x hx => by rw [h0 x hx]; exact Nat.le_refl _) (Or.inr (Nat.zero_le _))
  · rw [if_neg z]; exact I
theorem gQ_iv {sc : Sg} {E : Nat → Nat → Prop} {set : Nat} {ex : Bool} {lim : Nat} : ∀ N, N ≤ 2 ^ sc.1 4 → Iv E (src0 (SG sc set ex lim)) (gQ nob set ex lim N) 0 := by
  intro N
  induction N with
  | zero => intro _; exact iv_nil _ _
  | succ N ih =>
    intro hN
    rw [gQ_s]
    by_cases z : GlB set ex N = true
    · rw [if_pos z]
      exact iv_qsrc (ih (by omega)) (fun x hx => (gQ_mem N x hx).1) (fun h1 _ => ⟨by omega, h1, z⟩)
    · rw [if_neg z]; exact ih (by omega)
theorem qsrc_qd {bar : Nat → Bool} {lim p q e : Nat} {Q : Qu} (h : qd Q q = some e) : qd (qsrc bar lim Q p) q = some e := by
  unfold qsrc
  by_cases z : pop p ≤ lim
  · rw [if_pos z]; exact qput_qd h
  · rw [if_neg z]; exact h
theorem qsrc_at {bar : Nat → Bool} {lim p : Nat} {Q : Qu} (h0 : ∀ x, x ∈ Q → x.2 = 0) (hl : pop p ≤ lim) (hb : bar p = false) : qd (qsrc bar lim Q p) p = some 0 := by
  unfold qsrc
  rw [if_pos hl]
  rcases qput_c bar 0 Q p with ⟨e, h1, -⟩ | ⟨e, hn⟩
  · rw [e, qd_app, if_pos h1, if_pos rfl]
  · rw [e]
    cases hd : qd Q p with
    | none => exact absurd ⟨hd, hb⟩ hn
    | some d =>
      have := h0 _ (qd_mem hd)
      have : d = 0 := this
      rw [this]
theorem gQ_at {set : Nat} {ex : Bool} {lim : Nat} : ∀ N p, p < N → pop p ≤ lim → GlB set ex p = true → qd (gQ nob set ex lim N) p = some 0 := by
  intro N
  induction N with
  | zero => intro p h; omega
  | succ N ih =>
    intro p hp hl hg
    rw [gQ_s]
    by_cases e : p = N
    · subst e
      rw [if_pos hg]
      exact qsrc_at (fun x hx => (gQ_mem p x hx).1) hl rfl
    · have h1 := ih p (by omega) hl hg
      by_cases z : GlB set ex N = true
      · rw [if_pos z]; exact qsrc_qd h1
      · rw [if_neg z]; exact h1
theorem gQ_sd {sc : Sg} {set : Nat} {ex : Bool} {lim : Nat} : Sd (src0 (SG sc set ex lim)) (gQ nob set ex lim (2 ^ sc.1 4)) := by
  rintro p d ⟨⟨h1, h2, h3⟩, rfl⟩
  exact ⟨0, gQ_at _ p h1 h2 h3, Nat.le_refl _⟩
theorem QB.src {sc : Sg} {lim B : Nat} {Q : Qu} {bar : Nat → Bool} {p : Nat} (h : QB sc lim B Q) (hp : p < 2 ^ sc.1 4) : QB sc lim B (qsrc bar lim Q p) := by
  unfold qsrc
  by_cases z : pop p ≤ lim
  · rw [if_pos z]; exact h.put hp z (Nat.zero_le _)
  · rw [if_neg z]; exact h
theorem gQ_qb {sc : Sg} {bar : Nat → Bool} {set : Nat} {ex : Bool} {lim : Nat} : ∀ N, N ≤ 2 ^ sc.1 4 → QB sc lim 0 (gQ bar set ex lim N) := by
  intro N
  induction N with
  | zero => intro _; exact QB.nil _ _ _
  | succ N ih =>
    intro hN
    rw [gQ_s]
    by_cases z : GlB set ex N = true
    · rw [if_pos z]; exact (ih (by omega)).src (by omega)
    · rw [if_neg z]; exact ih (by omega)
theorem gQ_gap {bar : Nat → Bool} {set : Nat} {ex : Bool} {lim : Nat} : ∀ d y, (∀ p, y ≤ p → p < y + d → GlB set ex p = false) → gQ bar set ex lim (y + d) = gQ bar set ex lim y := by
  intro d
  induction d with
  | zero => intro y _; rfl
  | succ d ih =>
    intro y h
    rw [← Nat.add_assoc, gQ_s, if_neg (by rw [h (y + d) (by omega) (by omega)]; intro z; cases z)]
    exact ih y (fun p h1 h2 => h p h1 (by omega))
theorem gQ_ex {bar : Nat → Bool} {set lim N : Nat} (h : set < N) : gQ bar set true lim N = qsrc bar lim [] set := by
  have e : ∀ p, p ≠ set → GlB set true p = false := fun p hp => by unfold GlB; rw [if_pos rfl]; exact decide_eq_false hp
  have h1 := gQ_gap (bar := bar) (set := set) (ex := true) (lim := lim) set 0 (fun p _ h2 => e p (by omega))
  rw [Nat.zero_add] at h1
  have h2 := gQ_gap (bar := bar) (set := set) (ex := true) (lim := lim) (N - (set + 1)) (set + 1) (fun p h3 _ => e p (by omega))
  rw [show set + 1 + (N - (set + 1)) = N by omega] at h2
  rw [h2, gQ_s, if_pos (by unfold GlB; rw [if_pos rfl]; exact decide_eq_true rfl), h1]
  rfl
/-- from one set of SUMS to the next one that has those wanted -/
theorem sup_next : ∀ x s p, x &&& s = s → p &&& s = s → x + 1 ≤ p → (x + 1) ||| s ≤ p := by
  intro x
  induction x using Nat.strongRecOn with
  | ind x ih =>
    intro s p hx hp hle
    have hd : ∀ a b : Nat, (a &&& b) / 2 = a / 2 &&& b / 2 := fun _ _ => Nat.and_div_two
    have ho : ∀ a b : Nat, (a ||| b) / 2 = a / 2 ||| b / 2 := fun _ _ => Nat.or_div_two
    have hm : ∀ a b : Nat, (a &&& b) % 2 = a % 2 * (b % 2) := by
      intro a b
      have h1 := Nat.and_mod_two_pow (n := 1) (a := a) (b := b)
      simp only [Nat.pow_one] at h1
      rw [h1]
      rcases Nat.mod_two_eq_zero_or_one a with e | e <;> rcases Nat.mod_two_eq_zero_or_one b with e2 | e2 <;> rw [e, e2] <;> rfl
    have hom : ∀ a b : Nat, (a ||| b) % 2 = a % 2 + b % 2 - a % 2 * (b % 2) := by
      intro a b
      have h1 := Nat.or_mod_two_pow (n := 1) (a := a) (b := b)
      simp only [Nat.pow_one] at h1
      rw [h1]
      rcases Nat.mod_two_eq_zero_or_one a with e | e <;> rcases Nat.mod_two_eq_zero_or_one b with e2 | e2 <;> rw [e, e2] <;> rfl
    have x1 : x / 2 &&& s / 2 = s / 2 := by rw [← hd, hx]
    have p1 : p / 2 &&& s / 2 = s / 2 := by rw [← hd, hp]
    have x2 : x % 2 * (s % 2) = s % 2 := by rw [← hm, hx]
    have p2 : p % 2 * (s % 2) = s % 2 := by rw [← hm, hp]
    have e1 := ho (x + 1) s
    have e2 := hom (x + 1) s
    rcases Nat.mod_two_eq_zero_or_one x with z | z
    · rw [z, Nat.zero_mul] at x2
      rw [← x2, Nat.mul_zero] at e2
      have hor : x / 2 ||| s / 2 = x / 2 := by
        apply Nat.eq_of_testBit_eq
        intro i
        have := congrArg (fun q => q.testBit i) x1
        simp only [Nat.testBit_and] at this
        rw [Nat.testBit_or]
        cases h1 : (x / 2).testBit i <;> cases h2 : (s / 2).testBit i <;> simp_all
      rw [show (x + 1) / 2 = x / 2 by omega, hor] at e1
      omega
    · have h3 := ih (x / 2) (by omega) (s / 2) (p / 2) x1 p1 (by omega)
      rw [show (x + 1) / 2 = x / 2 + 1 by omega] at e1
      rw [show (x + 1) % 2 = 0 by omega, Nat.zero_mul] at e2
      have h4 : s % 2 ≤ p % 2 := by
        rcases Nat.mod_two_eq_zero_or_one p with y | y
        · rw [y, Nat.zero_mul] at p2; omega
        · rw [y, Nat.one_mul] at p2
          have := Nat.mod_lt s (show 0 < 2 by decide)
          omega
      omega
theorem sup_or (x s : Nat) : ((x ||| s) &&& s) = s := by
  apply Nat.eq_of_testBit_eq
  intro i
  rw [Nat.testBit_and, Nat.testBit_or]
  cases x.testBit i <;> cases s.testBit i <;> rfl
set_option maxHeartbeats 4000000 in
theorem t_aim {sc : Sg} (g : Gd sc) {a b : Nat} {w : Wd} (ab : AB a b) (hc : ClS 0 sc w) (s3 : gP w 3 = a) (s4 : gP w 4 = b) {lim set : Nat} (ex : Bool) (hlim : lim < 2 ^ 31) (hset : set < 2 ^ sc.1 4) : ∃ w', zE 77 [.ref 58, .int (nI set), .int (bI ex), .int (nI lim)] w = some (none, w') ∧ SrC sc lim 0 a b (gQ nob set ex lim (2 ^ sc.1 4)) 0 w' ∧ SfC a b w w' := by
  obtain ⟨w1, b1, b2, b3⟩ := t_reset g ab hc s3 s4 lim
  have h16 := p14 g
  cases ex with
  | true =>
    obtain ⟨w2, c1, c2, c3⟩ := t_putSource g ab b2 (QB.nil sc lim 0) (by decide) hlim hset
    refine ⟨w2, ?_, ?_, b3.tr c3⟩
    · rw [zE_W []]
      simp (disch := omega) only [tt_77, T_77, mx_77, Nat.reduceLT, Nat.reduceLeDiff, Nat.reduceEqDiff, Nat.reduceAdd, Nat.reduceMul, Nat.reduceSub, Nat.reducePow, Nat.reduceMod, Nat.reduceDiv, Nat.reduceBEq, ↓reduceIte, reduceCtorEq, and_true, true_and, and_false, false_and, and_self, zW_eq, zin, zop, zst, fw_ite, fw_K, fw_R, fw_F, fw_C, zBW_s, nth, stL, okL, nlg, ct, ctv, cI, cL, pu, tkC, iniL, pad, eL, Value.category, swK, bz_0, bz_n0, bz_n1, bI_bz, bI_0, bI_t, bI_f, List.headD_cons, decide_true, decide_false, Bool.true_and, Bool.and_true, Bool.false_and, Bool.and_false, Bool.and_self, Bool.not_true, Bool.not_false, Bool.or_false, Bool.false_or, Bool.true_or, Bool.or_true, Bool.or_self, Bool.false_eq_true, rf_45, rf_47, rf_49, rf_50, rf_51, rf_58, rf_63, rf_65, rf_267, rf45, rf50, rf58, rf63, rf267, ob_45, ob_49, ob_50, ob_58, ob_63, ob_267, ln_46, ln_46n, ln_46m, ln_47, ln_47n, ln_48, ln_48n, ln_51, ln_56, ln_57, ln_59, ln_60, ln_61, ln_62, ln_64, ln_64n, ln_65, ln_268, ln_269, ln_270, ln_270n, ln_271, ln_271n, ln_272, ln_272n, ln_272m, ln_273, ln_274, ln_275, ln_276, ln_277, ln_278, ln_278n, ln_279, ln_280, ln_281, ln_282, ln_283, ln_283n, ln_284, ln_285, ln_286, ln_286n, ln_287, ln_287n, ln_288, ln_289, ln_289n, gF_sF, gF_sG, gF_sI, gF_sJ, gF_sP, gF_sR, gF_sL, gG_sF, gG_sG, gG_sI, gG_sJ, gG_sP, gG_sR, gG_sL, gI_sF, gI_sG, gI_sI, gI_sJ, gI_sP, gI_sR, gI_sL, gJ_sF, gJ_sG, gJ_sI, gJ_sJ, gJ_sP, gJ_sR, gJ_sL, gP_sF, gP_sG, gP_sI, gP_sJ, gP_sP, gP_sR, gP_sL, inB_n, inC_n, iX_n, nI_add, pk_mul, pk_sub, n_and, n_or, n_xor, n_one, n_ush, n_shr, n_div, n_rem, n_ltm, m_ltn, m_ltm, n_eqm, m_eqn, m_eqm, n_lt, n_eq, n_eq0, n_addm, n_i2l, m_i2l, n_l2i, lN_add, lN_mul, lN_sub, l_div, l_rem, l_eq0, lc_lt, lc_gt, lc_eq, l_lt, l_eq, l_ltm, ml_ltn, ml_ltm, l_eqm, ml_eqn, ml_eqm, ls_1, ls_2, ls_3, ls_4, ls_5, ls_6, ls_7, ls_8, ls_10, ls_11, ls_12, ls_13, ls_14, ls_15, ls_16, ls_17, ob_0, ob_9, rf_0, rf_9, b1, c1]
    · rw [gQ_ex hset]
      rw [barF_0] at c2
      exact c2
  | false =>
    have lp : ∀ d x y W, 16385 ≤ x + d → x &&& set = set → y ≤ x → y ≤ 2 ^ sc.1 4 → x < 2 ^ 20 → (∀ p, y ≤ p → p < x → GlB set false p = false) → SrC sc lim 0 a b (gQ nob set false lim y) 0 W → SfC a b w W → ∃ w', zR 77 18 [.ref 58, .int (nI set), .int (nI 0), .int (nI lim), .int (nI x)] [] W = some (none, w') ∧ SrC sc lim 0 a b (gQ nob set false lim (2 ^ sc.1 4)) 0 w' ∧ SfC a b w w' := by
      intro d
      induction d with
      | zero =>
        intro x y W hd hx hy hy2 hx20 hgap sW fW
        have q : ¬ x < 2 ^ sc.1 4 := by omega
        refine ⟨W, ?_, ?_, fW⟩
        · rw [zR_W [18]]
          simp (disch := omega) only [tt_77, T_77, mx_77, Nat.reduceLT, Nat.reduceLeDiff, Nat.reduceEqDiff, Nat.reduceAdd, Nat.reduceMul, Nat.reduceSub, Nat.reducePow, Nat.reduceMod, Nat.reduceDiv, Nat.reduceBEq, ↓reduceIte, reduceCtorEq, and_true, true_and, and_false, false_and, and_self, zW_eq, zin, zop, zst, fw_ite, fw_K, fw_R, fw_F, fw_C, zBW_s, nth, stL, okL, nlg, ct, ctv, cI, cL, pu, tkC, iniL, pad, eL, Value.category, swK, bz_0, bz_n0, bz_n1, bI_bz, bI_0, bI_t, bI_f, List.headD_cons, decide_true, decide_false, Bool.true_and, Bool.and_true, Bool.false_and, Bool.and_false, Bool.and_self, Bool.not_true, Bool.not_false, Bool.or_false, Bool.false_or, Bool.true_or, Bool.or_true, Bool.or_self, Bool.false_eq_true, rf_45, rf_47, rf_49, rf_50, rf_51, rf_58, rf_63, rf_65, rf_267, rf45, rf50, rf58, rf63, rf267, ob_45, ob_49, ob_50, ob_58, ob_63, ob_267, ln_46, ln_46n, ln_46m, ln_47, ln_47n, ln_48, ln_48n, ln_51, ln_56, ln_57, ln_59, ln_60, ln_61, ln_62, ln_64, ln_64n, ln_65, ln_268, ln_269, ln_270, ln_270n, ln_271, ln_271n, ln_272, ln_272n, ln_272m, ln_273, ln_274, ln_275, ln_276, ln_277, ln_278, ln_278n, ln_279, ln_280, ln_281, ln_282, ln_283, ln_283n, ln_284, ln_285, ln_286, ln_286n, ln_287, ln_287n, ln_288, ln_289, ln_289n, gF_sF, gF_sG, gF_sI, gF_sJ, gF_sP, gF_sR, gF_sL, gG_sF, gG_sG, gG_sI, gG_sJ, gG_sP, gG_sR, gG_sL, gI_sF, gI_sG, gI_sI, gI_sJ, gI_sP, gI_sR, gI_sL, gJ_sF, gJ_sG, gJ_sI, gJ_sJ, gJ_sP, gJ_sR, gJ_sL, gP_sF, gP_sG, gP_sI, gP_sJ, gP_sP, gP_sR, gP_sL, inB_n, inC_n, iX_n, nI_add, pk_mul, pk_sub, n_and, n_or, n_xor, n_one, n_ush, n_shr, n_div, n_rem, n_ltm, m_ltn, m_ltm, n_eqm, m_eqn, m_eqm, n_lt, n_eq, n_eq0, n_addm, n_i2l, m_i2l, n_l2i, lN_add, lN_mul, lN_sub, l_div, l_rem, l_eq0, lc_lt, lc_gt, lc_eq, l_lt, l_eq, l_ltm, ml_ltn, ml_ltm, l_eqm, ml_eqn, ml_eqm, ls_1, ls_2, ls_3, ls_4, ls_5, ls_6, ls_7, ls_8, ls_10, ls_11, ls_12, ls_13, ls_14, ls_15, ls_16, ls_17, ob_0, ob_9, rf_0, rf_9, t_positions g sW.1, q]
        · have := gQ_gap (bar := nob) (lim := lim) (2 ^ sc.1 4 - y) y (fun p h1 h2 => hgap p h1 (by omega))
          rw [show y + (2 ^ sc.1 4 - y) = 2 ^ sc.1 4 by omega] at this
          rw [this]
          exact sW
      | succ d ih =>
        intro x y W hd hx hy hy2 hx20 hgap sW fW
        by_cases q : x < 2 ^ sc.1 4
        · have hg : gQ nob set false lim x = gQ nob set false lim y := by
            have := gQ_gap (bar := nob) (lim := lim) (x - y) y (fun p h1 h2 => hgap p h1 (by omega))
            rw [show y + (x - y) = x by omega] at this
            exact this
          rw [← hg] at sW
          obtain ⟨W2, c1, c2, c3⟩ := t_putSource g ab sW (gQ_qb x (by omega)) (by decide) hlim q
          rw [barF_0] at c2
          have hgl : GlB set false x = true := by unfold GlB; rw [if_neg (by decide)]; exact decide_eq_true hx
          have e2 : qsrc nob lim (gQ nob set false lim x) x = gQ nob set false lim (x + 1) := by rw [gQ_s, if_pos hgl]
          rw [e2] at c2
          have hle : x + 1 ≤ x + 1 ||| set := Nat.left_le_or
          have hlt : x + 1 ||| set < 2 ^ 15 := Nat.or_lt_two_pow (by omega) (by omega)
          obtain ⟨w', d1, d2⟩ := ih (x + 1 ||| set) (x + 1) W2 (by omega) (sup_or _ _) hle (by omega) (by omega) (fun p h1 h2 => by
            unfold GlB
            rw [if_neg (by decide)]
            refine decide_eq_false (fun h3 => ?_)
            have := sup_next x set p hx h3 h1
            omega) c2 (fW.tr c3)
          refine ⟨w', ?_, d2⟩
          rw [zR_W [18]]
          simp (disch := omega) only [tt_77, T_77, mx_77, Nat.reduceLT, Nat.reduceLeDiff, Nat.reduceEqDiff, Nat.reduceAdd, Nat.reduceMul, Nat.reduceSub, Nat.reducePow, Nat.reduceMod, Nat.reduceDiv, Nat.reduceBEq, ↓reduceIte, reduceCtorEq, and_true, true_and, and_false, false_and, and_self, zW_eq, zin, zop, zst, fw_ite, fw_K, fw_R, fw_F, fw_C, zBW_s, nth, stL, okL, nlg, ct, ctv, cI, cL, pu, tkC, iniL, pad, eL, Value.category, swK, bz_0, bz_n0, bz_n1, bI_bz, bI_0, bI_t, bI_f, List.headD_cons, decide_true, decide_false, Bool.true_and, Bool.and_true, Bool.false_and, Bool.and_false, Bool.and_self, Bool.not_true, Bool.not_false, Bool.or_false, Bool.false_or, Bool.true_or, Bool.or_true, Bool.or_self, Bool.false_eq_true, rf_45, rf_47, rf_49, rf_50, rf_51, rf_58, rf_63, rf_65, rf_267, rf45, rf50, rf58, rf63, rf267, ob_45, ob_49, ob_50, ob_58, ob_63, ob_267, ln_46, ln_46n, ln_46m, ln_47, ln_47n, ln_48, ln_48n, ln_51, ln_56, ln_57, ln_59, ln_60, ln_61, ln_62, ln_64, ln_64n, ln_65, ln_268, ln_269, ln_270, ln_270n, ln_271, ln_271n, ln_272, ln_272n, ln_272m, ln_273, ln_274, ln_275, ln_276, ln_277, ln_278, ln_278n, ln_279, ln_280, ln_281, ln_282, ln_283, ln_283n, ln_284, ln_285, ln_286, ln_286n, ln_287, ln_287n, ln_288, ln_289, ln_289n, gF_sF, gF_sG, gF_sI, gF_sJ, gF_sP, gF_sR, gF_sL, gG_sF, gG_sG, gG_sI, gG_sJ, gG_sP, gG_sR, gG_sL, gI_sF, gI_sG, gI_sI, gI_sJ, gI_sP, gI_sR, gI_sL, gJ_sF, gJ_sG, gJ_sI, gJ_sJ, gJ_sP, gJ_sR, gJ_sL, gP_sF, gP_sG, gP_sI, gP_sJ, gP_sP, gP_sR, gP_sL, inB_n, inC_n, iX_n, nI_add, pk_mul, pk_sub, n_and, n_or, n_xor, n_one, n_ush, n_shr, n_div, n_rem, n_ltm, m_ltn, m_ltm, n_eqm, m_eqn, m_eqm, n_lt, n_eq, n_eq0, n_addm, n_i2l, m_i2l, n_l2i, lN_add, lN_mul, lN_sub, l_div, l_rem, l_eq0, lc_lt, lc_gt, lc_eq, l_lt, l_eq, l_ltm, ml_ltn, ml_ltm, l_eqm, ml_eqn, ml_eqm, ls_1, ls_2, ls_3, ls_4, ls_5, ls_6, ls_7, ls_8, ls_10, ls_11, ls_12, ls_13, ls_14, ls_15, ls_16, ls_17, ob_0, ob_9, rf_0, rf_9, t_positions g sW.1, q, c1, d1]
        · refine ⟨W, ?_, ?_, fW⟩
          · rw [zR_W [18]]
            simp (disch := omega) only [tt_77, T_77, mx_77, Nat.reduceLT, Nat.reduceLeDiff, Nat.reduceEqDiff, Nat.reduceAdd, Nat.reduceMul, Nat.reduceSub, Nat.reducePow, Nat.reduceMod, Nat.reduceDiv, Nat.reduceBEq, ↓reduceIte, reduceCtorEq, and_true, true_and, and_false, false_and, and_self, zW_eq, zin, zop, zst, fw_ite, fw_K, fw_R, fw_F, fw_C, zBW_s, nth, stL, okL, nlg, ct, ctv, cI, cL, pu, tkC, iniL, pad, eL, Value.category, swK, bz_0, bz_n0, bz_n1, bI_bz, bI_0, bI_t, bI_f, List.headD_cons, decide_true, decide_false, Bool.true_and, Bool.and_true, Bool.false_and, Bool.and_false, Bool.and_self, Bool.not_true, Bool.not_false, Bool.or_false, Bool.false_or, Bool.true_or, Bool.or_true, Bool.or_self, Bool.false_eq_true, rf_45, rf_47, rf_49, rf_50, rf_51, rf_58, rf_63, rf_65, rf_267, rf45, rf50, rf58, rf63, rf267, ob_45, ob_49, ob_50, ob_58, ob_63, ob_267, ln_46, ln_46n, ln_46m, ln_47, ln_47n, ln_48, ln_48n, ln_51, ln_56, ln_57, ln_59, ln_60, ln_61, ln_62, ln_64, ln_64n, ln_65, ln_268, ln_269, ln_270, ln_270n, ln_271, ln_271n, ln_272, ln_272n, ln_272m, ln_273, ln_274, ln_275, ln_276, ln_277, ln_278, ln_278n, ln_279, ln_280, ln_281, ln_282, ln_283, ln_283n, ln_284, ln_285, ln_286, ln_286n, ln_287, ln_287n, ln_288, ln_289, ln_289n, gF_sF, gF_sG, gF_sI, gF_sJ, gF_sP, gF_sR, gF_sL, gG_sF, gG_sG, gG_sI, gG_sJ, gG_sP, gG_sR, gG_sL, gI_sF, gI_sG, gI_sI, gI_sJ, gI_sP, gI_sR, gI_sL, gJ_sF, gJ_sG, gJ_sI, gJ_sJ, gJ_sP, gJ_sR, gJ_sL, gP_sF, gP_sG, gP_sI, gP_sJ, gP_sP, gP_sR, gP_sL, inB_n, inC_n, iX_n, nI_add, pk_mul, pk_sub, n_and, n_or, n_xor, n_one, n_ush, n_shr, n_div, n_rem, n_ltm, m_ltn, m_ltm, n_eqm, m_eqn, m_eqm, n_lt, n_eq, n_eq0, n_addm, n_i2l, m_i2l, n_l2i, lN_add, lN_mul, lN_sub, l_div, l_rem, l_eq0, lc_lt, lc_gt, lc_eq, l_lt, l_eq, l_ltm, ml_ltn, ml_ltm, l_eqm, ml_eqn, ml_eqm, ls_1, ls_2, ls_3, ls_4, ls_5, ls_6, ls_7, ls_8, ls_10, ls_11, ls_12, ls_13, ls_14, ls_15, ls_16, ls_17, ob_0, ob_9, rf_0, rf_9, t_positions g sW.1, q]
          · have := gQ_gap (bar := nob) (lim := lim) (2 ^ sc.1 4 - y) y (fun p h1 h2 => hgap p h1 (by omega))
            rw [show y + (2 ^ sc.1 4 - y) = 2 ^ sc.1 4 by omega] at this
            rw [this]
            exact sW
    obtain ⟨w', c1, c2⟩ := lp 16385 set 0 w1 (by omega) (Nat.and_self _) (by omega) (by omega) (by omega) (fun p _ h2 => by
      unfold GlB
      rw [if_neg (by decide)]
      refine decide_eq_false (fun h3 => ?_)
      have : p &&& set ≤ p := Nat.and_le_left
      omega) b2 b3
    refine ⟨w', ?_, c2⟩
    rw [zE_W [18]]
    simp (disch := omega) only [tt_77, T_77, mx_77, Nat.reduceLT, Nat.reduceLeDiff, Nat.reduceEqDiff, Nat.reduceAdd, Nat.reduceMul, Nat.reduceSub, Nat.reducePow, Nat.reduceMod, Nat.reduceDiv, Nat.reduceBEq, ↓reduceIte, reduceCtorEq, and_true, true_and, and_false, false_and, and_self, zW_eq, zin, zop, zst, fw_ite, fw_K, fw_R, fw_F, fw_C, zBW_s, nth, stL, okL, nlg, ct, ctv, cI, cL, pu, tkC, iniL, pad, eL, Value.category, swK, bz_0, bz_n0, bz_n1, bI_bz, bI_0, bI_t, bI_f, List.headD_cons, decide_true, decide_false, Bool.true_and, Bool.and_true, Bool.false_and, Bool.and_false, Bool.and_self, Bool.not_true, Bool.not_false, Bool.or_false, Bool.false_or, Bool.true_or, Bool.or_true, Bool.or_self, Bool.false_eq_true, rf_45, rf_47, rf_49, rf_50, rf_51, rf_58, rf_63, rf_65, rf_267, rf45, rf50, rf58, rf63, rf267, ob_45, ob_49, ob_50, ob_58, ob_63, ob_267, ln_46, ln_46n, ln_46m, ln_47, ln_47n, ln_48, ln_48n, ln_51, ln_56, ln_57, ln_59, ln_60, ln_61, ln_62, ln_64, ln_64n, ln_65, ln_268, ln_269, ln_270, ln_270n, ln_271, ln_271n, ln_272, ln_272n, ln_272m, ln_273, ln_274, ln_275, ln_276, ln_277, ln_278, ln_278n, ln_279, ln_280, ln_281, ln_282, ln_283, ln_283n, ln_284, ln_285, ln_286, ln_286n, ln_287, ln_287n, ln_288, ln_289, ln_289n, gF_sF, gF_sG, gF_sI, gF_sJ, gF_sP, gF_sR, gF_sL, gG_sF, gG_sG, gG_sI, gG_sJ, gG_sP, gG_sR, gG_sL, gI_sF, gI_sG, gI_sI, gI_sJ, gI_sP, gI_sR, gI_sL, gJ_sF, gJ_sG, gJ_sI, gJ_sJ, gJ_sP, gJ_sR, gJ_sL, gP_sF, gP_sG, gP_sI, gP_sJ, gP_sP, gP_sR, gP_sL, inB_n, inC_n, iX_n, nI_add, pk_mul, pk_sub, n_and, n_or, n_xor, n_one, n_ush, n_shr, n_div, n_rem, n_ltm, m_ltn, m_ltm, n_eqm, m_eqn, m_eqm, n_lt, n_eq, n_eq0, n_addm, n_i2l, m_i2l, n_l2i, lN_add, lN_mul, lN_sub, l_div, l_rem, l_eq0, lc_lt, lc_gt, lc_eq, l_lt, l_eq, l_ltm, ml_ltn, ml_ltm, l_eqm, ml_eqn, ml_eqm, ls_1, ls_2, ls_3, ls_4, ls_5, ls_6, ls_7, ls_8, ls_10, ls_11, ls_12, ls_13, ls_14, ls_15, ls_16, ls_17, ob_0, ob_9, rf_0, rf_9, b1, c1]
/-- a flood to its end: what each step keeps holds at the end -/
theorem t_flood {sc : Sg} (g : Gd sc) {lim bar a b B : Nat} (ab : AB a b) (hB : B ≤ 262144) (hlim : lim < 2 ^ 31) (I : Qu → Nat → Prop) (hI : ∀ Q h, I Q h → QB sc lim B Q → h < Q.length → I (exC sc lim (barF bar) Q h) (h + 1)) {Q : Qu} {h : Nat} {w : Wd} (s : SrC sc lim bar a b Q h w) (qb : QB sc lim B Q) (i : I Q h) (hh : h ≤ Q.length) : ∃ Q' w', zE 74 [.ref 58] w = some (none, w') ∧ SrC sc lim bar a b Q' Q'.length w' ∧ SfC a b w w' ∧ QB sc lim B Q' ∧ I Q' Q'.length := by
  have lp : ∀ f Q h n W, f + h = 16384 → n ≤ h → h ≤ Q.length → SrC sc lim bar a b Q h W → QB sc lim B Q → I Q h → SfC a b w W → ∃ Q' w', zR 74 2 [.ref 58, .int (nI n)] [] W = some (none, w') ∧ SrC sc lim bar a b Q' Q'.length w' ∧ SfC a b w w' ∧ QB sc lim B Q' ∧ I Q' Q'.length := by
    intro f
    induction f with
    | zero =>
      intro Q h n W hf hn hle s qb i fW
      have hl := qb.len14 g
      have e : h = Q.length := by omega
      subst e
      have s5 := s.2.2.2.2.2.1
      have s6 := s.2.2.2.2.2.2.1
      refine ⟨Q, W, ?_, s, fW, qb, i⟩
      rw [zR_W [2]]
      by_cases z : n < 16384
      · simp (disch := omega) only [tt_74, T_74, mx_74, Nat.reduceLT, Nat.reduceLeDiff, Nat.reduceEqDiff, Nat.reduceAdd, Nat.reduceMul, Nat.reduceSub, Nat.reducePow, Nat.reduceMod, Nat.reduceDiv, Nat.reduceBEq, ↓reduceIte, reduceCtorEq, and_true, true_and, and_false, false_and, and_self, zW_eq, zin, zop, zst, fw_ite, fw_K, fw_R, fw_F, fw_C, zBW_s, nth, stL, okL, nlg, ct, ctv, cI, cL, pu, tkC, iniL, pad, eL, Value.category, swK, bz_0, bz_n0, bz_n1, bI_bz, bI_0, bI_t, bI_f, List.headD_cons, decide_true, decide_false, Bool.true_and, Bool.and_true, Bool.false_and, Bool.and_false, Bool.and_self, Bool.not_true, Bool.not_false, Bool.or_false, Bool.false_or, Bool.true_or, Bool.or_true, Bool.or_self, Bool.false_eq_true, rf_45, rf_47, rf_49, rf_50, rf_51, rf_58, rf_63, rf_65, rf_267, rf45, rf50, rf58, rf63, rf267, ob_45, ob_49, ob_50, ob_58, ob_63, ob_267, ln_46, ln_46n, ln_46m, ln_47, ln_47n, ln_48, ln_48n, ln_51, ln_56, ln_57, ln_59, ln_60, ln_61, ln_62, ln_64, ln_64n, ln_65, ln_268, ln_269, ln_270, ln_270n, ln_271, ln_271n, ln_272, ln_272n, ln_272m, ln_273, ln_274, ln_275, ln_276, ln_277, ln_278, ln_278n, ln_279, ln_280, ln_281, ln_282, ln_283, ln_283n, ln_284, ln_285, ln_286, ln_286n, ln_287, ln_287n, ln_288, ln_289, ln_289n, gF_sF, gF_sG, gF_sI, gF_sJ, gF_sP, gF_sR, gF_sL, gG_sF, gG_sG, gG_sI, gG_sJ, gG_sP, gG_sR, gG_sL, gI_sF, gI_sG, gI_sI, gI_sJ, gI_sP, gI_sR, gI_sL, gJ_sF, gJ_sG, gJ_sI, gJ_sJ, gJ_sP, gJ_sR, gJ_sL, gP_sF, gP_sG, gP_sI, gP_sJ, gP_sP, gP_sR, gP_sL, inB_n, inC_n, iX_n, nI_add, pk_mul, pk_sub, n_and, n_or, n_xor, n_one, n_ush, n_shr, n_div, n_rem, n_ltm, m_ltn, m_ltm, n_eqm, m_eqn, m_eqm, n_lt, n_eq, n_eq0, n_addm, n_i2l, m_i2l, n_l2i, lN_add, lN_mul, lN_sub, l_div, l_rem, l_eq0, lc_lt, lc_gt, lc_eq, l_lt, l_eq, l_ltm, ml_ltn, ml_ltm, l_eqm, ml_eqn, ml_eqm, ls_1, ls_2, ls_3, ls_4, ls_5, ls_6, ls_7, ls_8, ls_10, ls_11, ls_12, ls_13, ls_14, ls_15, ls_16, ls_17, ob_0, ob_9, rf_0, rf_9, z, s5, s6, Nat.lt_irrefl]
      · simp (disch := omega) only [tt_74, T_74, mx_74, Nat.reduceLT, Nat.reduceLeDiff, Nat.reduceEqDiff, Nat.reduceAdd, Nat.reduceMul, Nat.reduceSub, Nat.reducePow, Nat.reduceMod, Nat.reduceDiv, Nat.reduceBEq, ↓reduceIte, reduceCtorEq, and_true, true_and, and_false, false_and, and_self, zW_eq, zin, zop, zst, fw_ite, fw_K, fw_R, fw_F, fw_C, zBW_s, nth, stL, okL, nlg, ct, ctv, cI, cL, pu, tkC, iniL, pad, eL, Value.category, swK, bz_0, bz_n0, bz_n1, bI_bz, bI_0, bI_t, bI_f, List.headD_cons, decide_true, decide_false, Bool.true_and, Bool.and_true, Bool.false_and, Bool.and_false, Bool.and_self, Bool.not_true, Bool.not_false, Bool.or_false, Bool.false_or, Bool.true_or, Bool.or_true, Bool.or_self, Bool.false_eq_true, rf_45, rf_47, rf_49, rf_50, rf_51, rf_58, rf_63, rf_65, rf_267, rf45, rf50, rf58, rf63, rf267, ob_45, ob_49, ob_50, ob_58, ob_63, ob_267, ln_46, ln_46n, ln_46m, ln_47, ln_47n, ln_48, ln_48n, ln_51, ln_56, ln_57, ln_59, ln_60, ln_61, ln_62, ln_64, ln_64n, ln_65, ln_268, ln_269, ln_270, ln_270n, ln_271, ln_271n, ln_272, ln_272n, ln_272m, ln_273, ln_274, ln_275, ln_276, ln_277, ln_278, ln_278n, ln_279, ln_280, ln_281, ln_282, ln_283, ln_283n, ln_284, ln_285, ln_286, ln_286n, ln_287, ln_287n, ln_288, ln_289, ln_289n, gF_sF, gF_sG, gF_sI, gF_sJ, gF_sP, gF_sR, gF_sL, gG_sF, gG_sG, gG_sI, gG_sJ, gG_sP, gG_sR, gG_sL, gI_sF, gI_sG, gI_sI, gI_sJ, gI_sP, gI_sR, gI_sL, gJ_sF, gJ_sG, gJ_sI, gJ_sJ, gJ_sP, gJ_sR, gJ_sL, gP_sF, gP_sG, gP_sI, gP_sJ, gP_sP, gP_sR, gP_sL, inB_n, inC_n, iX_n, nI_add, pk_mul, pk_sub, n_and, n_or, n_xor, n_one, n_ush, n_shr, n_div, n_rem, n_ltm, m_ltn, m_ltm, n_eqm, m_eqn, m_eqm, n_lt, n_eq, n_eq0, n_addm, n_i2l, m_i2l, n_l2i, lN_add, lN_mul, lN_sub, l_div, l_rem, l_eq0, lc_lt, lc_gt, lc_eq, l_lt, l_eq, l_ltm, ml_ltn, ml_ltm, l_eqm, ml_eqn, ml_eqm, ls_1, ls_2, ls_3, ls_4, ls_5, ls_6, ls_7, ls_8, ls_10, ls_11, ls_12, ls_13, ls_14, ls_15, ls_16, ls_17, ob_0, ob_9, rf_0, rf_9, z]
    | succ f ih =>
      intro Q h n W hf hn hle s qb i fW
      have hl := qb.len14 g
      have s5 := s.2.2.2.2.2.1
      have s6 := s.2.2.2.2.2.2.1
      have z : n < 16384 := by omega
      by_cases q : h < Q.length
      · obtain ⟨W2, c1, c2, c3⟩ := t_expandNext g ab s qb hB hlim q
        have hle2 : h + 1 ≤ (exC sc lim (barF bar) Q h).length := Nat.lt_of_lt_of_le q (fold_le _ _ _ _)
        obtain ⟨Q', w', d1, d2⟩ := ih _ (h + 1) (n + 1) W2 (by omega) (by omega) hle2 c2 (qb.exC g q) (hI Q h i qb q) (fW.tr c3)
        refine ⟨Q', w', ?_, d2⟩
        rw [zR_W [2]]
        simp (disch := omega) only [tt_74, T_74, mx_74, Nat.reduceLT, Nat.reduceLeDiff, Nat.reduceEqDiff, Nat.reduceAdd, Nat.reduceMul, Nat.reduceSub, Nat.reducePow, Nat.reduceMod, Nat.reduceDiv, Nat.reduceBEq, ↓reduceIte, reduceCtorEq, and_true, true_and, and_false, false_and, and_self, zW_eq, zin, zop, zst, fw_ite, fw_K, fw_R, fw_F, fw_C, zBW_s, nth, stL, okL, nlg, ct, ctv, cI, cL, pu, tkC, iniL, pad, eL, Value.category, swK, bz_0, bz_n0, bz_n1, bI_bz, bI_0, bI_t, bI_f, List.headD_cons, decide_true, decide_false, Bool.true_and, Bool.and_true, Bool.false_and, Bool.and_false, Bool.and_self, Bool.not_true, Bool.not_false, Bool.or_false, Bool.false_or, Bool.true_or, Bool.or_true, Bool.or_self, Bool.false_eq_true, rf_45, rf_47, rf_49, rf_50, rf_51, rf_58, rf_63, rf_65, rf_267, rf45, rf50, rf58, rf63, rf267, ob_45, ob_49, ob_50, ob_58, ob_63, ob_267, ln_46, ln_46n, ln_46m, ln_47, ln_47n, ln_48, ln_48n, ln_51, ln_56, ln_57, ln_59, ln_60, ln_61, ln_62, ln_64, ln_64n, ln_65, ln_268, ln_269, ln_270, ln_270n, ln_271, ln_271n, ln_272, ln_272n, ln_272m, ln_273, ln_274, ln_275, ln_276, ln_277, ln_278, ln_278n, ln_279, ln_280, ln_281, ln_282, ln_283, ln_283n, ln_284, ln_285, ln_286, ln_286n, ln_287, ln_287n, ln_288, ln_289, ln_289n, gF_sF, gF_sG, gF_sI, gF_sJ, gF_sP, gF_sR, gF_sL, gG_sF, gG_sG, gG_sI, gG_sJ, gG_sP, gG_sR, gG_sL, gI_sF, gI_sG, gI_sI, gI_sJ, gI_sP, gI_sR, gI_sL, gJ_sF, gJ_sG, gJ_sI, gJ_sJ, gJ_sP, gJ_sR, gJ_sL, gP_sF, gP_sG, gP_sI, gP_sJ, gP_sP, gP_sR, gP_sL, inB_n, inC_n, iX_n, nI_add, pk_mul, pk_sub, n_and, n_or, n_xor, n_one, n_ush, n_shr, n_div, n_rem, n_ltm, m_ltn, m_ltm, n_eqm, m_eqn, m_eqm, n_lt, n_eq, n_eq0, n_addm, n_i2l, m_i2l, n_l2i, lN_add, lN_mul, lN_sub, l_div, l_rem, l_eq0, lc_lt, lc_gt, lc_eq, l_lt, l_eq, l_ltm, ml_ltn, ml_ltm, l_eqm, ml_eqn, ml_eqm, ls_1, ls_2, ls_3, ls_4, ls_5, ls_6, ls_7, ls_8, ls_10, ls_11, ls_12, ls_13, ls_14, ls_15, ls_16, ls_17, ob_0, ob_9, rf_0, rf_9, z, s5, s6, q, c1, d1]
      · have e : h = Q.length := by omega
        subst e
        refine ⟨Q, W, ?_, s, fW, qb, i⟩
        rw [zR_W [2]]
        simp (disch := omega) only [tt_74, T_74, mx_74, Nat.reduceLT, Nat.reduceLeDiff, Nat.reduceEqDiff, Nat.reduceAdd, Nat.reduceMul, Nat.reduceSub, Nat.reducePow, Nat.reduceMod, Nat.reduceDiv, Nat.reduceBEq, ↓reduceIte, reduceCtorEq, and_true, true_and, and_false, false_and, and_self, zW_eq, zin, zop, zst, fw_ite, fw_K, fw_R, fw_F, fw_C, zBW_s, nth, stL, okL, nlg, ct, ctv, cI, cL, pu, tkC, iniL, pad, eL, Value.category, swK, bz_0, bz_n0, bz_n1, bI_bz, bI_0, bI_t, bI_f, List.headD_cons, decide_true, decide_false, Bool.true_and, Bool.and_true, Bool.false_and, Bool.and_false, Bool.and_self, Bool.not_true, Bool.not_false, Bool.or_false, Bool.false_or, Bool.true_or, Bool.or_true, Bool.or_self, Bool.false_eq_true, rf_45, rf_47, rf_49, rf_50, rf_51, rf_58, rf_63, rf_65, rf_267, rf45, rf50, rf58, rf63, rf267, ob_45, ob_49, ob_50, ob_58, ob_63, ob_267, ln_46, ln_46n, ln_46m, ln_47, ln_47n, ln_48, ln_48n, ln_51, ln_56, ln_57, ln_59, ln_60, ln_61, ln_62, ln_64, ln_64n, ln_65, ln_268, ln_269, ln_270, ln_270n, ln_271, ln_271n, ln_272, ln_272n, ln_272m, ln_273, ln_274, ln_275, ln_276, ln_277, ln_278, ln_278n, ln_279, ln_280, ln_281, ln_282, ln_283, ln_283n, ln_284, ln_285, ln_286, ln_286n, ln_287, ln_287n, ln_288, ln_289, ln_289n, gF_sF, gF_sG, gF_sI, gF_sJ, gF_sP, gF_sR, gF_sL, gG_sF, gG_sG, gG_sI, gG_sJ, gG_sP, gG_sR, gG_sL, gI_sF, gI_sG, gI_sI, gI_sJ, gI_sP, gI_sR, gI_sL, gJ_sF, gJ_sG, gJ_sI, gJ_sJ, gJ_sP, gJ_sR, gJ_sL, gP_sF, gP_sG, gP_sI, gP_sJ, gP_sP, gP_sR, gP_sL, inB_n, inC_n, iX_n, nI_add, pk_mul, pk_sub, n_and, n_or, n_xor, n_one, n_ush, n_shr, n_div, n_rem, n_ltm, m_ltn, m_ltm, n_eqm, m_eqn, m_eqm, n_lt, n_eq, n_eq0, n_addm, n_i2l, m_i2l, n_l2i, lN_add, lN_mul, lN_sub, l_div, l_rem, l_eq0, lc_lt, lc_gt, lc_eq, l_lt, l_eq, l_ltm, ml_ltn, ml_ltm, l_eqm, ml_eqn, ml_eqm, ls_1, ls_2, ls_3, ls_4, ls_5, ls_6, ls_7, ls_8, ls_10, ls_11, ls_12, ls_13, ls_14, ls_15, ls_16, ls_17, ob_0, ob_9, rf_0, rf_9, z, s5, s6, Nat.lt_irrefl]
  have hl := qb.len14 g
  obtain ⟨Q', w', d1, d2⟩ := lp (16384 - h) Q h 0 w (by omega) (Nat.zero_le _) hh s qb i (SfC.rf _ _ _)
  refine ⟨Q', w', ?_, d2⟩
  rw [zE_W [2]]
  simp (disch := omega) only [tt_74, T_74, mx_74, Nat.reduceLT, Nat.reduceLeDiff, Nat.reduceEqDiff, Nat.reduceAdd, Nat.reduceMul, Nat.reduceSub, Nat.reducePow, Nat.reduceMod, Nat.reduceDiv, Nat.reduceBEq, ↓reduceIte, reduceCtorEq, and_true, true_and, and_false, false_and, and_self, zW_eq, zin, zop, zst, fw_ite, fw_K, fw_R, fw_F, fw_C, zBW_s, nth, stL, okL, nlg, ct, ctv, cI, cL, pu, tkC, iniL, pad, eL, Value.category, swK, bz_0, bz_n0, bz_n1, bI_bz, bI_0, bI_t, bI_f, List.headD_cons, decide_true, decide_false, Bool.true_and, Bool.and_true, Bool.false_and, Bool.and_false, Bool.and_self, Bool.not_true, Bool.not_false, Bool.or_false, Bool.false_or, Bool.true_or, Bool.or_true, Bool.or_self, Bool.false_eq_true, rf_45, rf_47, rf_49, rf_50, rf_51, rf_58, rf_63, rf_65, rf_267, rf45, rf50, rf58, rf63, rf267, ob_45, ob_49, ob_50, ob_58, ob_63, ob_267, ln_46, ln_46n, ln_46m, ln_47, ln_47n, ln_48, ln_48n, ln_51, ln_56, ln_57, ln_59, ln_60, ln_61, ln_62, ln_64, ln_64n, ln_65, ln_268, ln_269, ln_270, ln_270n, ln_271, ln_271n, ln_272, ln_272n, ln_272m, ln_273, ln_274, ln_275, ln_276, ln_277, ln_278, ln_278n, ln_279, ln_280, ln_281, ln_282, ln_283, ln_283n, ln_284, ln_285, ln_286, ln_286n, ln_287, ln_287n, ln_288, ln_289, ln_289n, gF_sF, gF_sG, gF_sI, gF_sJ, gF_sP, gF_sR, gF_sL, gG_sF, gG_sG, gG_sI, gG_sJ, gG_sP, gG_sR, gG_sL, gI_sF, gI_sG, gI_sI, gI_sJ, gI_sP, gI_sR, gI_sL, gJ_sF, gJ_sG, gJ_sI, gJ_sJ, gJ_sP, gJ_sR, gJ_sL, gP_sF, gP_sG, gP_sI, gP_sJ, gP_sP, gP_sR, gP_sL, inB_n, inC_n, iX_n, nI_add, pk_mul, pk_sub, n_and, n_or, n_xor, n_one, n_ush, n_shr, n_div, n_rem, n_ltm, m_ltn, m_ltm, n_eqm, m_eqn, m_eqm, n_lt, n_eq, n_eq0, n_addm, n_i2l, m_i2l, n_l2i, lN_add, lN_mul, lN_sub, l_div, l_rem, l_eq0, lc_lt, lc_gt, lc_eq, l_lt, l_eq, l_ltm, ml_ltn, ml_ltm, l_eqm, ml_eqn, ml_eqm, ls_1, ls_2, ls_3, ls_4, ls_5, ls_6, ls_7, ls_8, ls_10, ls_11, ls_12, ls_13, ls_14, ls_15, ls_16, ls_17, ob_0, ob_9, rf_0, rf_9, d1]
/-- the search ahead, to the first goal -/
theorem t_seek {sc : Sg} (g : Gd sc) {lim bar a b B : Nat} (ab : AB a b) (hB : B ≤ 262144) (hlim : lim < 2 ^ 31) {src : Nat → Nat → Prop} {Q : Qu} {w : Wd} (s : SrC sc lim bar a b Q 0 w) (qb : QB sc lim B Q) (i : Iv (Ed sc lim (barF bar)) src Q 0) (sd : Sd src Q) {set : Nat} (ex : Bool) (hset : set < 2 ^ sc.1 4) : ∃ w', zE 81 [.ref 58, .int (nI set), .int (bI ex)] w = some (some (.int (dI (lst (fun k => ∃ q, GlB set ex q = true ∧ Rc (Ed sc lim (barF bar)) src k q)))), w') ∧ SfC a b w w' ∧ ∀ k, lst (fun k => ∃ q, GlB set ex q = true ∧ Rc (Ed sc lim (barF bar)) src k q) = some k → k < 2 ^ 20 := by
  have h16 := p14 g
  have la := ab.la
  have lb := ab.lb
  have lp : ∀ f Q h n W X, f + h = 16384 → n ≤ h → h ≤ Q.length → SrC sc lim bar a b Q h W → QB sc lim B Q → Iv (Ed sc lim (barF bar)) src Q h → Sd src Q → (∀ j, j < h → GlB set ex (qa Q j).1 = false) → SfC a b w W → ∃ w', zR 81 2 [.ref 58, .int (nI set), .int (bI ex), .int (nI n), X] [] W = some (some (.int (dI (lst (fun k => ∃ q, GlB set ex q = true ∧ Rc (Ed sc lim (barF bar)) src k q)))), w') ∧ SfC a b w w' ∧ ∀ k, lst (fun k => ∃ q, GlB set ex q = true ∧ Rc (Ed sc lim (barF bar)) src k q) = some k → k < 2 ^ 20 := by
    intro f
    induction f with
    | zero =>
      intro Q h n W X hf hn hle s qb i sd hj fW
      have hl := qb.len14 g
      have e : h = Q.length := by omega
      subst e
      have s5 := s.2.2.2.2.2.1
      have s6 := s.2.2.2.2.2.2.1
      have hnone : lst (fun k => ∃ q, GlB set ex q = true ∧ Rc (Ed sc lim (barF bar)) src k q) = none := by
        rw [lst_none]
        rintro k ⟨q, h1, h2⟩
        obtain ⟨d, d1, -⟩ := iv_end i sd k q h2
        obtain ⟨j, hj2, ej⟩ := mem_qa (qd_mem d1)
        have := hj j hj2
        rw [ej] at this
        rw [h1] at this
        cases this
      rw [hnone]
      refine ⟨W, ?_, fW, fun k hk => by cases hk⟩
      rw [zR_W [2]]
      unfold dI
      by_cases z : n < 16384
      · simp (disch := omega) only [tt_81, T_81, mx_81, Nat.reduceLT, Nat.reduceLeDiff, Nat.reduceEqDiff, Nat.reduceAdd, Nat.reduceMul, Nat.reduceSub, Nat.reducePow, Nat.reduceMod, Nat.reduceDiv, Nat.reduceBEq, ↓reduceIte, reduceCtorEq, and_true, true_and, and_false, false_and, and_self, zW_eq, zin, zop, zst, fw_ite, fw_K, fw_R, fw_F, fw_C, zBW_s, nth, stL, okL, nlg, ct, ctv, cI, cL, pu, tkC, iniL, pad, eL, Value.category, swK, bz_0, bz_n0, bz_n1, bI_bz, bI_0, bI_t, bI_f, List.headD_cons, decide_true, decide_false, Bool.true_and, Bool.and_true, Bool.false_and, Bool.and_false, Bool.and_self, Bool.not_true, Bool.not_false, Bool.or_false, Bool.false_or, Bool.true_or, Bool.or_true, Bool.or_self, Bool.false_eq_true, rf_45, rf_47, rf_49, rf_50, rf_51, rf_58, rf_63, rf_65, rf_267, rf45, rf50, rf58, rf63, rf267, ob_45, ob_49, ob_50, ob_58, ob_63, ob_267, ln_46, ln_46n, ln_46m, ln_47, ln_47n, ln_48, ln_48n, ln_51, ln_56, ln_57, ln_59, ln_60, ln_61, ln_62, ln_64, ln_64n, ln_65, ln_268, ln_269, ln_270, ln_270n, ln_271, ln_271n, ln_272, ln_272n, ln_272m, ln_273, ln_274, ln_275, ln_276, ln_277, ln_278, ln_278n, ln_279, ln_280, ln_281, ln_282, ln_283, ln_283n, ln_284, ln_285, ln_286, ln_286n, ln_287, ln_287n, ln_288, ln_289, ln_289n, gF_sF, gF_sG, gF_sI, gF_sJ, gF_sP, gF_sR, gF_sL, gG_sF, gG_sG, gG_sI, gG_sJ, gG_sP, gG_sR, gG_sL, gI_sF, gI_sG, gI_sI, gI_sJ, gI_sP, gI_sR, gI_sL, gJ_sF, gJ_sG, gJ_sI, gJ_sJ, gJ_sP, gJ_sR, gJ_sL, gP_sF, gP_sG, gP_sI, gP_sJ, gP_sP, gP_sR, gP_sL, inB_n, inC_n, iX_n, nI_add, pk_mul, pk_sub, n_and, n_or, n_xor, n_one, n_ush, n_shr, n_div, n_rem, n_ltm, m_ltn, m_ltm, n_eqm, m_eqn, m_eqm, n_lt, n_eq, n_eq0, n_addm, n_i2l, m_i2l, n_l2i, lN_add, lN_mul, lN_sub, l_div, l_rem, l_eq0, lc_lt, lc_gt, lc_eq, l_lt, l_eq, l_ltm, ml_ltn, ml_ltm, l_eqm, ml_eqn, ml_eqm, ls_1, ls_2, ls_3, ls_4, ls_5, ls_6, ls_7, ls_8, ls_10, ls_11, ls_12, ls_13, ls_14, ls_15, ls_16, ls_17, ob_0, ob_9, rf_0, rf_9, z, s5, s6, Nat.lt_irrefl]
      · simp (disch := omega) only [tt_81, T_81, mx_81, Nat.reduceLT, Nat.reduceLeDiff, Nat.reduceEqDiff, Nat.reduceAdd, Nat.reduceMul, Nat.reduceSub, Nat.reducePow, Nat.reduceMod, Nat.reduceDiv, Nat.reduceBEq, ↓reduceIte, reduceCtorEq, and_true, true_and, and_false, false_and, and_self, zW_eq, zin, zop, zst, fw_ite, fw_K, fw_R, fw_F, fw_C, zBW_s, nth, stL, okL, nlg, ct, ctv, cI, cL, pu, tkC, iniL, pad, eL, Value.category, swK, bz_0, bz_n0, bz_n1, bI_bz, bI_0, bI_t, bI_f, List.headD_cons, decide_true, decide_false, Bool.true_and, Bool.and_true, Bool.false_and, Bool.and_false, Bool.and_self, Bool.not_true, Bool.not_false, Bool.or_false, Bool.false_or, Bool.true_or, Bool.or_true, Bool.or_self, Bool.false_eq_true, rf_45, rf_47, rf_49, rf_50, rf_51, rf_58, rf_63, rf_65, rf_267, rf45, rf50, rf58, rf63, rf267, ob_45, ob_49, ob_50, ob_58, ob_63, ob_267, ln_46, ln_46n, ln_46m, ln_47, ln_47n, ln_48, ln_48n, ln_51, ln_56, ln_57, ln_59, ln_60, ln_61, ln_62, ln_64, ln_64n, ln_65, ln_268, ln_269, ln_270, ln_270n, ln_271, ln_271n, ln_272, ln_272n, ln_272m, ln_273, ln_274, ln_275, ln_276, ln_277, ln_278, ln_278n, ln_279, ln_280, ln_281, ln_282, ln_283, ln_283n, ln_284, ln_285, ln_286, ln_286n, ln_287, ln_287n, ln_288, ln_289, ln_289n, gF_sF, gF_sG, gF_sI, gF_sJ, gF_sP, gF_sR, gF_sL, gG_sF, gG_sG, gG_sI, gG_sJ, gG_sP, gG_sR, gG_sL, gI_sF, gI_sG, gI_sI, gI_sJ, gI_sP, gI_sR, gI_sL, gJ_sF, gJ_sG, gJ_sI, gJ_sJ, gJ_sP, gJ_sR, gJ_sL, gP_sF, gP_sG, gP_sI, gP_sJ, gP_sP, gP_sR, gP_sL, inB_n, inC_n, iX_n, nI_add, pk_mul, pk_sub, n_and, n_or, n_xor, n_one, n_ush, n_shr, n_div, n_rem, n_ltm, m_ltn, m_ltm, n_eqm, m_eqn, m_eqm, n_lt, n_eq, n_eq0, n_addm, n_i2l, m_i2l, n_l2i, lN_add, lN_mul, lN_sub, l_div, l_rem, l_eq0, lc_lt, lc_gt, lc_eq, l_lt, l_eq, l_ltm, ml_ltn, ml_ltm, l_eqm, ml_eqn, ml_eqm, ls_1, ls_2, ls_3, ls_4, ls_5, ls_6, ls_7, ls_8, ls_10, ls_11, ls_12, ls_13, ls_14, ls_15, ls_16, ls_17, ob_0, ob_9, rf_0, rf_9, z]
    | succ f ih =>
      intro Q h n W X hf hn hle s qb i sd hj fW
      have hl := qb.len14 g
      have s5 := s.2.2.2.2.2.1
      have s6 := s.2.2.2.2.2.2.1
      have z : n < 16384 := by omega
      by_cases q : h < Q.length
      · have s3 := s.2.1
        have s4 := s.2.2.1
        have rq := s.2.2.2.2.2.2.2.2 h q
        obtain ⟨hp, hpl, hd⟩ := qb.hd q
        have rd := s.2.2.2.2.2.2.2.1 _ hp
        rw [qd_qa qb.1 q] at rd
        have rd : gI W a (qa Q h).1 = nI (qa Q h).2 := rd
        have hh14 : h < 16384 := by omega
        have hp14 : (qa Q h).1 < 16384 := by omega
        have hple : (qa Q h).1 &&& set ≤ set := Nat.and_le_right
        cases hg : GlB set ex (qa Q h).1 with
        | true =>
          have hsome : lst (fun k => ∃ q, GlB set ex q = true ∧ Rc (Ed sc lim (barF bar)) src k q) = some (qa Q h).2 := by
            rw [lst_some]
            refine ⟨⟨_, hg, i.2.2.2.2.1 _ (qa_mem q)⟩, ?_⟩
            rintro k hk ⟨r, h1, h2⟩
            obtain ⟨d, d1, d2⟩ := iv_low i sd q k r (by omega) h2
            obtain ⟨j, hj2, ej⟩ := mem_qa (qd_mem d1)
            have hjh : j < h := by
              by_cases y : j < h
              · exact y
              · have := i.2.2.1 h j (by omega) hj2
                rw [ej] at this
                have : (qa Q h).2 ≤ d := this
                omega
            have := hj j hjh
            rw [ej, h1] at this
            cases this
          rw [hsome]
          refine ⟨W, ?_, fW, fun k hk => by cases hk; omega⟩
          unfold GlB at hg
          rw [zR_W [2]]
          unfold dI
          cases ex with
          | true =>
            rw [if_pos rfl] at hg
            have hg := of_decide_eq_true hg
            rw [hg] at rq rd hp14
            simp (disch := omega) only [tt_81, T_81, mx_81, Nat.reduceLT, Nat.reduceLeDiff, Nat.reduceEqDiff, Nat.reduceAdd, Nat.reduceMul, Nat.reduceSub, Nat.reducePow, Nat.reduceMod, Nat.reduceDiv, Nat.reduceBEq, ↓reduceIte, reduceCtorEq, and_true, true_and, and_false, false_and, and_self, zW_eq, zin, zop, zst, fw_ite, fw_K, fw_R, fw_F, fw_C, zBW_s, nth, stL, okL, nlg, ct, ctv, cI, cL, pu, tkC, iniL, pad, eL, Value.category, swK, bz_0, bz_n0, bz_n1, bI_bz, bI_0, bI_t, bI_f, List.headD_cons, decide_true, decide_false, Bool.true_and, Bool.and_true, Bool.false_and, Bool.and_false, Bool.and_self, Bool.not_true, Bool.not_false, Bool.or_false, Bool.false_or, Bool.true_or, Bool.or_true, Bool.or_self, Bool.false_eq_true, rf_45, rf_47, rf_49, rf_50, rf_51, rf_58, rf_63, rf_65, rf_267, rf45, rf50, rf58, rf63, rf267, ob_45, ob_49, ob_50, ob_58, ob_63, ob_267, ln_46, ln_46n, ln_46m, ln_47, ln_47n, ln_48, ln_48n, ln_51, ln_56, ln_57, ln_59, ln_60, ln_61, ln_62, ln_64, ln_64n, ln_65, ln_268, ln_269, ln_270, ln_270n, ln_271, ln_271n, ln_272, ln_272n, ln_272m, ln_273, ln_274, ln_275, ln_276, ln_277, ln_278, ln_278n, ln_279, ln_280, ln_281, ln_282, ln_283, ln_283n, ln_284, ln_285, ln_286, ln_286n, ln_287, ln_287n, ln_288, ln_289, ln_289n, gF_sF, gF_sG, gF_sI, gF_sJ, gF_sP, gF_sR, gF_sL, gG_sF, gG_sG, gG_sI, gG_sJ, gG_sP, gG_sR, gG_sL, gI_sF, gI_sG, gI_sI, gI_sJ, gI_sP, gI_sR, gI_sL, gJ_sF, gJ_sG, gJ_sI, gJ_sJ, gJ_sP, gJ_sR, gJ_sL, gP_sF, gP_sG, gP_sI, gP_sJ, gP_sP, gP_sR, gP_sL, inB_n, inC_n, iX_n, nI_add, pk_mul, pk_sub, n_and, n_or, n_xor, n_one, n_ush, n_shr, n_div, n_rem, n_ltm, m_ltn, m_ltm, n_eqm, m_eqn, m_eqm, n_lt, n_eq, n_eq0, n_addm, n_i2l, m_i2l, n_l2i, lN_add, lN_mul, lN_sub, l_div, l_rem, l_eq0, lc_lt, lc_gt, lc_eq, l_lt, l_eq, l_ltm, ml_ltn, ml_ltm, l_eqm, ml_eqn, ml_eqm, ls_1, ls_2, ls_3, ls_4, ls_5, ls_6, ls_7, ls_8, ls_10, ls_11, ls_12, ls_13, ls_14, ls_15, ls_16, ls_17, ob_0, ob_9, rf_0, rf_9, z, s5, s6, q, s3, s4, la, lb, hh14, rq, rd, hp14]
          | false =>
            rw [if_neg (by decide)] at hg
            have hg := of_decide_eq_true hg
            simp (disch := omega) only [tt_81, T_81, mx_81, Nat.reduceLT, Nat.reduceLeDiff, Nat.reduceEqDiff, Nat.reduceAdd, Nat.reduceMul, Nat.reduceSub, Nat.reducePow, Nat.reduceMod, Nat.reduceDiv, Nat.reduceBEq, ↓reduceIte, reduceCtorEq, and_true, true_and, and_false, false_and, and_self, zW_eq, zin, zop, zst, fw_ite, fw_K, fw_R, fw_F, fw_C, zBW_s, nth, stL, okL, nlg, ct, ctv, cI, cL, pu, tkC, iniL, pad, eL, Value.category, swK, bz_0, bz_n0, bz_n1, bI_bz, bI_0, bI_t, bI_f, List.headD_cons, decide_true, decide_false, Bool.true_and, Bool.and_true, Bool.false_and, Bool.and_false, Bool.and_self, Bool.not_true, Bool.not_false, Bool.or_false, Bool.false_or, Bool.true_or, Bool.or_true, Bool.or_self, Bool.false_eq_true, rf_45, rf_47, rf_49, rf_50, rf_51, rf_58, rf_63, rf_65, rf_267, rf45, rf50, rf58, rf63, rf267, ob_45, ob_49, ob_50, ob_58, ob_63, ob_267, ln_46, ln_46n, ln_46m, ln_47, ln_47n, ln_48, ln_48n, ln_51, ln_56, ln_57, ln_59, ln_60, ln_61, ln_62, ln_64, ln_64n, ln_65, ln_268, ln_269, ln_270, ln_270n, ln_271, ln_271n, ln_272, ln_272n, ln_272m, ln_273, ln_274, ln_275, ln_276, ln_277, ln_278, ln_278n, ln_279, ln_280, ln_281, ln_282, ln_283, ln_283n, ln_284, ln_285, ln_286, ln_286n, ln_287, ln_287n, ln_288, ln_289, ln_289n, gF_sF, gF_sG, gF_sI, gF_sJ, gF_sP, gF_sR, gF_sL, gG_sF, gG_sG, gG_sI, gG_sJ, gG_sP, gG_sR, gG_sL, gI_sF, gI_sG, gI_sI, gI_sJ, gI_sP, gI_sR, gI_sL, gJ_sF, gJ_sG, gJ_sI, gJ_sJ, gJ_sP, gJ_sR, gJ_sL, gP_sF, gP_sG, gP_sI, gP_sJ, gP_sP, gP_sR, gP_sL, inB_n, inC_n, iX_n, nI_add, pk_mul, pk_sub, n_and, n_or, n_xor, n_one, n_ush, n_shr, n_div, n_rem, n_ltm, m_ltn, m_ltm, n_eqm, m_eqn, m_eqm, n_lt, n_eq, n_eq0, n_addm, n_i2l, m_i2l, n_l2i, lN_add, lN_mul, lN_sub, l_div, l_rem, l_eq0, lc_lt, lc_gt, lc_eq, l_lt, l_eq, l_ltm, ml_ltn, ml_ltm, l_eqm, ml_eqn, ml_eqm, ls_1, ls_2, ls_3, ls_4, ls_5, ls_6, ls_7, ls_8, ls_10, ls_11, ls_12, ls_13, ls_14, ls_15, ls_16, ls_17, ob_0, ob_9, rf_0, rf_9, z, s5, s6, q, s3, s4, la, lb, hh14, rq, rd, hp14, hg]
        | false =>
          obtain ⟨W2, c1, c2, c3⟩ := t_expandNext g ab s qb hB hlim q
          have hle2 : h + 1 ≤ (exC sc lim (barF bar) Q h).length := Nat.lt_of_lt_of_le q (fold_le _ _ _ _)
          obtain ⟨w', d1, d2⟩ := ih _ (h + 1) (n + 1) W2 (.int (nI (qa Q h).1)) (by omega) (by omega) hle2 c2 (qb.exC g q) (iv_exC i qb q) (Sd.mono _ sd) (fun j hj2 => by
            unfold exC
            by_cases y : j = h
            · subst y
              rw [fold_qa _ _ _ _ _ q]; exact hg
            · rw [fold_qa _ _ _ _ _ (by omega)]; exact hj j (by omega)) (fW.tr c3)
          refine ⟨w', ?_, d2⟩
          unfold GlB at hg
          rw [zR_W [2]]
          cases ex with
          | true =>
            rw [if_pos rfl] at hg
            have hg := of_decide_eq_false hg
            rw [bI_t] at d1
            simp (disch := omega) only [tt_81, T_81, mx_81, Nat.reduceLT, Nat.reduceLeDiff, Nat.reduceEqDiff, Nat.reduceAdd, Nat.reduceMul, Nat.reduceSub, Nat.reducePow, Nat.reduceMod, Nat.reduceDiv, Nat.reduceBEq, ↓reduceIte, reduceCtorEq, and_true, true_and, and_false, false_and, and_self, zW_eq, zin, zop, zst, fw_ite, fw_K, fw_R, fw_F, fw_C, zBW_s, nth, stL, okL, nlg, ct, ctv, cI, cL, pu, tkC, iniL, pad, eL, Value.category, swK, bz_0, bz_n0, bz_n1, bI_bz, bI_0, bI_t, bI_f, List.headD_cons, decide_true, decide_false, Bool.true_and, Bool.and_true, Bool.false_and, Bool.and_false, Bool.and_self, Bool.not_true, Bool.not_false, Bool.or_false, Bool.false_or, Bool.true_or, Bool.or_true, Bool.or_self, Bool.false_eq_true, rf_45, rf_47, rf_49, rf_50, rf_51, rf_58, rf_63, rf_65, rf_267, rf45, rf50, rf58, rf63, rf267, ob_45, ob_49, ob_50, ob_58, ob_63, ob_267, ln_46, ln_46n, ln_46m, ln_47, ln_47n, ln_48, ln_48n, ln_51, ln_56, ln_57, ln_59, ln_60, ln_61, ln_62, ln_64, ln_64n, ln_65, ln_268, ln_269, ln_270, ln_270n, ln_271, ln_271n, ln_272, ln_272n, ln_272m, ln_273, ln_274, ln_275, ln_276, ln_277, ln_278, ln_278n, ln_279, ln_280, ln_281, ln_282, ln_283, ln_283n, ln_284, ln_285, ln_286, ln_286n, ln_287, ln_287n, ln_288, ln_289, ln_289n, gF_sF, gF_sG, gF_sI, gF_sJ, gF_sP, gF_sR, gF_sL, gG_sF, gG_sG, gG_sI, gG_sJ, gG_sP, gG_sR, gG_sL, gI_sF, gI_sG, gI_sI, gI_sJ, gI_sP, gI_sR, gI_sL, gJ_sF, gJ_sG, gJ_sI, gJ_sJ, gJ_sP, gJ_sR, gJ_sL, gP_sF, gP_sG, gP_sI, gP_sJ, gP_sP, gP_sR, gP_sL, inB_n, inC_n, iX_n, nI_add, pk_mul, pk_sub, n_and, n_or, n_xor, n_one, n_ush, n_shr, n_div, n_rem, n_ltm, m_ltn, m_ltm, n_eqm, m_eqn, m_eqm, n_lt, n_eq, n_eq0, n_addm, n_i2l, m_i2l, n_l2i, lN_add, lN_mul, lN_sub, l_div, l_rem, l_eq0, lc_lt, lc_gt, lc_eq, l_lt, l_eq, l_ltm, ml_ltn, ml_ltm, l_eqm, ml_eqn, ml_eqm, ls_1, ls_2, ls_3, ls_4, ls_5, ls_6, ls_7, ls_8, ls_10, ls_11, ls_12, ls_13, ls_14, ls_15, ls_16, ls_17, ob_0, ob_9, rf_0, rf_9, z, s5, s6, q, s3, s4, la, lb, hh14, rq, hg, c1, d1]
          | false =>
            rw [if_neg (by decide)] at hg
            have hg := of_decide_eq_false hg
            rw [bI_f] at d1
            simp (disch := omega) only [tt_81, T_81, mx_81, Nat.reduceLT, Nat.reduceLeDiff, Nat.reduceEqDiff, Nat.reduceAdd, Nat.reduceMul, Nat.reduceSub, Nat.reducePow, Nat.reduceMod, Nat.reduceDiv, Nat.reduceBEq, ↓reduceIte, reduceCtorEq, and_true, true_and, and_false, false_and, and_self, zW_eq, zin, zop, zst, fw_ite, fw_K, fw_R, fw_F, fw_C, zBW_s, nth, stL, okL, nlg, ct, ctv, cI, cL, pu, tkC, iniL, pad, eL, Value.category, swK, bz_0, bz_n0, bz_n1, bI_bz, bI_0, bI_t, bI_f, List.headD_cons, decide_true, decide_false, Bool.true_and, Bool.and_true, Bool.false_and, Bool.and_false, Bool.and_self, Bool.not_true, Bool.not_false, Bool.or_false, Bool.false_or, Bool.true_or, Bool.or_true, Bool.or_self, Bool.false_eq_true, rf_45, rf_47, rf_49, rf_50, rf_51, rf_58, rf_63, rf_65, rf_267, rf45, rf50, rf58, rf63, rf267, ob_45, ob_49, ob_50, ob_58, ob_63, ob_267, ln_46, ln_46n, ln_46m, ln_47, ln_47n, ln_48, ln_48n, ln_51, ln_56, ln_57, ln_59, ln_60, ln_61, ln_62, ln_64, ln_64n, ln_65, ln_268, ln_269, ln_270, ln_270n, ln_271, ln_271n, ln_272, ln_272n, ln_272m, ln_273, ln_274, ln_275, ln_276, ln_277, ln_278, ln_278n, ln_279, ln_280, ln_281, ln_282, ln_283, ln_283n, ln_284, ln_285, ln_286, ln_286n, ln_287, ln_287n, ln_288, ln_289, ln_289n, gF_sF, gF_sG, gF_sI, gF_sJ, gF_sP, gF_sR, gF_sL, gG_sF, gG_sG, gG_sI, gG_sJ, gG_sP, gG_sR, gG_sL, gI_sF, gI_sG, gI_sI, gI_sJ, gI_sP, gI_sR, gI_sL, gJ_sF, gJ_sG, gJ_sI, gJ_sJ, gJ_sP, gJ_sR, gJ_sL, gP_sF, gP_sG, gP_sI, gP_sJ, gP_sP, gP_sR, gP_sL, inB_n, inC_n, iX_n, nI_add, pk_mul, pk_sub, n_and, n_or, n_xor, n_one, n_ush, n_shr, n_div, n_rem, n_ltm, m_ltn, m_ltm, n_eqm, m_eqn, m_eqm, n_lt, n_eq, n_eq0, n_addm, n_i2l, m_i2l, n_l2i, lN_add, lN_mul, lN_sub, l_div, l_rem, l_eq0, lc_lt, lc_gt, lc_eq, l_lt, l_eq, l_ltm, ml_ltn, ml_ltm, l_eqm, ml_eqn, ml_eqm, ls_1, ls_2, ls_3, ls_4, ls_5, ls_6, ls_7, ls_8, ls_10, ls_11, ls_12, ls_13, ls_14, ls_15, ls_16, ls_17, ob_0, ob_9, rf_0, rf_9, z, s5, s6, q, s3, s4, la, lb, hh14, rq, hg, c1, d1]
      · have e : h = Q.length := by omega
        subst e
        have hnone : lst (fun k => ∃ q, GlB set ex q = true ∧ Rc (Ed sc lim (barF bar)) src k q) = none := by
          rw [lst_none]
          rintro k ⟨q, h1, h2⟩
          obtain ⟨d, d1, -⟩ := iv_end i sd k q h2
          obtain ⟨j, hj2, ej⟩ := mem_qa (qd_mem d1)
          have := hj j hj2
          rw [ej] at this
          rw [h1] at this
          cases this
        rw [hnone]
        refine ⟨W, ?_, fW, fun k hk => by cases hk⟩
        rw [zR_W [2]]
        unfold dI
        simp (disch := omega) only [tt_81, T_81, mx_81, Nat.reduceLT, Nat.reduceLeDiff, Nat.reduceEqDiff, Nat.reduceAdd, Nat.reduceMul, Nat.reduceSub, Nat.reducePow, Nat.reduceMod, Nat.reduceDiv, Nat.reduceBEq, ↓reduceIte, reduceCtorEq, and_true, true_and, and_false, false_and, and_self, zW_eq, zin, zop, zst, fw_ite, fw_K, fw_R, fw_F, fw_C, zBW_s, nth, stL, okL, nlg, ct, ctv, cI, cL, pu, tkC, iniL, pad, eL, Value.category, swK, bz_0, bz_n0, bz_n1, bI_bz, bI_0, bI_t, bI_f, List.headD_cons, decide_true, decide_false, Bool.true_and, Bool.and_true, Bool.false_and, Bool.and_false, Bool.and_self, Bool.not_true, Bool.not_false, Bool.or_false, Bool.false_or, Bool.true_or, Bool.or_true, Bool.or_self, Bool.false_eq_true, rf_45, rf_47, rf_49, rf_50, rf_51, rf_58, rf_63, rf_65, rf_267, rf45, rf50, rf58, rf63, rf267, ob_45, ob_49, ob_50, ob_58, ob_63, ob_267, ln_46, ln_46n, ln_46m, ln_47, ln_47n, ln_48, ln_48n, ln_51, ln_56, ln_57, ln_59, ln_60, ln_61, ln_62, ln_64, ln_64n, ln_65, ln_268, ln_269, ln_270, ln_270n, ln_271, ln_271n, ln_272, ln_272n, ln_272m, ln_273, ln_274, ln_275, ln_276, ln_277, ln_278, ln_278n, ln_279, ln_280, ln_281, ln_282, ln_283, ln_283n, ln_284, ln_285, ln_286, ln_286n, ln_287, ln_287n, ln_288, ln_289, ln_289n, gF_sF, gF_sG, gF_sI, gF_sJ, gF_sP, gF_sR, gF_sL, gG_sF, gG_sG, gG_sI, gG_sJ, gG_sP, gG_sR, gG_sL, gI_sF, gI_sG, gI_sI, gI_sJ, gI_sP, gI_sR, gI_sL, gJ_sF, gJ_sG, gJ_sI, gJ_sJ, gJ_sP, gJ_sR, gJ_sL, gP_sF, gP_sG, gP_sI, gP_sJ, gP_sP, gP_sR, gP_sL, inB_n, inC_n, iX_n, nI_add, pk_mul, pk_sub, n_and, n_or, n_xor, n_one, n_ush, n_shr, n_div, n_rem, n_ltm, m_ltn, m_ltm, n_eqm, m_eqn, m_eqm, n_lt, n_eq, n_eq0, n_addm, n_i2l, m_i2l, n_l2i, lN_add, lN_mul, lN_sub, l_div, l_rem, l_eq0, lc_lt, lc_gt, lc_eq, l_lt, l_eq, l_ltm, ml_ltn, ml_ltm, l_eqm, ml_eqn, ml_eqm, ls_1, ls_2, ls_3, ls_4, ls_5, ls_6, ls_7, ls_8, ls_10, ls_11, ls_12, ls_13, ls_14, ls_15, ls_16, ls_17, ob_0, ob_9, rf_0, rf_9, z, s5, s6, Nat.lt_irrefl]
  obtain ⟨w', d1, d2⟩ := lp 16384 Q 0 0 w jk rfl (Nat.le_refl _) (Nat.zero_le _) s qb i sd (fun j hj => absurd hj (Nat.not_lt_zero _)) (SfC.rf _ _ _)
  refine ⟨w', ?_, d2⟩
  rw [zE_W [2]]
  simp (disch := omega) only [tt_81, T_81, mx_81, Nat.reduceLT, Nat.reduceLeDiff, Nat.reduceEqDiff, Nat.reduceAdd, Nat.reduceMul, Nat.reduceSub, Nat.reducePow, Nat.reduceMod, Nat.reduceDiv, Nat.reduceBEq, ↓reduceIte, reduceCtorEq, and_true, true_and, and_false, false_and, and_self, zW_eq, zin, zop, zst, fw_ite, fw_K, fw_R, fw_F, fw_C, zBW_s, nth, stL, okL, nlg, ct, ctv, cI, cL, pu, tkC, iniL, pad, eL, Value.category, swK, bz_0, bz_n0, bz_n1, bI_bz, bI_0, bI_t, bI_f, List.headD_cons, decide_true, decide_false, Bool.true_and, Bool.and_true, Bool.false_and, Bool.and_false, Bool.and_self, Bool.not_true, Bool.not_false, Bool.or_false, Bool.false_or, Bool.true_or, Bool.or_true, Bool.or_self, Bool.false_eq_true, rf_45, rf_47, rf_49, rf_50, rf_51, rf_58, rf_63, rf_65, rf_267, rf45, rf50, rf58, rf63, rf267, ob_45, ob_49, ob_50, ob_58, ob_63, ob_267, ln_46, ln_46n, ln_46m, ln_47, ln_47n, ln_48, ln_48n, ln_51, ln_56, ln_57, ln_59, ln_60, ln_61, ln_62, ln_64, ln_64n, ln_65, ln_268, ln_269, ln_270, ln_270n, ln_271, ln_271n, ln_272, ln_272n, ln_272m, ln_273, ln_274, ln_275, ln_276, ln_277, ln_278, ln_278n, ln_279, ln_280, ln_281, ln_282, ln_283, ln_283n, ln_284, ln_285, ln_286, ln_286n, ln_287, ln_287n, ln_288, ln_289, ln_289n, gF_sF, gF_sG, gF_sI, gF_sJ, gF_sP, gF_sR, gF_sL, gG_sF, gG_sG, gG_sI, gG_sJ, gG_sP, gG_sR, gG_sL, gI_sF, gI_sG, gI_sI, gI_sJ, gI_sP, gI_sR, gI_sL, gJ_sF, gJ_sG, gJ_sI, gJ_sJ, gJ_sP, gJ_sR, gJ_sL, gP_sF, gP_sG, gP_sI, gP_sJ, gP_sP, gP_sR, gP_sL, inB_n, inC_n, iX_n, nI_add, pk_mul, pk_sub, n_and, n_or, n_xor, n_one, n_ush, n_shr, n_div, n_rem, n_ltm, m_ltn, m_ltm, n_eqm, m_eqn, m_eqm, n_lt, n_eq, n_eq0, n_addm, n_i2l, m_i2l, n_l2i, lN_add, lN_mul, lN_sub, l_div, l_rem, l_eq0, lc_lt, lc_gt, lc_eq, l_lt, l_eq, l_ltm, ml_ltn, ml_ltm, l_eqm, ml_eqn, ml_eqm, ls_1, ls_2, ls_3, ls_4, ls_5, ls_6, ls_7, ls_8, ls_10, ls_11, ls_12, ls_13, ls_14, ls_15, ls_16, ls_17, ob_0, ob_9, rf_0, rf_9, d1]
/-- one source -/
def S1 (bar : Nat → Bool) (lim fr p : Nat) : Prop := p = fr ∧ pop p ≤ lim ∧ bar p = false
theorem s1_iv {E : Nat → Nat → Prop} {bar : Nat → Bool} {lim fr : Nat} : Iv E (src0 (S1 bar lim fr)) (qsrc bar lim [] fr) 0 := iv_qsrc (iv_nil _ _) (fun x hx => by cases hx) (fun h1 h2 => ⟨rfl, h1, h2⟩)
theorem s1_sd {bar : Nat → Bool} {lim fr : Nat} : Sd (src0 (S1 bar lim fr)) (qsrc bar lim [] fr) := by
  rintro p d ⟨⟨rfl, h2, h3⟩, rfl⟩
  exact ⟨0, qsrc_at (fun x hx => by cases hx) h2 h3, Nat.le_refl _⟩
/-- the distance from one POSITION to goals -/
noncomputable def dsB (sc : Sg) (lim bar fr set : Nat) (ex : Bool) : Option Nat := lst (fun k => ∃ q, GlB set ex q = true ∧ Rc (Ed sc lim (barF bar)) (src0 (S1 (barF bar) lim fr)) k q)
theorem t_between {sc : Sg} (g : Gd sc) {a b : Nat} {w : Wd} (ab : AB a b) (hc : ClS 0 sc w) (s3 : gP w 3 = a) (s4 : gP w 4 = b) {lim fr set : Nat} (ex : Bool) (hlim : lim < 2 ^ 31) (hfr : fr < 2 ^ sc.1 4) (hset : set < 2 ^ sc.1 4) : ∃ w', zE 79 [.ref 58, .int (nI fr), .int (nI set), .int (bI ex), .int (nI lim)] w = some (some (.int (dI (dsB sc lim 0 fr set ex))), w') ∧ SfC a b w w' ∧ ∀ k, dsB sc lim 0 fr set ex = some k → k < 2 ^ 20 := by
  obtain ⟨w1, b1, b2, b3⟩ := t_reset g ab hc s3 s4 lim
  obtain ⟨w2, c1, c2, c3⟩ := t_putSource g ab b2 (QB.nil sc lim 0) (by decide) hlim hfr
  obtain ⟨w3, d1, d2, d3⟩ := t_seek g ab (B := 0) (by decide) hlim c2 ((QB.nil sc lim 0).src hfr) s1_iv s1_sd ex hset
  refine ⟨w3, ?_, (b3.tr c3).tr d2, d3⟩
  unfold dsB
  rw [zE_W []]
  simp (disch := omega) only [tt_79, T_79, mx_79, Nat.reduceLT, Nat.reduceLeDiff, Nat.reduceEqDiff, Nat.reduceAdd, Nat.reduceMul, Nat.reduceSub, Nat.reducePow, Nat.reduceMod, Nat.reduceDiv, Nat.reduceBEq, ↓reduceIte, reduceCtorEq, and_true, true_and, and_false, false_and, and_self, zW_eq, zin, zop, zst, fw_ite, fw_K, fw_R, fw_F, fw_C, zBW_s, nth, stL, okL, nlg, ct, ctv, cI, cL, pu, tkC, iniL, pad, eL, Value.category, swK, bz_0, bz_n0, bz_n1, bI_bz, bI_0, bI_t, bI_f, List.headD_cons, decide_true, decide_false, Bool.true_and, Bool.and_true, Bool.false_and, Bool.and_false, Bool.and_self, Bool.not_true, Bool.not_false, Bool.or_false, Bool.false_or, Bool.true_or, Bool.or_true, Bool.or_self, Bool.false_eq_true, rf_45, rf_47, rf_49, rf_50, rf_51, rf_58, rf_63, rf_65, rf_267, rf45, rf50, rf58, rf63, rf267, ob_45, ob_49, ob_50, ob_58, ob_63, ob_267, ln_46, ln_46n, ln_46m, ln_47, ln_47n, ln_48, ln_48n, ln_51, ln_56, ln_57, ln_59, ln_60, ln_61, ln_62, ln_64, ln_64n, ln_65, ln_268, ln_269, ln_270, ln_270n, ln_271, ln_271n, ln_272, ln_272n, ln_272m, ln_273, ln_274, ln_275, ln_276, ln_277, ln_278, ln_278n, ln_279, ln_280, ln_281, ln_282, ln_283, ln_283n, ln_284, ln_285, ln_286, ln_286n, ln_287, ln_287n, ln_288, ln_289, ln_289n, gF_sF, gF_sG, gF_sI, gF_sJ, gF_sP, gF_sR, gF_sL, gG_sF, gG_sG, gG_sI, gG_sJ, gG_sP, gG_sR, gG_sL, gI_sF, gI_sG, gI_sI, gI_sJ, gI_sP, gI_sR, gI_sL, gJ_sF, gJ_sG, gJ_sI, gJ_sJ, gJ_sP, gJ_sR, gJ_sL, gP_sF, gP_sG, gP_sI, gP_sJ, gP_sP, gP_sR, gP_sL, inB_n, inC_n, iX_n, nI_add, pk_mul, pk_sub, n_and, n_or, n_xor, n_one, n_ush, n_shr, n_div, n_rem, n_ltm, m_ltn, m_ltm, n_eqm, m_eqn, m_eqm, n_lt, n_eq, n_eq0, n_addm, n_i2l, m_i2l, n_l2i, lN_add, lN_mul, lN_sub, l_div, l_rem, l_eq0, lc_lt, lc_gt, lc_eq, l_lt, l_eq, l_ltm, ml_ltn, ml_ltm, l_eqm, ml_eqn, ml_eqm, ls_1, ls_2, ls_3, ls_4, ls_5, ls_6, ls_7, ls_8, ls_10, ls_11, ls_12, ls_13, ls_14, ls_15, ls_16, ls_17, ob_0, ob_9, rf_0, rf_9, b1, c1, d1]
theorem t_comesWithout {sc : Sg} (g : Gd sc) {a b : Nat} {w : Wd} (ab : AB a b) (hc : ClS 0 sc w) (s3 : gP w 3 = a) (s4 : gP w 4 = b) {lim fr set bar : Nat} (hlim : lim < 2 ^ 31) (hfr : fr < 2 ^ sc.1 4) (hset : set < 2 ^ sc.1 4) : ∃ w', zE 80 [.ref 58, .int (nI bar), .int (nI fr), .int (nI set), .int (nI lim)] w = some (some (.int (bI (dsB sc lim bar fr set false).isSome)), w') ∧ SfC a b w w' := by
  obtain ⟨w1, b1, b2, b3⟩ := t_reset g ab hc s3 s4 lim
  obtain ⟨r0, r3, r4, r1, r2, r5, r6, rd, rq⟩ := b2
  have hS : SfC a b w1 (sF w1 58 2 (nI bar)) := ⟨SmO.sF (Or.inl rfl), fun _ => rfl⟩
  have s' : SrC sc lim bar a b [] 0 (sF w1 58 2 (nI bar)) := ⟨hS.cl ab r0, r3, r4, by rw [gF_sF, if_neg (by omega)]; exact r1, by rw [gF_sF, if_pos ⟨rfl, rfl⟩], by rw [gF_sF, if_neg (by omega)]; exact r5, by rw [gF_sF, if_neg (by omega)]; exact r6, rd, rq⟩
  obtain ⟨w2, c1, c2, c3⟩ := t_putSource g ab s' (QB.nil sc lim 0) (by decide) hlim hfr
  obtain ⟨w3, d1, d2, d3⟩ := t_seek g ab (B := 0) (by decide) hlim c2 ((QB.nil sc lim 0).src hfr) s1_iv s1_sd false hset
  refine ⟨w3, ?_, ((b3.tr hS).tr c3).tr d2⟩
  have e : dsB sc lim bar fr set false = lst (fun k => ∃ q, GlB set false q = true ∧ Rc (Ed sc lim (barF bar)) (src0 (S1 (barF bar) lim fr)) k q) := rfl
  rw [← e] at d1
  rw [bI_f] at d1
  rw [zE_W []]
  cases hd : dsB sc lim bar fr set false with
  | none =>
    rw [hd] at d1
    have d1 : zE 81 [.ref 58, .int (nI set), .int (nI 0)] w2 = some (some (.int (mI 1)), w3) := d1
    simp (disch := omega) only [tt_80, T_80, mx_80, Nat.reduceLT, Nat.reduceLeDiff, Nat.reduceEqDiff, Nat.reduceAdd, Nat.reduceMul, Nat.reduceSub, Nat.reducePow, Nat.reduceMod, Nat.reduceDiv, Nat.reduceBEq, ↓reduceIte, reduceCtorEq, and_true, true_and, and_false, false_and, and_self, zW_eq, zin, zop, zst, fw_ite, fw_K, fw_R, fw_F, fw_C, zBW_s, nth, stL, okL, nlg, ct, ctv, cI, cL, pu, tkC, iniL, pad, eL, Value.category, swK, bz_0, bz_n0, bz_n1, bI_bz, bI_0, bI_t, bI_f, List.headD_cons, decide_true, decide_false, Bool.true_and, Bool.and_true, Bool.false_and, Bool.and_false, Bool.and_self, Bool.not_true, Bool.not_false, Bool.or_false, Bool.false_or, Bool.true_or, Bool.or_true, Bool.or_self, Bool.false_eq_true, rf_45, rf_47, rf_49, rf_50, rf_51, rf_58, rf_63, rf_65, rf_267, rf45, rf50, rf58, rf63, rf267, ob_45, ob_49, ob_50, ob_58, ob_63, ob_267, ln_46, ln_46n, ln_46m, ln_47, ln_47n, ln_48, ln_48n, ln_51, ln_56, ln_57, ln_59, ln_60, ln_61, ln_62, ln_64, ln_64n, ln_65, ln_268, ln_269, ln_270, ln_270n, ln_271, ln_271n, ln_272, ln_272n, ln_272m, ln_273, ln_274, ln_275, ln_276, ln_277, ln_278, ln_278n, ln_279, ln_280, ln_281, ln_282, ln_283, ln_283n, ln_284, ln_285, ln_286, ln_286n, ln_287, ln_287n, ln_288, ln_289, ln_289n, gF_sF, gF_sG, gF_sI, gF_sJ, gF_sP, gF_sR, gF_sL, gG_sF, gG_sG, gG_sI, gG_sJ, gG_sP, gG_sR, gG_sL, gI_sF, gI_sG, gI_sI, gI_sJ, gI_sP, gI_sR, gI_sL, gJ_sF, gJ_sG, gJ_sI, gJ_sJ, gJ_sP, gJ_sR, gJ_sL, gP_sF, gP_sG, gP_sI, gP_sJ, gP_sP, gP_sR, gP_sL, inB_n, inC_n, iX_n, nI_add, pk_mul, pk_sub, n_and, n_or, n_xor, n_one, n_ush, n_shr, n_div, n_rem, n_ltm, m_ltn, m_ltm, n_eqm, m_eqn, m_eqm, n_lt, n_eq, n_eq0, n_addm, n_i2l, m_i2l, n_l2i, lN_add, lN_mul, lN_sub, l_div, l_rem, l_eq0, lc_lt, lc_gt, lc_eq, l_lt, l_eq, l_ltm, ml_ltn, ml_ltm, l_eqm, ml_eqn, ml_eqm, ls_1, ls_2, ls_3, ls_4, ls_5, ls_6, ls_7, ls_8, ls_10, ls_11, ls_12, ls_13, ls_14, ls_15, ls_16, ls_17, ob_0, ob_9, rf_0, rf_9, b1, c1, d1, Option.isSome]
  | some k =>
    rw [hd] at d1
    have d1 : zE 81 [.ref 58, .int (nI set), .int (nI 0)] w2 = some (some (.int (nI k)), w3) := d1
    have hk := d3 k hd
    simp (disch := omega) only [tt_80, T_80, mx_80, Nat.reduceLT, Nat.reduceLeDiff, Nat.reduceEqDiff, Nat.reduceAdd, Nat.reduceMul, Nat.reduceSub, Nat.reducePow, Nat.reduceMod, Nat.reduceDiv, Nat.reduceBEq, ↓reduceIte, reduceCtorEq, and_true, true_and, and_false, false_and, and_self, zW_eq, zin, zop, zst, fw_ite, fw_K, fw_R, fw_F, fw_C, zBW_s, nth, stL, okL, nlg, ct, ctv, cI, cL, pu, tkC, iniL, pad, eL, Value.category, swK, bz_0, bz_n0, bz_n1, bI_bz, bI_0, bI_t, bI_f, List.headD_cons, decide_true, decide_false, Bool.true_and, Bool.and_true, Bool.false_and, Bool.and_false, Bool.and_self, Bool.not_true, Bool.not_false, Bool.or_false, Bool.false_or, Bool.true_or, Bool.or_true, Bool.or_self, Bool.false_eq_true, rf_45, rf_47, rf_49, rf_50, rf_51, rf_58, rf_63, rf_65, rf_267, rf45, rf50, rf58, rf63, rf267, ob_45, ob_49, ob_50, ob_58, ob_63, ob_267, ln_46, ln_46n, ln_46m, ln_47, ln_47n, ln_48, ln_48n, ln_51, ln_56, ln_57, ln_59, ln_60, ln_61, ln_62, ln_64, ln_64n, ln_65, ln_268, ln_269, ln_270, ln_270n, ln_271, ln_271n, ln_272, ln_272n, ln_272m, ln_273, ln_274, ln_275, ln_276, ln_277, ln_278, ln_278n, ln_279, ln_280, ln_281, ln_282, ln_283, ln_283n, ln_284, ln_285, ln_286, ln_286n, ln_287, ln_287n, ln_288, ln_289, ln_289n, gF_sF, gF_sG, gF_sI, gF_sJ, gF_sP, gF_sR, gF_sL, gG_sF, gG_sG, gG_sI, gG_sJ, gG_sP, gG_sR, gG_sL, gI_sF, gI_sG, gI_sI, gI_sJ, gI_sP, gI_sR, gI_sL, gJ_sF, gJ_sG, gJ_sI, gJ_sJ, gJ_sP, gJ_sR, gJ_sL, gP_sF, gP_sG, gP_sI, gP_sJ, gP_sP, gP_sR, gP_sL, inB_n, inC_n, iX_n, nI_add, pk_mul, pk_sub, n_and, n_or, n_xor, n_one, n_ush, n_shr, n_div, n_rem, n_ltm, m_ltn, m_ltm, n_eqm, m_eqn, m_eqm, n_lt, n_eq, n_eq0, n_addm, n_i2l, m_i2l, n_l2i, lN_add, lN_mul, lN_sub, l_div, l_rem, l_eq0, lc_lt, lc_gt, lc_eq, l_lt, l_eq, l_ltm, ml_ltn, ml_ltm, l_eqm, ml_eqn, ml_eqm, ls_1, ls_2, ls_3, ls_4, ls_5, ls_6, ls_7, ls_8, ls_10, ls_11, ls_12, ls_13, ls_14, ls_15, ls_16, ls_17, ob_0, ob_9, rf_0, rf_9, b1, c1, d1, Option.isSome]
