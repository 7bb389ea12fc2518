/-! ===== how many bits ===== -/
def pp : Nat → Nat → Nat
  | 0, _ => 0
  | f + 1, n => n % 2 + pp f (n / 2)
def pop (n : Nat) : Nat := pp 32 n
theorem pp_0 : ∀ f, pp f 0 = 0 := by
  intro f
  induction f with
  | zero => rfl
  | succ f ih => simp [pp, ih]
theorem pp_add : ∀ (f g n : Nat), pp (f + g) n = pp f n + pp g (n / 2 ^ f) := by
  intro f
  induction f with
  | zero => intro g n; simp [pp]
  | succ f ih =>
    intro g n
    rw [show f + 1 + g = (f + g) + 1 by omega]
    simp only [pp]
    rw [ih, Nat.div_div_eq_div_mul, Nat.pow_succ, Nat.mul_comm 2, Nat.add_assoc]
theorem pp_mod : ∀ (f n : Nat), pp f (n % 2 ^ f) = pp f n := by
  intro f
  induction f with
  | zero => intro n; rfl
  | succ f ih =>
    intro n
    simp only [pp]
    have h1 : n % 2 ^ (f + 1) % 2 = n % 2 := by
      rw [Nat.pow_succ, Nat.mul_comm, Nat.mod_mul_right_mod]
    have h2 : n % 2 ^ (f + 1) / 2 = n / 2 % 2 ^ f := by
      rw [Nat.pow_succ, Nat.mul_comm, Nat.mod_mul_right_div_self]
    rw [h1, h2, ih]
theorem and_split {k a m : Nat} (b c : Nat) (ha : a < 2 ^ k) (hm : m < 2 ^ k) : (2 ^ k * b + a) &&& (2 ^ k * c + m) = 2 ^ k * (b &&& c) + (a &&& m) := by
  have hm2 : a &&& m < 2 ^ k := Nat.lt_of_le_of_lt Nat.and_le_left ha
  apply Nat.eq_of_testBit_eq
  intro i
  rw [Nat.testBit_and, Nat.testBit_two_pow_mul_add _ ha, Nat.testBit_two_pow_mul_add _ hm, Nat.testBit_two_pow_mul_add _ hm2]
  split
  · rw [Nat.testBit_and]
  · rw [Nat.testBit_and]
theorem and_4 {a0 a1 a2 a3 m : Nat} (h0 : a0 < 256) (h1 : a1 < 256) (h2 : a2 < 256) (hm : m < 256) : (a0 + 256 * a1 + 65536 * a2 + 16777216 * a3) &&& (m + 256 * m + 65536 * m + 16777216 * m) = (a0 &&& m) + 256 * (a1 &&& m) + 65536 * (a2 &&& m) + 16777216 * (a3 &&& m) := by
  have e1 : a0 + 256 * a1 + 65536 * a2 + 16777216 * a3 = 2 ^ 8 * (2 ^ 8 * (2 ^ 8 * a3 + a2) + a1) + a0 := by omega
  have e2 : m + 256 * m + 65536 * m + 16777216 * m = 2 ^ 8 * (2 ^ 8 * (2 ^ 8 * m + m) + m) + m := by omega
  rw [e1, e2, and_split _ _ (by omega) (by omega), and_split _ _ (by omega) (by omega), and_split _ _ (by omega) (by omega)]
  omega
def bc1 (b t : Nat) : Nat := (b / 2 + 128 * t) &&& 0x55
def bx1 (b : Nat) : Nat := b - bc1 b 0
def bx2 (b t : Nat) : Nat := (b &&& 0x33) + ((b / 4 + 64 * t) &&& 0x33)
def bx3 (b t : Nat) : Nat := (b + (b / 16 + 16 * t)) &&& 0x0f
theorem bt_1 : ∀ b : Fin 256, ∀ t : Fin 2, bc1 b.val t.val = bc1 b.val 0 ∧ bc1 b.val 0 ≤ b.val := by decide +kernel
theorem bt_2 : ∀ b : Fin 256, ∀ t : Fin 4, bx2 b.val t.val = bx2 b.val 0 ∧ bx2 b.val 0 < 256 ∧ bx1 b.val < 256 := by decide +kernel
theorem bt_3 : ∀ b : Fin 256, bx2 (bx1 b.val) 0 ≤ 68 ∧ bx2 (bx1 b.val) 0 % 16 ≤ 4 ∧ pp 8 b.val ≤ 8 := by decide +kernel
theorem bt_4 : ∀ b : Fin 256, ∀ t : Fin 5, bx3 (bx2 (bx1 b.val) 0) t.val = pp 8 b.val := by decide +kernel
theorem pop_4 {b0 b1 b2 b3 : Nat} (h0 : b0 < 256) (h1 : b1 < 256) (h2 : b2 < 256) (h3 : b3 < 256) : pop (b0 + 256 * b1 + 65536 * b2 + 16777216 * b3) = pp 8 b0 + pp 8 b1 + pp 8 b2 + pp 8 b3 := by
  have hm : ∀ n, pp 8 (n % 256) = pp 8 n := fun n => pp_mod 8 n
  show pp (8 + (8 + (8 + 8))) _ = _
  rw [pp_add, pp_add, pp_add, Nat.div_div_eq_div_mul, Nat.div_div_eq_div_mul]
  rw [← hm (b0 + 256 * b1 + 65536 * b2 + 16777216 * b3), ← hm ((b0 + 256 * b1 + 65536 * b2 + 16777216 * b3) / 2 ^ 8), ← hm ((b0 + 256 * b1 + 65536 * b2 + 16777216 * b3) / (2 ^ 8 * 2 ^ 8)), ← hm ((b0 + 256 * b1 + 65536 * b2 + 16777216 * b3) / (2 ^ 8 * 2 ^ 8 * 2 ^ 8))]
  rw [show (b0 + 256 * b1 + 65536 * b2 + 16777216 * b3) % 256 = b0 by omega, show (b0 + 256 * b1 + 65536 * b2 + 16777216 * b3) / 2 ^ 8 % 256 = b1 by omega, show (b0 + 256 * b1 + 65536 * b2 + 16777216 * b3) / (2 ^ 8 * 2 ^ 8) % 256 = b2 by omega, show (b0 + 256 * b1 + 65536 * b2 + 16777216 * b3) / (2 ^ 8 * 2 ^ 8 * 2 ^ 8) % 256 = b3 by omega]
  omega
/-- the JDK's count -/
def jc1 (x : Nat) : Nat := x - (x / 2 &&& 1431655765)
def jc2 (x : Nat) : Nat := (x &&& 858993459) + (x / 4 &&& 858993459)
def jc3 (x : Nat) : Nat := (x + x / 16) &&& 252645135
theorem jc_1 {b0 b1 b2 b3 : Nat} (h0 : b0 < 256) (h1 : b1 < 256) (h2 : b2 < 256) (h3 : b3 < 256) : (b0 + 256 * b1 + 65536 * b2 + 16777216 * b3) / 2 &&& 1431655765 = bc1 b0 0 + 256 * bc1 b1 0 + 65536 * bc1 b2 0 + 16777216 * bc1 b3 0 := by
  rw [show (b0 + 256 * b1 + 65536 * b2 + 16777216 * b3) / 2 = (b0 / 2 + 128 * (b1 % 2)) + 256 * (b1 / 2 + 128 * (b2 % 2)) + 65536 * (b2 / 2 + 128 * (b3 % 2)) + 16777216 * (b3 / 2 + 128 * 0) by omega]
  rw [show (1431655765 : Nat) = 0x55 + 256 * 0x55 + 65536 * 0x55 + 16777216 * 0x55 from rfl, and_4 (by omega) (by omega) (by omega) (by decide)]
  have q0 := (bt_1 ⟨b0, h0⟩ ⟨b1 % 2, by omega⟩).1
  have q1 := (bt_1 ⟨b1, h1⟩ ⟨b2 % 2, by omega⟩).1
  have q2 := (bt_1 ⟨b2, h2⟩ ⟨b3 % 2, by omega⟩).1
  simp only at q0 q1 q2
  rw [← q0, ← q1, ← q2]
  rfl
theorem jc_pop {x : Nat} (hx : x < 2 ^ 32) : (x / 2 &&& 1431655765) ≤ x ∧ jc1 x < 2 ^ 32 ∧ jc2 (jc1 x) < 2 ^ 32 ∧ jc2 (jc1 x) + jc2 (jc1 x) / 16 < 2 ^ 32 ∧ jc3 (jc2 (jc1 x)) < 2 ^ 31 ∧ jc3 (jc2 (jc1 x)) + jc3 (jc2 (jc1 x)) / 256 < 2 ^ 31 ∧ (jc3 (jc2 (jc1 x)) + jc3 (jc2 (jc1 x)) / 256 + (jc3 (jc2 (jc1 x)) + jc3 (jc2 (jc1 x)) / 256) / 65536) &&& 63 = pop x := by
  obtain ⟨b0, b1, b2, b3, h0, h1, h2, h3, rfl⟩ : ∃ b0 b1 b2 b3 : Nat, b0 < 256 ∧ b1 < 256 ∧ b2 < 256 ∧ b3 < 256 ∧ x = b0 + 256 * b1 + 65536 * b2 + 16777216 * b3 := ⟨x % 256, x / 256 % 256, x / 65536 % 256, x / 16777216, by omega, by omega, by omega, by omega, by omega⟩
  have r0 := bt_1 ⟨b0, h0⟩ 0
  have r1 := bt_1 ⟨b1, h1⟩ 0
  have r2 := bt_1 ⟨b2, h2⟩ 0
  have r3 := bt_1 ⟨b3, h3⟩ 0
  have s0 := (bt_2 ⟨b0, h0⟩ 0).2.2
  have s1 := (bt_2 ⟨b1, h1⟩ 0).2.2
  have s2 := (bt_2 ⟨b2, h2⟩ 0).2.2
  have s3 := (bt_2 ⟨b3, h3⟩ 0).2.2
  have u0 := bt_3 ⟨b0, h0⟩
  have u1 := bt_3 ⟨b1, h1⟩
  have u2 := bt_3 ⟨b2, h2⟩
  have u3 := bt_3 ⟨b3, h3⟩
  simp only at r0 r1 r2 r3 s0 s1 s2 s3 u0 u1 u2 u3
  have e1 : jc1 (b0 + 256 * b1 + 65536 * b2 + 16777216 * b3) = bx1 b0 + 256 * bx1 b1 + 65536 * bx1 b2 + 16777216 * bx1 b3 := by
    unfold jc1
    rw [jc_1 h0 h1 h2 h3]
    unfold bx1
    omega
  have e2 : jc2 (bx1 b0 + 256 * bx1 b1 + 65536 * bx1 b2 + 16777216 * bx1 b3) = bx2 (bx1 b0) 0 + 256 * bx2 (bx1 b1) 0 + 65536 * bx2 (bx1 b2) 0 + 16777216 * bx2 (bx1 b3) 0 := by
    unfold jc2
    generalize bx1 b0 = c0 at s0 ⊢
    generalize bx1 b1 = c1 at s1 ⊢
    generalize bx1 b2 = c2 at s2 ⊢
    generalize bx1 b3 = c3 at s3 ⊢
    have q0 := (bt_2 ⟨c0, s0⟩ ⟨c1 % 4, by omega⟩).1
    have q1 := (bt_2 ⟨c1, s1⟩ ⟨c2 % 4, by omega⟩).1
    have q2 := (bt_2 ⟨c2, s2⟩ ⟨c3 % 4, by omega⟩).1
    simp only at q0 q1 q2
    rw [show (c0 + 256 * c1 + 65536 * c2 + 16777216 * c3) / 4 = (c0 / 4 + 64 * (c1 % 4)) + 256 * (c1 / 4 + 64 * (c2 % 4)) + 65536 * (c2 / 4 + 64 * (c3 % 4)) + 16777216 * (c3 / 4 + 64 * 0) by omega]
    rw [show (858993459 : Nat) = 0x33 + 256 * 0x33 + 65536 * 0x33 + 16777216 * 0x33 from rfl, and_4 s0 s1 s2 (by decide), and_4 (by omega) (by omega) (by omega) (by decide), ← q0, ← q1, ← q2]
    unfold bx2
    omega
  have e3 : jc3 (bx2 (bx1 b0) 0 + 256 * bx2 (bx1 b1) 0 + 65536 * bx2 (bx1 b2) 0 + 16777216 * bx2 (bx1 b3) 0) = pp 8 b0 + 256 * pp 8 b1 + 65536 * pp 8 b2 + 16777216 * pp 8 b3 := by
    have q0 := bt_4 ⟨b0, h0⟩ ⟨bx2 (bx1 b1) 0 % 16, by omega⟩
    have q1 := bt_4 ⟨b1, h1⟩ ⟨bx2 (bx1 b2) 0 % 16, by omega⟩
    have q2 := bt_4 ⟨b2, h2⟩ ⟨bx2 (bx1 b3) 0 % 16, by omega⟩
    have q3 := bt_4 ⟨b3, h3⟩ 0
    simp only at q0 q1 q2 q3
    rw [← q0, ← q1, ← q2, ← q3]
    unfold jc3 bx3
    generalize bx2 (bx1 b0) 0 = c0 at u0 ⊢
    generalize bx2 (bx1 b1) 0 = c1 at u1 ⊢
    generalize bx2 (bx1 b2) 0 = c2 at u2 ⊢
    generalize bx2 (bx1 b3) 0 = c3 at u3 ⊢
    rw [show (c0 + 256 * c1 + 65536 * c2 + 16777216 * c3) + (c0 + 256 * c1 + 65536 * c2 + 16777216 * c3) / 16 = (c0 + (c0 / 16 + 16 * (c1 % 16))) + 256 * (c1 + (c1 / 16 + 16 * (c2 % 16))) + 65536 * (c2 + (c2 / 16 + 16 * (c3 % 16))) + 16777216 * (c3 + (c3 / 16 + 16 * 0)) by omega]
    rw [show (252645135 : Nat) = 0x0f + 256 * 0x0f + 65536 * 0x0f + 16777216 * 0x0f from rfl, and_4 (by omega) (by omega) (by omega) (by decide)]
    rfl
  rw [jc_1 h0 h1 h2 h3, e1, e2, e3, pop_4 h0 h1 h2 h3]
  rw [show (63 : Nat) = 2 ^ 6 - 1 from rfl, Nat.and_two_pow_sub_one_eq_mod]
  generalize pp 8 b0 = e0 at u0 ⊢
  generalize pp 8 b1 = e1 at u1 ⊢
  generalize pp 8 b2 = e2 at u2 ⊢
  generalize pp 8 b3 = e3 at u3 ⊢
  have d1 : (e0 + 256 * e1 + 65536 * e2 + 16777216 * e3) / 256 = e1 + 256 * e2 + 65536 * e3 := by omega
  rw [d1]
  have d2 : (e0 + 256 * e1 + 65536 * e2 + 16777216 * e3 + (e1 + 256 * e2 + 65536 * e3)) / 65536 = e2 + e3 + 256 * e3 := by omega
  rw [d2]
  refine ⟨by omega, by omega, by omega, by omega, by omega, by omega, by omega⟩

theorem t_bitCount {x : Nat} (hx : x < 2 ^ 32) (w : Wd) : zE 296 [.int (nI x)] w = some (some (.int (nI (pop x))), w) := by
  obtain ⟨h1, h2, h3, h4, h5, h6, h7⟩ := jc_pop hx
  rw [zE_W []]
  unfold jc1 jc2 jc3 at *
  simp (disch := omega) only [tt_296, T_296, mx_296, Nat.reduceLT, Nat.reduceLeDiff, Nat.reduceEqDiff, Nat.reduceAdd, Nat.reduceMul, Nat.reduceSub, Nat.reducePow, Nat.reduceMod, Nat.reduceDiv, Nat.reduceBEq, ↓reduceIte, reduceCtorEq, and_true, true_and, and_false, false_and, and_self, zW_eq, zin, zop, zst, fw_ite, fw_K, fw_R, fw_F, fw_C, zBW_s, nth, stL, okL, nlg, ct, ctv, cI, cL, pu, tkC, iniL, pad, eL, Value.category, swK, bz, List.headD_cons, decide_true, decide_false, Bool.true_and, Bool.and_true, Bool.false_and, Bool.and_false, Bool.and_self, Bool.not_true, Bool.not_false, Bool.or_false, Bool.false_or, Bool.true_or, Bool.or_true, Bool.or_self, Bool.false_eq_true, rf_45, rf_47, rf_49, rf_50, rf_51, rf_58, rf_63, rf_65, rf_267, rf45, rf50, rf58, rf63, rf267, ob_45, ob_49, ob_50, ob_58, ob_63, ob_267, ln_46, ln_46n, ln_46m, ln_47, ln_47n, ln_48, ln_48n, ln_51, ln_56, ln_57, ln_59, ln_60, ln_61, ln_62, ln_64, ln_64n, ln_65, ln_268, ln_269, ln_270, ln_270n, ln_271, ln_271n, ln_272, ln_272n, ln_272m, ln_273, ln_274, ln_275, ln_276, ln_277, ln_278, ln_278n, ln_279, ln_280, ln_281, ln_282, ln_283, ln_283n, ln_284, ln_285, ln_286, ln_286n, ln_287, ln_287n, ln_288, ln_289, ln_289n, gF_sF, gF_sG, gF_sI, gF_sJ, gF_sP, gF_sR, gF_sL, gG_sF, gG_sG, gG_sI, gG_sJ, gG_sP, gG_sR, gG_sL, gI_sF, gI_sG, gI_sI, gI_sJ, gI_sP, gI_sR, gI_sL, gJ_sF, gJ_sG, gJ_sI, gJ_sJ, gJ_sP, gJ_sR, gJ_sL, gP_sF, gP_sG, gP_sI, gP_sJ, gP_sP, gP_sR, gP_sL, inB_n, inC_n, iX_n, nI_add, pk_mul, pk_sub, n_and, n_or, n_xor, n_one, n_ush, n_shr, n_div, n_rem, n_ltm, m_ltn, m_ltm, n_eqm, m_eqn, m_eqm, n_lt, n_eq, n_eq0, n_addm, n_i2l, m_i2l, n_l2i, lN_add, lN_mul, lN_sub, l_div, l_rem, l_eq0, lc_lt, lc_gt, lc_eq, l_lt, l_eq, l_ltm, ml_ltn, ml_ltm, l_eqm, ml_eqn, ml_eqm, h7]
