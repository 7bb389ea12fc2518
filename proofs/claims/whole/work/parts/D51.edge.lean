/-! ===== the choices as steps between POSITIONS ===== -/
theorem opS_tb {sc : Sg} (g : Gd sc) {p lim c : Nat} (hc : c < 28) : (opS sc p lim).testBit c = (if c < 14 then decide (c < sc.1 4) && (decide (p &&& needS sc c = needS sc c) && (p.testBit c || decide (pop p < lim))) else decide (c - 14 < sc.1 4) && swP sc p (c - 14)) := by
  have ho := opT_tb sc p (sc.1 4) g.1 c
  unfold opS
  by_cases q : pop p < lim
  · rw [if_pos q, ho]
    by_cases z : c < 14
    · rw [if_pos z, if_pos z, decide_eq_true q, Bool.or_true, Bool.and_true]
    · rw [if_neg z, if_neg z]
  · rw [if_neg q, Nat.testBit_and, Nat.testBit_or, ho, decide_eq_false q, Bool.or_false]
    by_cases z : c < 14
    · have : ∀ j : Fin 14, (268419072 : Nat).testBit j.val = false := by decide +kernel
      have t := this ⟨c, z⟩
      dsimp only at t
      rw [if_pos z, if_pos z, t, Bool.or_false, Bool.and_assoc]
    · have : ∀ j : Fin 14, (268419072 : Nat).testBit (j.val + 14) = true := by decide +kernel
      have t := this ⟨c - 14, by omega⟩
      dsimp only at t
      rw [show c - 14 + 14 = c by omega] at t
      rw [if_neg z, if_neg z, t, Bool.or_true, Bool.and_true]
theorem xx_c (p x : Nat) : p ^^^ x ^^^ x = p := by rw [Nat.xor_assoc, Nat.xor_self, Nat.xor_zero]
/-- a choice leads to a POSITION from which the same one leads back -/
theorem ch_inv {sc : Sg} (g : Gd sc) {p lim c : Nat} (hp : p < 2 ^ sc.1 4) (hl : pop p ≤ lim) (hc : c < 28) (h : (opS sc p lim).testBit c = true) : p ^^^ flS sc c < 2 ^ sc.1 4 ∧ pop (p ^^^ flS sc c) ≤ lim ∧ (opS sc (p ^^^ flS sc c) lim).testBit c = true := by
  have h14 := g.1
  rw [opS_tb g hc] at h
  by_cases z : c < 14
  · rw [if_pos z] at h
    simp only [Bool.and_eq_true, decide_eq_true_eq, Bool.or_eq_true] at h
    obtain ⟨h1, h2, h3⟩ := h
    have gv := g.2.2.2.2.2.2.1 c h1
    have fl : flS sc c = 2 ^ c := if_pos z
    rw [fl, opS_tb g hc, if_pos z, decide_eq_true h1, Bool.true_and]
    have hlt : p ^^^ 2 ^ c < 2 ^ sc.1 4 := xor_lt14 hp (p2_lt h1)
    have hn : (p ^^^ 2 ^ c) &&& needS sc c = needS sc c := by
      apply Nat.eq_of_testBit_eq
      intro i
      have h4 : (p &&& needS sc c).testBit i = (needS sc c).testBit i := by rw [h2]
      rw [Nat.testBit_and] at h4 ⊢
      by_cases e : i = c
      · subst e
        rw [Nat.testBit_lt_two_pow (needS_lt gv), Bool.and_false]
      · rw [tb_xor e]; exact h4
    rw [decide_eq_true hn, Bool.true_and, tb_xv]
    cases hb : p.testBit c with
    | true =>
      have e := pop_xs (S := p) (v := c) (by omega) hb
      have e2 := pop_pos (S := p) (v := c) (by omega) hb
      refine ⟨hlt, by omega, ?_⟩
      rw [decide_eq_true (show pop (p ^^^ 2 ^ c) < lim by omega)]
      rfl
    | false =>
      have e := pop_xc (S := p) (v := c) (by omega) hb
      have h3 : pop p < lim := by rcases h3 with h3 | h3; rw [hb] at h3; cases h3; exact h3
      refine ⟨hlt, by omega, rfl⟩
  · rw [if_neg z] at h
    simp only [Bool.and_eq_true, decide_eq_true_eq] at h
    obtain ⟨h1, h2⟩ := h
    have gv := g.2.2.2.2.2.2.1 _ h1
    rw [opS_tb g hc, if_neg z, decide_eq_true h1, Bool.true_and]
    have fl : flS sc c = 2 ^ (c - 14) ||| needS sc (c - 14) := if_neg z
    rw [fl]
    generalize c - 14 = v at *
    unfold swP at h2 ⊢
    simp only [Bool.and_eq_true, decide_eq_true_eq, Bool.not_eq_true', beq_eq_false_iff_ne] at h2
    obtain ⟨h5, hx⟩ := h2
    have hf := gv.2.2.1 (by omega)
    have nd : needS sc v = 2 ^ sc.2 1 v := by unfold needS; rw [if_neg (by omega), if_pos h5]
    rw [nd]
    generalize sc.2 1 v = f at *
    have hne : f ≠ v := by omega
    refine ⟨xor_lt14 hp (or_lt14 (p2_lt h1) (p2_lt (by omega))), ?_, ?_⟩
    · rw [sw_pop (by omega) (by omega) hne hx]; exact hl
    · rw [sw_tb hne, sw_tb hne, if_pos (Or.inl rfl), if_pos (Or.inr rfl), decide_eq_true h5, Bool.true_and]
      cases e1 : p.testBit v <;> cases e2 : p.testBit f <;> simp_all
/-- a step between POSITIONS with so many slates -/
def Ed (sc : Sg) (lim : Nat) (bar : Nat → Bool) (p q : Nat) : Prop := p < 2 ^ sc.1 4 ∧ pop p ≤ lim ∧ bar q = false ∧ ∃ c, c < 28 ∧ (opS sc p lim).testBit c = true ∧ q = p ^^^ flS sc c
def nob (_ : Nat) : Bool := false
theorem Ed_in {sc : Sg} (g : Gd sc) {lim : Nat} {bar : Nat → Bool} {p q : Nat} (h : Ed sc lim bar p q) : q < 2 ^ sc.1 4 ∧ pop q ≤ lim := by
  obtain ⟨h1, h2, -, c, h3, h4, rfl⟩ := h
  have := ch_inv g h1 h2 h3 h4
  exact ⟨this.1, this.2.1⟩
theorem Ed_sym {sc : Sg} (g : Gd sc) {lim : Nat} {p q : Nat} (h : Ed sc lim nob p q) : Ed sc lim nob q p := by
  obtain ⟨h1, h2, -, c, h3, h4, rfl⟩ := h
  have := ch_inv g h1 h2 h3 h4
  exact ⟨this.1, this.2.1, rfl, c, h3, this.2.2, (xx_c _ _).symm⟩
theorem Ed_mono {sc : Sg} (g : Gd sc) {lim lim' : Nat} {bar : Nat → Bool} {p q : Nat} (hl : lim ≤ lim') (h : Ed sc lim bar p q) : Ed sc lim' bar p q := by
  obtain ⟨h1, h2, h0, c, h3, h4, rfl⟩ := h
  refine ⟨h1, by omega, h0, c, h3, ?_, rfl⟩
  rw [opS_tb g h3] at h4 ⊢
  by_cases z : c < 14
  · rw [if_pos z] at h4 ⊢
    simp only [Bool.and_eq_true, decide_eq_true_eq, Bool.or_eq_true] at h4 ⊢
    exact ⟨h4.1, h4.2.1, h4.2.2.imp id (fun q => by omega)⟩
  · rw [if_neg z] at h4 ⊢
    exact h4
theorem pp_lt2 : ∀ f n p, p < 2 ^ n → pp f p ≤ n := by
  intro f
  induction f with
  | zero => intro n p _; exact Nat.zero_le _
  | succ f ih =>
    intro n p hp
    cases n with
    | zero =>
      have : p = 0 := by simpa using hp
      subst this
      rw [pp_0]; exact Nat.le_refl _
    | succ n =>
      have := ih n (p / 2) (by rw [Nat.pow_succ] at hp; omega)
      unfold pp
      omega
theorem pop_lt2 {n p : Nat} (h : p < 2 ^ n) : pop p ≤ n := pp_lt2 32 n p h
/-- more slates than SUMS are no use -/
theorem Ed_top {sc : Sg} (g : Gd sc) {lim : Nat} {bar : Nat → Bool} {p q : Nat} (h : Ed sc lim bar p q) : Ed sc (sc.1 4) bar p q := by
  obtain ⟨h1, h2, h0, c, h3, h4, rfl⟩ := h
  have h14 := g.1
  refine ⟨h1, pop_lt2 h1, h0, c, h3, ?_, rfl⟩
  rw [opS_tb g h3] at h4 ⊢
  by_cases z : c < 14
  · rw [if_pos z] at h4 ⊢
    simp only [Bool.and_eq_true, decide_eq_true_eq, Bool.or_eq_true] at h4 ⊢
    refine ⟨h4.1, h4.2.1, ?_⟩
    cases hb : p.testBit c with
    | true => exact Or.inl rfl
    | false =>
      right
      have e := pop_xc (S := p) (v := c) (by omega) hb
      have := pop_lt2 (xor_lt14 h1 (p2_lt h4.1))
      omega
  · rw [if_neg z] at h4 ⊢
    exact h4
theorem Ed_mv {sc : Sg} (g : Gd sc) {p c : Nat} (hp : p < 2 ^ sc.1 4) (hc : c < sc.1 4) (hn : p &&& needS sc c = needS sc c) : Ed sc (sc.1 4) nob p (p ^^^ 2 ^ c) := by
  have h14 := g.1
  refine ⟨hp, pop_lt2 hp, rfl, c, by omega, ?_, by rw [show flS sc c = 2 ^ c from if_pos (by omega)]⟩
  rw [opS_tb g (by omega), if_pos (by omega), decide_eq_true hc, decide_eq_true hn, Bool.true_and, Bool.true_and]
  cases hb : p.testBit c with
  | true => rfl
  | false =>
    have e := pop_xc (S := p) (v := c) (by omega) hb
    have := pop_lt2 (xor_lt14 hp (p2_lt hc))
    rw [decide_eq_true (by omega)]
    rfl
theorem need_sub {sc : Sg} {c X : Nat} (gv : GdV sc c) (hX : ∀ i, i < c → X.testBit i = true) : X &&& needS sc c = needS sc c := by
  apply Nat.eq_of_testBit_eq
  intro i
  rw [Nat.testBit_and]
  cases hb : (needS sc c).testBit i with
  | true =>
    rw [hX i (tb_lt (needS_lt gv) hb)]
    rfl
  | false => rw [Bool.and_false]
/-- with as many slates as SUMS one comes everywhere -/
theorem Wk_up {sc : Sg} (g : Gd sc) : ∀ j, j ≤ sc.1 4 → Wk (Ed sc (sc.1 4) nob) j 0 (2 ^ j - 1) := by
  intro j
  induction j with
  | zero => intro _; rfl
  | succ j ih =>
    intro hj
    refine ⟨2 ^ j - 1, ih (by omega), ?_⟩
    have hlt : 2 ^ j - 1 < 2 ^ sc.1 4 := by
      have := p2_lt (show j < sc.1 4 by omega)
      have := Nat.two_pow_pos j
      omega
    have e : 2 ^ (j + 1) - 1 = (2 ^ j - 1) ^^^ 2 ^ j := by
      apply Nat.eq_of_testBit_eq
      intro i
      rw [Nat.testBit_two_pow_sub_one, Nat.testBit_xor, Nat.testBit_two_pow_sub_one]
      by_cases z : i = j
      · subst z; rw [Nat.testBit_two_pow_self]; simp
      · rw [Nat.testBit_two_pow_of_ne (Ne.symm z)]
        by_cases y : i < j
        · rw [decide_eq_true y, decide_eq_true (by omega)]; rfl
        · rw [decide_eq_false y, decide_eq_false (by omega)]; rfl
    rw [e]
    exact Ed_mv g hlt (by omega) (need_sub (g.2.2.2.2.2.2.1 j (by omega)) (fun i hi => by rw [Nat.testBit_two_pow_sub_one]; exact decide_eq_true hi))
theorem Wk_dn {sc : Sg} (g : Gd sc) {S : Nat} (hS : S < 2 ^ sc.1 4) : ∀ j, j ≤ sc.1 4 → ∃ k, k ≤ j ∧ Wk (Ed sc (sc.1 4) nob) k (S ||| (2 ^ j - 1)) S := by
  intro j
  induction j with
  | zero => intro _; exact ⟨0, Nat.le_refl _, by show S ||| (1 - 1) = S; simp⟩
  | succ j ih =>
    intro hj
    obtain ⟨k, hk, h⟩ := ih (by omega)
    have tb : ∀ i, (S ||| (2 ^ (j + 1) - 1)).testBit i = (S.testBit i || decide (i < j + 1)) := by
      intro i; rw [Nat.testBit_or, Nat.testBit_two_pow_sub_one]
    cases hb : S.testBit j with
    | true =>
      refine ⟨k, by omega, ?_⟩
      have e : S ||| (2 ^ (j + 1) - 1) = S ||| (2 ^ j - 1) := by
        apply Nat.eq_of_testBit_eq
        intro i
        rw [tb, Nat.testBit_or, Nat.testBit_two_pow_sub_one]
        by_cases z : i = j
        · subst z; rw [hb]; rfl
        · by_cases y : i < j
          · rw [decide_eq_true y, decide_eq_true (by omega)]
          · rw [decide_eq_false y, decide_eq_false (by omega)]
      rw [e]; exact h
    | false =>
      refine ⟨k + 1, by omega, Wk_pre k _ (S ||| (2 ^ j - 1)) S ?_ h⟩
      have hlt : S ||| (2 ^ (j + 1) - 1) < 2 ^ sc.1 4 := by
        refine or_lt14 hS ?_
        have : 2 ^ (j + 1) ≤ 2 ^ sc.1 4 := Nat.pow_le_pow_right (by decide) hj
        have := Nat.two_pow_pos (j + 1)
        omega
      have e : S ||| (2 ^ j - 1) = (S ||| (2 ^ (j + 1) - 1)) ^^^ 2 ^ j := by
        apply Nat.eq_of_testBit_eq
        intro i
        rw [Nat.testBit_xor, tb, Nat.testBit_or, Nat.testBit_two_pow_sub_one]
        by_cases z : i = j
        · subst z; rw [hb, Nat.testBit_two_pow_self]; simp
        · rw [Nat.testBit_two_pow_of_ne (Ne.symm z)]
          by_cases y : i < j
          · rw [decide_eq_true y, decide_eq_true (by omega)]; simp
          · rw [decide_eq_false y, decide_eq_false (by omega)]; simp
      rw [e]
      exact Ed_mv g hlt (by omega) (need_sub (g.2.2.2.2.2.2.1 j (by omega)) (fun i hi => by rw [tb, decide_eq_true (show i < j + 1 by omega), Bool.or_true]))
theorem Wk_all {sc : Sg} (g : Gd sc) {S : Nat} (hS : S < 2 ^ sc.1 4) : ∃ k, k ≤ 28 ∧ Wk (Ed sc (sc.1 4) nob) k 0 S := by
  have h14 := g.1
  obtain ⟨k, hk, h⟩ := Wk_dn g hS (sc.1 4) (Nat.le_refl _)
  have e : S ||| (2 ^ sc.1 4 - 1) = 2 ^ sc.1 4 - 1 := by
    apply Nat.eq_of_testBit_eq
    intro i
    rw [Nat.testBit_or, Nat.testBit_two_pow_sub_one]
    by_cases y : i < sc.1 4
    · rw [decide_eq_true y, Bool.or_true]
    · rw [decide_eq_false y, Bool.or_false]
      exact Nat.testBit_lt_two_pow (Nat.lt_of_lt_of_le hS (Nat.pow_le_pow_right (by decide) (by omega)))
  rw [e] at h
  exact ⟨sc.1 4 + k, by omega, Wk_tr _ _ _ _ _ (Wk_up g _ (Nat.le_refl _)) h⟩
/-! the neighbours, in the order of the one and of the other -/
def nbC (sc : Sg) (p lim : Nat) : Nat → List Nat
  | 0 => []
  | m + 1 => if (opS sc p lim).testBit m = true then nbC sc p lim m ++ [p ^^^ flS sc m] else nbC sc p lim m
def nbM (sc : Sg) (p lim : Nat) : Nat → List Nat
  | 0 => []
  | k + 1 => nbM sc p lim k ++ ((if (opS sc p lim).testBit k = true then [p ^^^ flS sc k] else []) ++ (if (opS sc p lim).testBit (14 + k) = true then [p ^^^ flS sc (14 + k)] else []))
theorem nbC_mem {sc : Sg} {p lim q : Nat} : ∀ m, q ∈ nbC sc p lim m ↔ ∃ c, c < m ∧ (opS sc p lim).testBit c = true ∧ q = p ^^^ flS sc c := by
  intro m
  induction m with
  | zero =>
    constructor
    · intro h; cases h
    · rintro ⟨c, h, -⟩; omega
  | succ m ih =>
    unfold nbC
    by_cases z : (opS sc p lim).testBit m = true
    · rw [if_pos z, List.mem_append, ih]
      constructor
      · rintro (⟨c, h1, h2, h3⟩ | h)
        · exact ⟨c, by omega, h2, h3⟩
        · exact ⟨m, by omega, z, by simpa using h⟩
      · rintro ⟨c, h1, h2, h3⟩
        by_cases e : c = m
        · subst e; right; rw [h3]; exact List.mem_singleton.mpr rfl
        · left; exact ⟨c, by omega, h2, h3⟩
    · rw [if_neg z, ih]
      constructor
      · rintro ⟨c, h1, h2, h3⟩; exact ⟨c, by omega, h2, h3⟩
      · rintro ⟨c, h1, h2, h3⟩
        have : c ≠ m := fun e => z (e ▸ h2)
        exact ⟨c, by omega, h2, h3⟩
theorem nbM_mem {sc : Sg} {p lim q : Nat} : ∀ m, q ∈ nbM sc p lim m ↔ ∃ c, (c < m ∨ (14 ≤ c ∧ c < 14 + m)) ∧ (opS sc p lim).testBit c = true ∧ q = p ^^^ flS sc c := by
  intro m
  induction m with
  | zero =>
    constructor
    · intro h; cases h
    · rintro ⟨c, h, -⟩; omega
  | succ m ih =>
    unfold nbM
    rw [List.mem_append, List.mem_append, ih]
    constructor
    · rintro (⟨c, h1, h2, h3⟩ | h | h)
      · exact ⟨c, by omega, h2, h3⟩
      · by_cases z : (opS sc p lim).testBit m = true
        · rw [if_pos z] at h
          exact ⟨m, by omega, z, by simpa using h⟩
        · rw [if_neg z] at h; cases h
      · by_cases z : (opS sc p lim).testBit (14 + m) = true
        · rw [if_pos z] at h
          exact ⟨14 + m, by omega, z, by simpa using h⟩
        · rw [if_neg z] at h; cases h
    · rintro ⟨c, h1, h2, h3⟩
      by_cases e : c = m
      · subst e; right; left; rw [if_pos h2, h3]; exact List.mem_singleton.mpr rfl
      · by_cases e2 : c = 14 + m
        · subst e2; right; right; rw [if_pos h2, h3]; exact List.mem_singleton.mpr rfl
        · left; exact ⟨c, by omega, h2, h3⟩
theorem Ed_C {sc : Sg} {lim p q : Nat} {bar : Nat → Bool} (hp : p < 2 ^ sc.1 4) (hl : pop p ≤ lim) : Ed sc lim bar p q ↔ (q ∈ nbC sc p lim 28 ∧ bar q = false) := by
  rw [nbC_mem]
  exact ⟨fun h => ⟨h.2.2.2, h.2.2.1⟩, fun h => ⟨hp, hl, h.2, h.1⟩⟩
theorem Ed_M {sc : Sg} (g : Gd sc) {lim p q : Nat} {bar : Nat → Bool} (hp : p < 2 ^ sc.1 4) (hl : pop p ≤ lim) : Ed sc lim bar p q ↔ (q ∈ nbM sc p lim (sc.1 4) ∧ bar q = false) := by
  have h14 := g.1
  rw [nbM_mem]
  constructor
  · rintro ⟨-, -, hb, c, h3, h4, h5⟩
    refine ⟨⟨c, ?_, h4, h5⟩, hb⟩
    rw [opS_tb g h3] at h4
    by_cases z : c < 14
    · rw [if_pos z, Bool.and_eq_true] at h4
      exact Or.inl (of_decide_eq_true h4.1)
    · rw [if_neg z, Bool.and_eq_true] at h4
      have := of_decide_eq_true h4.1
      right
      omega
  · rintro ⟨⟨c, h3, h4, h5⟩, hb⟩
    exact ⟨hp, hl, hb, c, by omega, h4, h5⟩
/-! what a queue keeps to -/
def QB (sc : Sg) (lim B : Nat) (Q : Qu) : Prop := ND Q ∧ ∀ x, x ∈ Q → x.1 < 2 ^ sc.1 4 ∧ pop x.1 ≤ lim ∧ x.2 < B + Q.length
theorem QB.len {sc : Sg} {lim B : Nat} {Q : Qu} (h : QB sc lim B Q) : Q.length ≤ 2 ^ sc.1 4 := nd_len h.1 (fun x hx => (h.2 x hx).1)
theorem QB.len14 {sc : Sg} {lim B : Nat} {Q : Qu} (h : QB sc lim B Q) (g : Gd sc) : Q.length ≤ 16384 := Nat.le_trans h.len (Nat.pow_le_pow_right (n := 2) (j := 14) (by decide) g.1)
theorem QB.put {sc : Sg} {lim B : Nat} {Q : Qu} {bar : Nat → Bool} {d p : Nat} (h : QB sc lim B Q) (hp : p < 2 ^ sc.1 4) (hl : pop p ≤ lim) (hd : d ≤ B + Q.length) : QB sc lim B (qput bar d Q p) := by
  refine ⟨qput_nd h.1, fun x hx => ?_⟩
  rcases qput_c bar d Q p with ⟨e, -⟩ | ⟨e, -⟩
  · rw [e] at hx ⊢
    rw [List.length_append]
    rw [List.mem_append] at hx
    rcases hx with hx | hx
    · have := h.2 x hx
      exact ⟨this.1, this.2.1, by omega⟩
    · have hx : x = (p, d) := by simpa using hx
      subst hx
      exact ⟨hp, hl, by show d < B + (Q.length + 1); omega⟩
  · rw [e] at hx ⊢
    exact h.2 x hx
theorem QB.nil (sc : Sg) (lim B : Nat) : QB sc lim B [] := ⟨List.nodup_nil, fun x hx => by cases hx⟩
theorem fold_le (bar : Nat → Bool) (d : Nat) : ∀ (l : List Nat) (Q : Qu), Q.length ≤ (l.foldl (qput bar d) Q).length := by
  intro l
  induction l with
  | nil => intro Q; exact Nat.le_refl _
  | cons q l ih => intro Q; exact Nat.le_trans (qput_le bar d Q q) (ih _)
theorem fold_qa (bar : Nat → Bool) (d : Nat) : ∀ (l : List Nat) (Q : Qu) (i : Nat), i < Q.length → qa (l.foldl (qput bar d) Q) i = qa Q i := by
  intro l
  induction l with
  | nil => intro Q i _; rfl
  | cons q l ih =>
    intro Q i hi
    have := ih (qput bar d Q q) i (Nat.lt_of_lt_of_le hi (qput_le _ _ _ _))
    rw [qput_qa hi] at this
    exact this
theorem fold_qd (bar : Nat → Bool) (d : Nat) : ∀ (l : List Nat) (Q : Qu) (p e : Nat), qd Q p = some e → qd (l.foldl (qput bar d) Q) p = some e := by
  intro l
  induction l with
  | nil => intro Q p e h; exact h
  | cons q l ih => intro Q p e h; exact ih _ _ _ (qput_qd h)
theorem QB.fold {sc : Sg} {lim B : Nat} {bar : Nat → Bool} {d : Nat} : ∀ (l : List Nat) (Q : Qu), QB sc lim B Q → d ≤ B + Q.length → (∀ q, q ∈ l → q < 2 ^ sc.1 4 ∧ pop q ≤ lim) → QB sc lim B (l.foldl (qput bar d) Q) := by
  intro l
  induction l with
  | nil => intro Q h _ _; exact h
  | cons q l ih =>
    intro Q h hd hl
    have hq := hl q List.mem_cons_self
    exact ih _ (h.put hq.1 hq.2 hd) (by have := qput_le bar d Q q; omega) (fun r hr => hl r (List.mem_cons_of_mem _ hr))
def exC (sc : Sg) (lim : Nat) (bar : Nat → Bool) (Q : Qu) (h : Nat) : Qu := (nbC sc (qa Q h).1 lim 28).foldl (qput bar ((qa Q h).2 + 1)) Q
def exM (sc : Sg) (lim : Nat) (bar : Nat → Bool) (Q : Qu) (h : Nat) : Qu := (nbM sc (qa Q h).1 lim (sc.1 4)).foldl (qput bar ((qa Q h).2 + 1)) Q
theorem nbC_in {sc : Sg} (g : Gd sc) {p lim : Nat} (hp : p < 2 ^ sc.1 4) (hl : pop p ≤ lim) {m q : Nat} (hm : m ≤ 28) (h : q ∈ nbC sc p lim m) : q < 2 ^ sc.1 4 ∧ pop q ≤ lim := by
  obtain ⟨c, h1, h2, rfl⟩ := (nbC_mem m).mp h
  have := ch_inv g hp hl (show c < 28 by omega) h2
  exact ⟨this.1, this.2.1⟩
theorem nbM_in {sc : Sg} (g : Gd sc) {p lim : Nat} (hp : p < 2 ^ sc.1 4) (hl : pop p ≤ lim) {m q : Nat} (hm : m ≤ 14) (h : q ∈ nbM sc p lim m) : q < 2 ^ sc.1 4 ∧ pop q ≤ lim := by
  obtain ⟨c, h1, h2, rfl⟩ := (nbM_mem m).mp h
  have := ch_inv g hp hl (show c < 28 by omega) h2
  exact ⟨this.1, this.2.1⟩
theorem QB.hd {sc : Sg} {lim B : Nat} {Q : Qu} {h : Nat} (q : QB sc lim B Q) (hh : h < Q.length) : (qa Q h).1 < 2 ^ sc.1 4 ∧ pop (qa Q h).1 ≤ lim ∧ (qa Q h).2 < B + Q.length := q.2 _ (qa_mem hh)
theorem QB.exC {sc : Sg} (g : Gd sc) {lim B : Nat} {bar : Nat → Bool} {Q : Qu} {h : Nat} (q : QB sc lim B Q) (hh : h < Q.length) : QB sc lim B (exC sc lim bar Q h) := by
  obtain ⟨h1, h2, h3⟩ := q.hd hh
  exact QB.fold _ Q q (by omega) (fun r hr => nbC_in g h1 h2 (Nat.le_refl _) hr)
theorem QB.exM {sc : Sg} (g : Gd sc) {lim B : Nat} {bar : Nat → Bool} {Q : Qu} {h : Nat} (q : QB sc lim B Q) (hh : h < Q.length) : QB sc lim B (exM sc lim bar Q h) := by
  obtain ⟨h1, h2, h3⟩ := q.hd hh
  exact QB.fold _ Q q (by omega) (fun r hr => nbM_in g h1 h2 g.1 hr)
theorem iv_exC {sc : Sg} {lim B : Nat} {bar : Nat → Bool} {src : Nat → Nat → Prop} {Q : Qu} {h : Nat} (I : Iv (Ed sc lim bar) src Q h) (q : QB sc lim B Q) (hh : h < Q.length) : Iv (Ed sc lim bar) src (exC sc lim bar Q h) (h + 1) := by
  obtain ⟨h1, h2, h3⟩ := q.hd hh
  exact iv_exp I hh (fun r => Ed_C h1 h2)
theorem iv_exM {sc : Sg} (g : Gd sc) {lim B : Nat} {bar : Nat → Bool} {src : Nat → Nat → Prop} {Q : Qu} {h : Nat} (I : Iv (Ed sc lim bar) src Q h) (q : QB sc lim B Q) (hh : h < Q.length) : Iv (Ed sc lim bar) src (exM sc lim bar Q h) (h + 1) := by
  obtain ⟨h1, h2, h3⟩ := q.hd hh
  exact iv_exp I hh (fun r => Ed_M g h1 h2)
theorem Sd.mono {src : Nat → Nat → Prop} {Q : Qu} {bar : Nat → Bool} {d : Nat} (l : List Nat) (h : Sd src Q) : Sd src (l.foldl (qput bar d) Q) := fun p e hs => by
  obtain ⟨x, x1, x2⟩ := h p e hs
  exact ⟨x, fold_qd bar d l Q p x x1, x2⟩
