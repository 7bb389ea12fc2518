/-! ===== changes of a SCHOOL ===== -/
theorem needS_c {sc sc' : Sg} (h0 : sc'.2 0 = sc.2 0) (h1 : sc'.2 1 = sc.2 1) (h2 : sc'.2 2 = sc.2 2) : needS sc' = needS sc := by
  funext v
  unfold needS
  rw [h0, h1, h2]
theorem wkS_c {sc sc' : Sg} (h0 : sc'.2 0 = sc.2 0) (h1 : sc'.2 1 = sc.2 1) (h2 : sc'.2 2 = sc.2 2) : wkS sc' = wkS sc := by
  funext f v
  unfold wkS
  rw [h0, h1, h2]
theorem valS_c {sc sc' : Sg} (h0 : sc'.2 0 = sc.2 0) (h1 : sc'.2 1 = sc.2 1) (h2 : sc'.2 2 = sc.2 2) : valS sc' = valS sc := by
  funext v
  unfold valS
  rw [wkS_c h0 h1 h2]
theorem ancS_c {sc sc' : Sg} (h0 : sc'.2 0 = sc.2 0) (h1 : sc'.2 1 = sc.2 1) (h2 : sc'.2 2 = sc.2 2) : ancS sc' = ancS sc := by
  have : ancF sc' = ancF sc := by
    funext f v
    unfold ancF
    rw [h0, h1, h2]
  funext v
  unfold ancS
  rw [this]
theorem depS_c {sc sc' : Sg} (h0 : sc'.2 0 = sc.2 0) (h1 : sc'.2 1 = sc.2 1) (h2 : sc'.2 2 = sc.2 2) : depS sc' = depS sc := by
  have : depF sc' = depF sc := by
    funext f v
    unfold depF
    rw [h0, h1, h2]
  funext v
  unfold depS
  rw [this]
theorem ClS.to {k : Nat} {sc sc' : Sg} {w w' : Wd} (h : ClS k sc w) (h4 : sc'.1 4 = sc.1 4) (h0 : sc'.2 0 = sc.2 0) (h1 : sc'.2 1 = sc.2 1) (h2 : sc'.2 2 = sc.2 2) (hF : ∀ j, j < 6 → gF w' k j = nI (sc'.1 j)) (hA : ∀ j, 1 ≤ j → j ≤ 7 → ∀ i, gI w' (k + j) i = gI w (k + j) i) (hN : ∀ v, v < sc.1 4 → (sc'.1 5).testBit v = true → gI w' (k + 8) v = nI (sc'.2 3 v)) : ClS k sc' w' := by
  obtain ⟨a, b, c, d⟩ := h
  refine ⟨a, hF, fun v hv => ?_, fun v hv hs => hN v (h4 ▸ hv) hs⟩
  rw [needS_c h0 h1 h2, ancS_c h0 h1 h2, depS_c h0 h1 h2, valS_c h0 h1 h2, h0, h1, h2, hA 1 (by omega) (by omega), hA 2 (by omega) (by omega), hA 3 (by omega) (by omega), hA 4 (by omega) (by omega), hA 5 (by omega) (by omega), hA 6 (by omega) (by omega), hA 7 (by omega) (by omega)]
  exact c v (h4 ▸ hv)
/-- one of the numbers lent, lost; what stands -/
def seS (sc : Sg) (j x : Nat) : Sg := (upd1 sc.1 j x, sc.2)
theorem seS_eq (sc : Sg) (j x : Nat) : (seS sc j x).1 j = x := if_pos rfl
theorem seS_ne (sc : Sg) {i j : Nat} (x : Nat) (h : i ≠ j) : (seS sc j x).1 i = sc.1 i := if_neg h
theorem ClS.se {k j x : Nat} {sc : Sg} {w : Wd} (h : ClS k sc w) (hj : j < 6) (h4 : j ≠ 4) (h5 : j = 5 → ∀ v, v < sc.1 4 → x.testBit v = true → (sc.1 5).testBit v = true) : ClS k (seS sc j x) (sF w k j (nI x)) := by
  refine h.to (seS_ne sc x (by omega)) rfl rfl rfl (fun i hi => ?_) (fun _ _ _ _ => rfl) (fun v hv hs => ?_)
  · rw [gF_sF]
    by_cases e : i = j
    · rw [if_pos ⟨rfl, e⟩, e, seS_eq]
    · rw [if_neg (fun z => e z.2), seS_ne sc x e]
      exact h.2.1 i hi
  · refine h.2.2.2 v hv ?_
    by_cases e : j = 5
    · subst e
      rw [seS_eq] at hs
      exact h5 rfl v hv hs
    · rw [seS_ne sc x (by omega)] at hs
      exact hs
theorem nuS_3 (sc : Sg) (v x : Nat) : (nuS sc v x).2 3 = upd1 (sc.2 3) v x := rfl
theorem ClS.nu {k v x : Nat} {sc : Sg} {w : Wd} (h : ClS k sc w) : ClS k (nuS sc v x) (sI w (k + 8) v (nI x)) := by
  refine h.to rfl rfl rfl rfl (fun i hi => h.2.1 i hi) (fun j _ hj i => ?_) (fun u hu hs => ?_)
  · rw [gI_sI, if_neg (by omega)]
  · rw [gI_sI, nuS_3]
    unfold upd1
    by_cases e : u = v
    · rw [if_pos ⟨rfl, e⟩, if_pos e]
    · rw [if_neg (fun z => e z.2), if_neg e]
      exact h.2.2.2 u hu hs
/-- a number is written, and what stands changes: at most that SUM stands anew -/
theorem ClS.ns {k v x S : Nat} {sc : Sg} {w : Wd} (h : ClS k sc w) (hS : ∀ u, u < sc.1 4 → S.testBit u = true → u = v ∨ (sc.1 5).testBit u = true) : ClS k (seS (nuS sc v x) 5 S) (sF (sI w (k + 8) v (nI x)) k 5 (nI S)) := by
  refine h.to (seS_ne _ S (by decide)) rfl rfl rfl (fun i hi => ?_) (fun j _ hj i => ?_) (fun u hu hs => ?_)
  · rw [gF_sF]
    by_cases e : i = 5
    · rw [if_pos ⟨rfl, e⟩, e, seS_eq]
    · rw [if_neg (fun z => e z.2), seS_ne _ S e]
      exact h.2.1 i hi
  · rw [gI_sF, gI_sI, if_neg (by omega)]
  · rw [gI_sF, gI_sI]
    show _ = nI (upd1 (sc.2 3) v x u)
    unfold upd1
    by_cases e : u = v
    · rw [if_pos ⟨rfl, e⟩, if_pos e]
    · rw [if_neg (fun z => e z.2), if_neg e]
      rw [seS_eq] at hs
      exact h.2.2.2 u hu ((hS u hu hs).resolve_left e)
/-! pop under a bit's change -/
theorem xor_m2 (a b : Nat) : (a ^^^ b) % 2 = (a % 2 + b % 2) % 2 := by
  have h1 := Nat.xor_mod_two_pow (n := 1) (a := a) (b := b)
  simp only [Nat.pow_one] at h1
  rw [h1]
  rcases Nat.mod_two_eq_zero_or_one a with e | e <;> rcases Nat.mod_two_eq_zero_or_one b with e2 | e2 <;> rw [e, e2] <;> rfl
theorem pp_xor : ∀ f n v, v < f → pp f (n ^^^ 2 ^ v) = if n.testBit v = true then pp f n - 1 else pp f n + 1 := by
  intro f
  induction f with
  | zero => intro n v h; omega
  | succ f ih =>
    intro n v hv
    unfold pp
    rw [Nat.xor_div_two, xor_m2]
    cases v with
    | zero =>
      rw [Nat.pow_zero, show (1 : Nat) / 2 = 0 from rfl, Nat.xor_zero, Nat.testBit_zero]
      by_cases e : n % 2 = 1
      · rw [e]; simp
      · rw [show n % 2 = 0 by omega]; simp; omega
    | succ v =>
      have hd : 2 ^ (v + 1) / 2 = 2 ^ v := by rw [Nat.pow_succ]; omega
      have hm : 2 ^ (v + 1) % 2 = 0 := by rw [Nat.pow_succ]; omega
      rw [hd, hm, ih (n / 2) v (by omega), Nat.testBit_succ]
      split
      · rename_i hb
        have : 1 ≤ pp f (n / 2) := by
          have h2 : ∀ f n v, v < f → n.testBit v = true → 1 ≤ pp f n := by
            intro f
            induction f with
            | zero => intro n v h; omega
            | succ f ih =>
              intro n v hv hb
              unfold pp
              cases v with
              | zero => rw [Nat.testBit_zero] at hb; have := of_decide_eq_true hb; omega
              | succ v =>
                rw [Nat.testBit_succ] at hb
                have := ih (n / 2) v (by omega) hb
                omega
          exact h2 f (n / 2) v (by omega) hb
        omega
      · omega
theorem pop_xs {S v : Nat} (hv : v < 32) (h : S.testBit v = true) : pop (S ^^^ 2 ^ v) = pop S - 1 := by
  unfold pop
  rw [pp_xor 32 S v hv, if_pos h]
theorem pop_xc {S v : Nat} (hv : v < 32) (h : S.testBit v = false) : pop (S ^^^ 2 ^ v) = pop S + 1 := by
  unfold pop
  rw [pp_xor 32 S v hv, if_neg (by simp [h])]
theorem pop_pos {S v : Nat} (hv : v < 32) (h : S.testBit v = true) : 1 ≤ pop S := by
  have h1 := pop_xc (S := S ^^^ 2 ^ v) hv (by rw [Nat.testBit_xor, h, Nat.testBit_two_pow_self]; rfl)
  rw [Nat.xor_assoc, Nat.xor_self, Nat.xor_zero] at h1
  omega
theorem or_xor {S v : Nat} (h : S.testBit v = false) : S ||| 2 ^ v = S ^^^ 2 ^ v := by
  apply Nat.eq_of_testBit_eq
  intro i
  rw [Nat.testBit_or, Nat.testBit_xor]
  by_cases e : v = i
  · subst e; rw [h, Nat.testBit_two_pow_self]; rfl
  · rw [Nat.testBit_two_pow_of_ne e]; simp
theorem xor_lt14 {a b n : Nat} (ha : a < 2 ^ n) (hb : b < 2 ^ n) : a ^^^ b < 2 ^ n := Nat.xor_lt_two_pow ha hb
theorem tb_xor {S v u : Nat} (h : u ≠ v) : (S ^^^ 2 ^ v).testBit u = S.testBit u := by
  rw [Nat.testBit_xor, Nat.testBit_two_pow_of_ne (Ne.symm h)]
  simp
theorem tb_xv (S v : Nat) : (S ^^^ 2 ^ v).testBit v = !S.testBit v := by
  rw [Nat.testBit_xor, Nat.testBit_two_pow_self]
  simp
theorem Gd.to {sc sc' : Sg} (g : Gd sc) (h4 : sc'.1 4 = sc.1 4) (h0 : sc'.2 0 = sc.2 0) (h1 : sc'.2 1 = sc.2 1) (h2 : sc'.2 2 = sc.2 2) (a : sc'.1 5 < 2 ^ sc.1 4) (b : sc'.1 1 ≤ 14) (c : sc'.1 2 ≤ 3) (d : pop (sc'.1 5) + sc'.1 3 ≤ sc'.1 1 + sc'.1 2) (e : sc'.1 0 ≤ 15) (f : ∀ v, v < sc.1 4 → (sc'.1 5).testBit v = true → sc'.2 3 v < 1000003) : Gd sc' := by
  refine ⟨by rw [h4]; exact g.1, by rw [h4]; exact a, b, c, d, e, fun v hv => ?_, fun v hv hs => f v (h4 ▸ hv) hs⟩
  have := g.2.2.2.2.2.2.1 v (h4 ▸ hv)
  unfold GdV at this ⊢
  rw [h0, h1, h2]
  exact this
theorem GdA.wS {A : Ab} (g : GdA A) {sc : Sg} (h : Gd sc) : GdA (A.wS sc) := ⟨g.1, g.2.1, h, g.2.2.2.1, g.2.2.2.2⟩
theorem MoT.to {sc sc' : Sg} {w w' : Wd} (h : MoT sc w) (h00 : sc'.1 0 = sc.1 0) (h4 : sc'.1 4 = sc.1 4) (h0 : sc'.2 0 = sc.2 0) (h1 : sc'.2 1 = sc.2 1) (h2 : sc'.2 2 = sc.2 2) (e3 : ∀ i, gI w' 273 i = gI w 273 i) (e4 : ∀ i, gI w' 274 i = gI w 274 i) (e6 : ∀ i, gI w' 276 i = gI w 276 i) : MoT sc' w' := by
  refine ⟨by rw [e3, h00]; exact h.1, by rw [e4, h4]; exact h.2.1, fun v hv => ?_⟩
  rw [e6, e6, e6, h0, h1, h2]
  exact h.2.2 v (h4 ▸ hv)
