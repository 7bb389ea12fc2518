/-! ===== a SCHOOL: sc.1: 0 lines, 1 told, 2 lent, 3 lost, 4 sums, 5 what stands; sc.2: 0 sorts, 1 firsts, 2 seconds, 3 the numbers on slates ===== -/
abbrev Sg : Type := (Nat → Nat) × (Nat → Nat → Nat)
def bI (b : Bool) : Int32 := if b = true then nI 1 else nI 0
theorem bI_0 (b : Bool) : (bI b = nI 0) = (b = false) := by cases b <;> simp [bI, show ¬ (nI 1 = nI 0) by decide]
theorem bI_bz (b : Bool) : bz (bI b) 1 = true := by cases b <;> rfl
theorem bI_t : bI true = nI 1 := rfl
theorem bI_f : bI false = nI 0 := rfl
theorem bI_eq (a b : Bool) : (bI a = bI b) = (a = b) := by cases a <;> cases b <;> simp [bI, show ¬ (nI 1 = nI 0) by decide, show ¬ (nI 0 = nI 1) by decide]
theorem bI_d {p : Prop} [Decidable p] : (if p then nI 1 else nI 0) = bI (decide p) := by unfold bI; by_cases h : p <;> simp [h]
theorem bitT {S v : Nat} : (S / 2 ^ v &&& 1 = 0) = (S.testBit v = false) := by rw [Nat.and_one_is_mod, bit0]
theorem bitV {S v : Nat} : nI (S / 2 ^ v &&& 1) = bI (S.testBit v) := by
  rw [Nat.and_one_is_mod, Nat.testBit_eq_decide_div_mod_eq]
  unfold bI
  by_cases h : S / 2 ^ v % 2 = 1
  · rw [h]; rfl
  · rw [show S / 2 ^ v % 2 = 0 by omega]; rfl
def upd1 (f : Nat → Nat) (n x : Nat) : Nat → Nat := fun i => if i = n then x else f i
/-- what a SUM is worked to from the numbers f -/
def wkS (sc : Sg) (f : Nat → Nat) (v : Nat) : Nat :=
  if sc.2 0 v = 0 then sc.2 1 v
  else if sc.2 0 v = 1 then (f (sc.2 1 v) + f (sc.2 2 v)) % 1000003
  else if sc.2 0 v = 2 then (f (sc.2 1 v) + 1000003 - f (sc.2 2 v)) % 1000003
  else if sc.2 0 v = 3 then f (sc.2 1 v) * f (sc.2 2 v) % 1000003
  else if sc.2 0 v = 4 then (if f (sc.2 1 v) < f (sc.2 2 v) then f (sc.2 2 v) else f (sc.2 1 v))
  else (f (sc.2 1 v) + sc.2 2 v) % 1000003
def needS (sc : Sg) (v : Nat) : Nat := if sc.2 0 v = 0 then 0 else if sc.2 0 v = 5 then 2 ^ sc.2 1 v else 2 ^ sc.2 1 v ||| 2 ^ sc.2 2 v
def ancF (sc : Sg) (f : Nat → Nat) (v : Nat) : Nat := if sc.2 0 v = 0 then 0 else if sc.2 0 v = 5 then 2 ^ sc.2 1 v ||| f (sc.2 1 v) else (2 ^ sc.2 1 v ||| f (sc.2 1 v)) ||| (2 ^ sc.2 2 v ||| f (sc.2 2 v))
def depF (sc : Sg) (f : Nat → Nat) (v : Nat) : Nat := if sc.2 0 v = 0 then 0 else if sc.2 0 v = 5 then f (sc.2 1 v) + 1 else max (f (sc.2 1 v)) (f (sc.2 2 v)) + 1
/-- tables that are laid one by one -/
def layT (F : (Nat → Nat) → Nat → Nat) : Nat → Nat → Nat
  | 0 => fun _ => 0
  | n + 1 => upd1 (layT F n) n (F (layT F n) n)
def valS (sc : Sg) (v : Nat) : Nat := layT (wkS sc) (v + 1) v
def ancS (sc : Sg) (v : Nat) : Nat := layT (ancF sc) (v + 1) v
def depS (sc : Sg) (v : Nat) : Nat := layT (depF sc) (v + 1) v
theorem layT_lt (F : (Nat → Nat) → Nat → Nat) : ∀ n v, v < n → layT F n v = layT F (v + 1) v := by
  intro n
  induction n with
  | zero => intro v h; omega
  | succ n ih =>
    intro v h
    by_cases e : v = n
    · subst e; rfl
    · show upd1 (layT F n) n _ v = _
      unfold upd1
      rw [if_neg e]
      exact ih v (by omega)
theorem layT_at (F : (Nat → Nat) → Nat → Nat) (n : Nat) : layT F (n + 1) n = F (layT F n) n := by
  show upd1 (layT F n) n _ n = _
  unfold upd1
  rw [if_pos rfl]
/-- a SUM comes of SUMS ahead alone -/
def GdV (sc : Sg) (v : Nat) : Prop := sc.2 0 v ≤ 5 ∧ (sc.2 0 v = 0 → sc.2 1 v < 1000003) ∧ (sc.2 0 v ≠ 0 → sc.2 1 v < v) ∧ (sc.2 0 v ≠ 0 → sc.2 0 v ≠ 5 → sc.2 2 v < v) ∧ (sc.2 0 v = 5 → 1 ≤ sc.2 2 v ∧ sc.2 2 v ≤ 999)
def Gd (sc : Sg) : Prop := sc.1 4 ≤ 14 ∧ sc.1 5 < 2 ^ sc.1 4 ∧ sc.1 1 ≤ 14 ∧ sc.1 2 ≤ 3 ∧ pop (sc.1 5) + sc.1 3 ≤ sc.1 1 + sc.1 2 ∧ sc.1 0 ≤ 15 ∧ (∀ v, v < sc.1 4 → GdV sc v) ∧ (∀ v, v < sc.1 4 → (sc.1 5).testBit v = true → sc.2 3 v < 1000003)
theorem wkS_congr {sc : Sg} {f g : Nat → Nat} {v : Nat} (h : GdV sc v) (hfg : ∀ u, u < v → f u = g u) : wkS sc f v = wkS sc g v := by
  obtain ⟨h1, h2, h3, h4, h5⟩ := h
  unfold wkS
  by_cases e0 : sc.2 0 v = 0
  · rw [if_pos e0, if_pos e0]
  · rw [if_neg e0, if_neg e0, hfg _ (h3 e0)]
    by_cases e5 : sc.2 0 v = 5
    · simp [e5]
    · rw [hfg _ (h4 e0 e5)]
theorem ancF_congr {sc : Sg} {f g : Nat → Nat} {v : Nat} (h : GdV sc v) (hfg : ∀ u, u < v → f u = g u) : ancF sc f v = ancF sc g v := by
  obtain ⟨h1, h2, h3, h4, h5⟩ := h
  unfold ancF
  by_cases e0 : sc.2 0 v = 0
  · rw [if_pos e0, if_pos e0]
  · rw [if_neg e0, if_neg e0, hfg _ (h3 e0)]
    by_cases e5 : sc.2 0 v = 5
    · simp [e5]
    · rw [hfg _ (h4 e0 e5)]
theorem depF_congr {sc : Sg} {f g : Nat → Nat} {v : Nat} (h : GdV sc v) (hfg : ∀ u, u < v → f u = g u) : depF sc f v = depF sc g v := by
  obtain ⟨h1, h2, h3, h4, h5⟩ := h
  unfold depF
  by_cases e0 : sc.2 0 v = 0
  · rw [if_pos e0, if_pos e0]
  · rw [if_neg e0, if_neg e0, hfg _ (h3 e0)]
    by_cases e5 : sc.2 0 v = 5
    · simp [e5]
    · rw [hfg _ (h4 e0 e5)]
theorem valS_eq {sc : Sg} {v : Nat} (h : GdV sc v) : valS sc v = wkS sc (valS sc) v := by
  unfold valS
  rw [layT_at]
  exact wkS_congr h (fun u hu => layT_lt _ _ _ hu)
theorem ancS_eq {sc : Sg} {v : Nat} (h : GdV sc v) : ancS sc v = ancF sc (ancS sc) v := by
  unfold ancS
  rw [layT_at]
  exact ancF_congr h (fun u hu => layT_lt _ _ _ hu)
theorem depS_eq {sc : Sg} {v : Nat} (h : GdV sc v) : depS sc v = depF sc (depS sc) v := by
  unfold depS
  rw [layT_at]
  exact depF_congr h (fun u hu => layT_lt _ _ _ hu)
theorem wkS_lt {sc : Sg} {f : Nat → Nat} {v : Nat} (h : GdV sc v) (h1 : sc.2 0 v ≠ 0 → f (sc.2 1 v) < 1000003) (h2 : sc.2 0 v ≠ 0 → sc.2 0 v ≠ 5 → f (sc.2 2 v) < 1000003) : wkS sc f v < 1000003 := by
  obtain ⟨a1, a2, a3, a4, a5⟩ := h
  unfold wkS
  by_cases e0 : sc.2 0 v = 0
  · rw [if_pos e0]; exact a2 e0
  · rw [if_neg e0]
    split
    · exact Nat.mod_lt _ (by decide)
    · split
      · exact Nat.mod_lt _ (by decide)
      · split
        · exact Nat.mod_lt _ (by decide)
        · split
          · split
            · exact h2 e0 (by omega)
            · exact h1 e0
          · exact Nat.mod_lt _ (by decide)
theorem valS_lt {sc : Sg} (g : ∀ v, v < sc.1 4 → GdV sc v) : ∀ v, v < sc.1 4 → valS sc v < 1000003 := by
  intro v
  induction v using Nat.strongRecOn with
  | ind v ih =>
    intro hv
    have gv := g v hv
    rw [valS_eq gv]
    exact wkS_lt gv (fun e => ih _ (gv.2.2.1 e) (by have := gv.2.2.1 e; omega)) (fun e e5 => ih _ (gv.2.2.2.1 e e5) (by have := gv.2.2.2.1 e e5; omega))
theorem or_lt14 {a b n : Nat} (ha : a < 2 ^ n) (hb : b < 2 ^ n) : a ||| b < 2 ^ n := Nat.or_lt_two_pow ha hb
theorem p2_lt {a n : Nat} (h : a < n) : 2 ^ a < 2 ^ n := Nat.pow_lt_pow_right (by decide) h
theorem needS_lt {sc : Sg} {v : Nat} (h : GdV sc v) : needS sc v < 2 ^ v := by
  obtain ⟨h1, h2, h3, h4, h5⟩ := h
  unfold needS
  by_cases e0 : sc.2 0 v = 0
  · rw [if_pos e0]; exact Nat.two_pow_pos v
  · rw [if_neg e0]
    by_cases e5 : sc.2 0 v = 5
    · rw [if_pos e5]; exact p2_lt (h3 e0)
    · rw [if_neg e5]; exact or_lt14 (p2_lt (h3 e0)) (p2_lt (h4 e0 e5))
theorem ancS_lt {sc : Sg} (g : ∀ v, v < sc.1 4 → GdV sc v) : ∀ v, v < sc.1 4 → ancS sc v < 2 ^ v := by
  intro v
  induction v using Nat.strongRecOn with
  | ind v ih =>
    intro hv
    have gv := g v hv
    have gv2 := gv
    rw [ancS_eq gv]
    obtain ⟨h1, h2, h3, h4, h5⟩ := gv
    unfold ancF
    by_cases e0 : sc.2 0 v = 0
    · rw [if_pos e0]; exact Nat.two_pow_pos v
    · rw [if_neg e0]
      have q1 := ih _ (h3 e0) (by have := h3 e0; omega)
      have q1 := Nat.lt_trans q1 (p2_lt (h3 e0))
      by_cases e5 : sc.2 0 v = 5
      · rw [if_pos e5]; exact or_lt14 (p2_lt (h3 e0)) q1
      · rw [if_neg e5]
        have q2 := ih _ (h4 e0 e5) (by have := h4 e0 e5; omega)
        have q2 := Nat.lt_trans q2 (p2_lt (h4 e0 e5))
        exact or_lt14 (or_lt14 (p2_lt (h3 e0)) q1) (or_lt14 (p2_lt (h4 e0 e5)) q2)
theorem depS_le {sc : Sg} (g : ∀ v, v < sc.1 4 → GdV sc v) : ∀ v, v < sc.1 4 → depS sc v ≤ v := by
  intro v
  induction v using Nat.strongRecOn with
  | ind v ih =>
    intro hv
    have gv := g v hv
    rw [depS_eq gv]
    obtain ⟨h1, h2, h3, h4, h5⟩ := gv
    unfold depF
    by_cases e0 : sc.2 0 v = 0
    · rw [if_pos e0]; omega
    · rw [if_neg e0]
      have q0 := h3 e0
      have q1 := ih _ q0 (by omega)
      by_cases e5 : sc.2 0 v = 5
      · rw [if_pos e5]; omega
      · rw [if_neg e5]
        have q3 := h4 e0 e5
        have q2 := ih _ q3 (by omega)
        omega
theorem n_fm {a b : Nat} (ha : a < 1000003) (hb : b < 1000003) : fmI (nI a - nI b) (nI 1000003) = nI ((a + 1000003 - b) % 1000003) := by
  by_cases h : b ≤ a
  · rw [pk_sub h]
    unfold fmI
    rw [n_rem (by omega) (by decide) (by decide), n_xor]
    have hx : (a - b) ^^^ 1000003 < 2 ^ 20 := Nat.xor_lt_two_pow (by omega) (by decide)
    rw [if_neg (nI_pos (by omega))]
    congr 1
    omega
  · have e : nI a - nI b = mI (b - a) := by
      apply Int32.toInt_inj.mp
      rw [pk_sub_toInt (by omega) (by omega), m_toInt (by omega)]
      omega
    rw [e]
    have hd : mI (b - a) / nI 1000003 = nI 0 := by
      apply Int32.toInt_inj.mp
      rw [Int32.toInt_div, m_toInt (by omega), nI_toInt (by decide), nI_toInt (by decide)]
      have : (-((b - a : Nat) : Int)).tdiv ((1000003 : Nat) : Int) = 0 := by
        rw [Int.neg_tdiv, Int.tdiv_eq_zero_of_lt (by omega) (by omega)]
        rfl
      rw [this]
      rfl
    have hr : remI (mI (b - a)) (nI 1000003) = mI (b - a) := by
      unfold remI
      rw [hd, pk_mul, Nat.zero_mul, nI_0, Int32.sub_zero]
    unfold fmI
    rw [hr]
    have hne : ¬ mI (b - a) = 0 := by
      rw [← nI_0, m_eqn (by decide) (by omega) (by omega)]
      exact not_false
    have hx : (mI (b - a) ^^^ nI 1000003) < 0 := by
      have hb1 : (mI (b - a)).toBitVec.msb = true := by
        have : (mI (b - a)).toBitVec.toInt < 0 := by
          have := m_toInt (a := b - a) (by omega)
          have h2 : (mI (b - a)).toBitVec.toInt = -((b - a : Nat) : Int) := this
          omega
        exact BitVec.msb_eq_toInt ▸ decide_eq_true this
      have hb2 : (nI 1000003).toBitVec.msb = false := by decide +kernel
      rw [Int32.lt_iff_toInt_lt]
      show (mI (b - a) ^^^ nI 1000003).toBitVec.toInt < (0 : Int32).toInt
      have hm : ((mI (b - a)).toBitVec ^^^ (nI 1000003).toBitVec).msb = true := by
        rw [BitVec.msb_xor, hb1, hb2]
        rfl
      have h3 : ((mI (b - a)).toBitVec ^^^ (nI 1000003).toBitVec).toInt < 0 := by
        rw [BitVec.msb_eq_toInt] at hm
        exact of_decide_eq_true hm
      exact h3
    rw [if_pos hx, if_neg hne]
    have : mI (b - a) + nI 1000003 = nI (1000003 - (b - a)) := by
      rw [Int32.add_comm, n_addm (by omega)]
    rw [this]
    congr 1
    omega
