/-! ===== CHAINS: the table ===== -/
theorem chT_lt : ∀ n a s, a ≤ n → chT n a s = chS a s := by
  intro n
  induction n with
  | zero => intro a s h; rw [show a = 0 by omega]; rfl
  | succ n ih =>
    intro a s h
    by_cases e : a = n + 1
    · subst e; rfl
    · show (if a = n + 1 then chW (chT n) (n + 1) s else chT n a s) = _
      rw [if_neg e]
      exact ih a s (by omega)
theorem chBy_c {T T' : Nat → Nat → Option Nat} {n s m : Nat} (h : ∀ a t, 1 ≤ a → a < n → T a t = T' a t) (h1 : 1 ≤ m) (h2 : m < n) : chBy T n s m = chBy T' n s m := by
  unfold chBy
  rw [h m s h1 h2, h (n - m) (s - 1) (by omega) (by omega), h m (s - 1) h1 h2]
theorem chBest_s (T : Nat → Nat → Option Nat) (n s j : Nat) : chBest T n s (j + 1) = match chBy T n s (j + 1), chBest T n s j with
    | some x, none => some x
    | some x, some y => if x < y then some x else some y
    | none, b => b := rfl
theorem chBest_c {T T' : Nat → Nat → Option Nat} {n s : Nat} (h : ∀ a t, 1 ≤ a → a < n → T a t = T' a t) : ∀ j, j < n → chBest T n s j = chBest T' n s j := by
  intro j
  induction j with
  | zero => intro _; rfl
  | succ j ih =>
    intro hj
    rw [chBest_s, chBest_s, chBy_c h (by omega) hj, ih (by omega)]
theorem chS_eq {n s : Nat} (hn : 1 ≤ n) : chS n s = chW chS n s := by
  obtain ⟨m, rfl⟩ : ∃ m, n = m + 1 := ⟨n - 1, by omega⟩
  show (if m + 1 = m + 1 then chW (chT m) (m + 1) s else _) = _
  rw [if_pos rfl]
  unfold chW
  rw [chBest_c (T' := chS) (fun a t h1 h2 => chT_lt m a t (by omega)) (m + 1 - 1) (by omega)]
theorem chS_0 {n : Nat} (hn : 1 ≤ n) : chS n 0 = none := by
  rw [chS_eq hn]
  exact if_pos rfl
theorem chS_1 {s : Nat} (hs : 1 ≤ s) : chS 1 s = some 1 := by
  rw [chS_eq (Nat.le_refl _)]
  unfold chW
  rw [if_neg (by omega), if_pos rfl]
theorem chS_n {n s : Nat} (hn : 2 ≤ n) (hs : 1 ≤ s) : chS n s = chBest chS n s (n - 1) := by
  rw [chS_eq (by omega)]
  unfold chW
  rw [if_neg (by omega), if_neg (by omega)]
theorem chBest_none {T : Nat → Nat → Option Nat} {n s : Nat} : ∀ j, chBest T n s j = none → ∀ m, 1 ≤ m → m ≤ j → chBy T n s m = none := by
  intro j
  induction j with
  | zero => intro _ m h1 h2; omega
  | succ j ih =>
    intro h m h1 h2
    rw [chBest_s] at h
    cases hb : chBy T n s (j + 1) with
    | some x =>
      rw [hb] at h
      cases hc : chBest T n s j with
      | none => rw [hc] at h; cases h
      | some y => rw [hc] at h; dsimp only at h; split at h <;> cases h
    | none =>
      rw [hb] at h
      by_cases e : m = j + 1
      · rw [e, hb]
      · exact ih h m h1 (by omega)
theorem chBest_le {T : Nat → Nat → Option Nat} {n s : Nat} : ∀ j y, chBest T n s j = some y → ∀ m z, 1 ≤ m → m ≤ j → chBy T n s m = some z → y ≤ z := by
  intro j
  induction j with
  | zero => intro y h; cases h
  | succ j ih =>
    intro y h m z h1 h2 h3
    rw [chBest_s] at h
    cases hb : chBy T n s (j + 1) with
    | some x =>
      rw [hb] at h
      cases hc : chBest T n s j with
      | none =>
        rw [hc] at h
        cases h
        by_cases e : m = j + 1
        · rw [e, hb] at h3; cases h3; exact Nat.le_refl _
        · rw [chBest_none j hc m h1 (by omega)] at h3; cases h3
      | some v =>
        rw [hc] at h
        have h : (if x < v then some x else some v) = some y := h
        by_cases e : m = j + 1
        · rw [e, hb] at h3
          cases h3
          split at h <;> (cases h; omega)
        · have := ih v hc m z h1 (by omega) h3
          split at h <;> (cases h; omega)
    | none =>
      rw [hb] at h
      by_cases e : m = j + 1
      · rw [e, hb] at h3; cases h3
      · exact ih y h m z h1 (by omega) h3
theorem chBest_mem {T : Nat → Nat → Option Nat} {n s : Nat} : ∀ j y, chBest T n s j = some y → ∃ m, 1 ≤ m ∧ m ≤ j ∧ chBy T n s m = some y := by
  intro j
  induction j with
  | zero => intro y h; cases h
  | succ j ih =>
    intro y h
    rw [chBest_s] at h
    cases hb : chBy T n s (j + 1) with
    | some x =>
      rw [hb] at h
      cases hc : chBest T n s j with
      | none => rw [hc] at h; cases h; exact ⟨j + 1, by omega, by omega, hb⟩
      | some v =>
        rw [hc] at h
        have h : (if x < v then some x else some v) = some y := h
        split at h
        · cases h; exact ⟨j + 1, by omega, by omega, hb⟩
        · cases h
          obtain ⟨m, m1, m2, m3⟩ := ih _ hc
          exact ⟨m, m1, by omega, m3⟩
    | none =>
      rw [hb] at h
      obtain ⟨m, m1, m2, m3⟩ := ih y h
      exact ⟨m, m1, by omega, m3⟩
theorem chBy_some {T : Nat → Nat → Option Nat} {n s m z : Nat} (h : chBy T n s m = some z) : ∃ a b c, T m s = some a ∧ T (n - m) (s - 1) = some b ∧ T m (s - 1) = some c ∧ z = a + b + c := by
  unfold chBy at h
  split at h
  · rename_i a b c h1 h2 h3
    cases h
    exact ⟨a, b, c, h1, h2, h3, rfl⟩
  · cases h
theorem chBy_of {T : Nat → Nat → Option Nat} {n s m a b c : Nat} (h1 : T m s = some a) (h2 : T (n - m) (s - 1) = some b) (h3 : T m (s - 1) = some c) : chBy T n s m = some (a + b + c) := by
  unfold chBy
  rw [h1, h2, h3]
theorem chS_cap : ∀ n s x, 1 ≤ n → chS n s = some x → 1 ≤ s ∧ n ≤ 2 ^ (s - 1) := by
  intro n
  induction n using Nat.strongRecOn with
  | ind n ih =>
    intro s x hn h
    by_cases hs : s = 0
    · rw [hs, chS_0 hn] at h; cases h
    · refine ⟨by omega, ?_⟩
      by_cases e : n = 1
      · rw [e]; exact Nat.one_le_two_pow
      · rw [chS_n (by omega) (by omega)] at h
        obtain ⟨m, m1, m2, m3⟩ := chBest_mem _ _ h
        obtain ⟨a, b, c, h1, h2, h3, -⟩ := chBy_some m3
        have i2 := ih (n - m) (by omega) _ _ (by omega) h2
        have i3 := ih m (by omega) _ _ m1 h3
        have e2 : 2 ^ (s - 1) = 2 * 2 ^ (s - 1 - 1) := by
          rw [show s - 1 = s - 1 - 1 + 1 by omega, Nat.pow_succ, Nat.mul_comm]
          rfl
        omega
theorem sq_half (m : Nat) : m * m + m * m + m * m ≤ (2 * m) * (2 * m) ∧ m * m + (m + 1) * (m + 1) + m * m ≤ (2 * m + 1) * (2 * m + 1) := by
  have e1 : (2 * m) * (2 * m) = 4 * (m * m) := by rw [Nat.mul_mul_mul_comm]
  have e2 : (m + 1) * (m + 1) = m * m + 2 * m + 1 := by rw [Nat.add_mul, Nat.mul_add, Nat.one_mul, Nat.mul_one]; omega
  have e3 : (2 * m + 1) * (2 * m + 1) = 4 * (m * m) + 4 * m + 1 := by rw [Nat.add_mul, Nat.mul_add, Nat.one_mul, Nat.mul_one, e1]; omega
  rw [e1, e2, e3]
  omega
theorem chS_ok : ∀ n s, 1 ≤ n → 1 ≤ s → n ≤ 2 ^ (s - 1) → ∃ x, x ≤ n * n ∧ chS n s = some x := by
  intro n
  induction n using Nat.strongRecOn with
  | ind n ih =>
    intro s hn hs h
    by_cases e : n = 1
    · subst e; exact ⟨1, by decide, chS_1 hs⟩
    · have hs2 : 2 ≤ s := by
        by_cases q : s = 1
        · subst q; simp at h; omega
        · omega
      have e2 : 2 ^ (s - 1) = 2 * 2 ^ (s - 1 - 1) := by
        rw [show s - 1 = s - 1 - 1 + 1 by omega, Nat.pow_succ, Nat.mul_comm]
        rfl
      obtain ⟨a, a1, a2⟩ := ih (n / 2) (by omega) s (by omega) hs (by omega)
      obtain ⟨b, b1, b2⟩ := ih (n - n / 2) (by omega) (s - 1) (by omega) (by omega) (by omega)
      obtain ⟨c, c1, c2⟩ := ih (n / 2) (by omega) (s - 1) (by omega) (by omega) (by omega)
      have hb := chBy_of (n := n) a2 b2 c2
      rw [chS_n (by omega) hs]
      cases hc : chBest chS n s (n - 1) with
      | none => rw [chBest_none _ hc (n / 2) (by omega) (by omega)] at hb; cases hb
      | some y =>
        refine ⟨y, ?_, rfl⟩
        have hy := chBest_le _ _ hc _ _ (by omega) (by omega) hb
        have hq := sq_half (n / 2)
        rcases Nat.mod_two_eq_zero_or_one n with z | z
        · have e3 : n - n / 2 = n / 2 := by omega
          have e4 : 2 * (n / 2) = n := by omega
          rw [e3] at b1
          rw [e4] at hq
          omega
        · have e3 : n - n / 2 = n / 2 + 1 := by omega
          have e4 : 2 * (n / 2) + 1 = n := by omega
          rw [e3] at b1
          rw [e4] at hq
          omega
theorem chS_b {n s x : Nat} (hn : 1 ≤ n) (h : chS n s = some x) : x ≤ n * n := by
  obtain ⟨h1, h2⟩ := chS_cap n s x hn h
  obtain ⟨y, y1, y2⟩ := chS_ok n s hn h1 h2
  rw [h] at y2
  cases y2
  exact y1
theorem chS_l {n s x : Nat} (hn : 1 ≤ n) (h2 : n ≤ 200) (h : chS n s = some x) : x < 2 ^ 20 := by
  have h1 := chS_b hn h
  have : n * n ≤ 200 * 200 := Nat.mul_le_mul h2 h2
  omega
/-- the least middle -/
def mdB (T : Nat → Nat → Option Nat) (n s : Nat) : Nat → Option Nat
  | 0 => none
  | j + 1 => match chBy T n s (j + 1), chBest T n s j with
    | some _, none => some (j + 1)
    | some x, some y => if x < y then some (j + 1) else mdB T n s j
    | none, _ => mdB T n s j
theorem mdB_s (T : Nat → Nat → Option Nat) (n s j : Nat) : mdB T n s (j + 1) = match chBy T n s (j + 1), chBest T n s j with
    | some _, none => some (j + 1)
    | some x, some y => if x < y then some (j + 1) else mdB T n s j
    | none, _ => mdB T n s j := rfl
theorem mdB_sp {T : Nat → Nat → Option Nat} {n s : Nat} : ∀ j y, chBest T n s j = some y → ∃ m, mdB T n s j = some m ∧ 1 ≤ m ∧ m ≤ j ∧ chBy T n s m = some y ∧ ∀ m', 1 ≤ m' → m' < m → ¬ chBy T n s m' = some y := by
  intro j
  induction j with
  | zero => intro y h; cases h
  | succ j ih =>
    intro y h
    rw [chBest_s] at h
    rw [mdB_s]
    cases hb : chBy T n s (j + 1) with
    | some x =>
      rw [hb] at h
      cases hc : chBest T n s j with
      | none =>
        rw [hc] at h
        cases h
        exact ⟨j + 1, rfl, by omega, Nat.le_refl _, hb, fun m' h1 h2 h3 => by rw [chBest_none j hc m' h1 (by omega)] at h3; cases h3⟩
      | some v =>
        rw [hc] at h
        have h : (if x < v then some x else some v) = some y := h
        show ∃ m, (if x < v then some (j + 1) else mdB T n s j) = some m ∧ _
        by_cases q : x < v
        · rw [if_pos q] at h ⊢
          cases h
          exact ⟨j + 1, rfl, by omega, Nat.le_refl _, hb, fun m' h1 h2 h3 => by have := chBest_le j v hc m' _ h1 (by omega) h3; omega⟩
        · rw [if_neg q] at h ⊢
          cases h
          obtain ⟨m, m1, m2, m3, m4⟩ := ih _ hc
          exact ⟨m, m1, m2, by omega, m4⟩
    | none =>
      rw [hb] at h
      obtain ⟨m, m1, m2, m3, m4⟩ := ih y h
      exact ⟨m, m1, m2, by omega, m4⟩
theorem mdB_n {T : Nat → Nat → Option Nat} {n s : Nat} : ∀ j, chBest T n s j = none → mdB T n s j = none := by
  intro j
  induction j with
  | zero => intro _; rfl
  | succ j ih =>
    intro h
    rw [chBest_s] at h
    rw [mdB_s]
    cases hb : chBy T n s (j + 1) with
    | some x =>
      rw [hb] at h
      cases hc : chBest T n s j with
      | none => rw [hc] at h; cases h
      | some y => rw [hc] at h; dsimp only at h; split at h <;> cases h
    | none =>
      rw [hb] at h
      exact ih h
