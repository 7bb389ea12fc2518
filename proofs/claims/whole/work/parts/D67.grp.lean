/-! ===== groups ===== -/
def InQ (Q : Qu) (p : Nat) : Prop := ∃ d, qd Q p = some d
theorem InQ_app {Q : Qu} {p d q : Nat} : InQ (Q ++ [(p, d)]) q ↔ (InQ Q q ∨ q = p) := by
  unfold InQ
  rw [qd_app]
  by_cases h : qd Q q = none
  · rw [if_pos h, h]
    by_cases e : p = q
    · rw [if_pos e]
      exact ⟨fun _ => Or.inr e.symm, fun _ => ⟨d, rfl⟩⟩
    · rw [if_neg e]
      constructor
      · rintro ⟨x, hx⟩; cases hx
      · rintro (⟨x, hx⟩ | hx)
        · cases hx
        · exact absurd hx.symm e
  · rw [if_neg h]
    constructor
    · intro z; exact Or.inl z
    · rintro (z | rfl)
      · exact z
      · cases hq : qd Q q with
        | none => exact absurd hq h
        | some x => exact ⟨x, rfl⟩
theorem InQ_put {bar : Nat → Bool} {d p q : Nat} {Q : Qu} : InQ (qput bar d Q p) q ↔ (InQ Q q ∨ (q = p ∧ bar p = false)) := by
  rcases qput_c bar d Q p with ⟨e, h1, h2⟩ | ⟨e, h1⟩
  · rw [e, InQ_app]
    constructor
    · rintro (z | z)
      · exact Or.inl z
      · exact Or.inr ⟨z, h2⟩
    · rintro (z | z)
      · exact Or.inl z
      · exact Or.inr z.1
  · rw [e]
    constructor
    · intro z; exact Or.inl z
    · rintro (z | ⟨rfl, z⟩)
      · exact z
      · cases hq : qd Q q with
        | none => exact absurd ⟨hq, z⟩ h1
        | some x => exact ⟨x, hq⟩
theorem InQ_fold {bar : Nat → Bool} {d q : Nat} : ∀ (l : List Nat) (Q : Qu), InQ (l.foldl (qput bar d) Q) q ↔ (InQ Q q ∨ (q ∈ l ∧ bar q = false)) := by
  intro l
  induction l with
  | nil =>
    intro Q
    constructor
    · intro z; exact Or.inl z
    · rintro (z | ⟨z, -⟩)
      · exact z
      · cases z
  | cons p l ih =>
    intro Q
    show InQ (l.foldl (qput bar d) (qput bar d Q p)) q ↔ _
    rw [ih, InQ_put]
    constructor
    · rintro ((z | ⟨rfl, z⟩) | ⟨z, y⟩)
      · exact Or.inl z
      · exact Or.inr ⟨List.mem_cons_self, z⟩
      · exact Or.inr ⟨List.mem_cons_of_mem _ z, y⟩
    · rintro (z | ⟨z, y⟩)
      · exact Or.inl (Or.inl z)
      · rcases List.mem_cons.mp z with rfl | z
        · exact Or.inl (Or.inr ⟨rfl, y⟩)
        · exact Or.inr ⟨z, y⟩
theorem InQ_mem {Q : Qu} {x : Nat × Nat} (nd : ND Q) (h : x ∈ Q) : InQ Q x.1 := ⟨x.2, qd_of nd h⟩
/-- those that hang together with a source -/
def IG (E : Nat → Nat → Prop) (P : Nat → Prop) (Q : Qu) (h : Nat) : Prop := (∀ q, InQ Q q → ∃ r k, P r ∧ Wk E k r q) ∧ (∀ j, j < h → ∀ q, E (qa Q j).1 q → InQ Q q) ∧ ∀ r, P r → InQ Q r
theorem ig_exp {E : Nat → Nat → Prop} {P : Nat → Prop} {Q : Qu} {h : Nat} {bar : Nat → Bool} {l : List Nat} {d : Nat} (nd : ND Q) (I : IG E P Q h) (hh : h < Q.length) (hl : ∀ q, E (qa Q h).1 q ↔ (q ∈ l ∧ bar q = false)) : IG E P (l.foldl (qput bar d) Q) (h + 1) := by
  obtain ⟨h1, h2, h3⟩ := I
  refine ⟨fun q hq => ?_, fun j hj q hq => ?_, fun r hr => (InQ_fold l Q).mpr (Or.inl (h3 r hr))⟩
  · rcases (InQ_fold l Q).mp hq with z | z
    · exact h1 q z
    · obtain ⟨r, k, r1, r2⟩ := h1 _ (InQ_mem nd (qa_mem hh))
      exact ⟨r, k + 1, r1, _, r2, (hl q).mpr z⟩
  · rw [InQ_fold]
    by_cases e : j = h
    · subst e
      rw [fold_qa _ _ _ _ _ hh] at hq
      exact Or.inr ((hl q).mp hq)
    · rw [fold_qa _ _ _ _ _ (by omega)] at hq
      exact Or.inl (h2 j (by omega) q hq)
theorem ig_end {E : Nat → Nat → Prop} {P : Nat → Prop} {Q : Qu} (nd : ND Q) (I : IG E P Q Q.length) (q : Nat) : InQ Q q ↔ ∃ r k, P r ∧ Wk E k r q := by
  obtain ⟨h1, h2, h3⟩ := I
  refine ⟨h1 q, ?_⟩
  rintro ⟨r, k, hr, hk⟩
  induction k generalizing q with
  | zero => exact (show r = q from hk) ▸ h3 r hr
  | succ k ih =>
    obtain ⟨s, h4, h5⟩ := hk
    obtain ⟨d, hd⟩ := ih s h4
    obtain ⟨i, i1, i2⟩ := mem_qa (qd_mem hd)
    exact h2 i i1 q (by rw [i2]; exact h5)
/-- how many there are -/
noncomputable def cdN (S : Nat → Prop) (N : Nat) : Nat := ((List.range N).filter (fun q => haveI := Classical.propDecidable (S q); decide (S q))).length
theorem len_cd {Q : Qu} {S : Nat → Prop} {N : Nat} (nd : ND Q) (h : ∀ q, InQ Q q ↔ S q) (hN : ∀ q, S q → q < N) : Q.length = cdN S N := by
  have hm : ∀ q, q ∈ Q.map Prod.fst ↔ S q := by
    intro q
    rw [← h q]
    constructor
    · intro z
      obtain ⟨x, x1, rfl⟩ := List.mem_map.mp z
      exact InQ_mem nd x1
    · rintro ⟨d, hd⟩
      exact List.mem_map.mpr ⟨(q, d), qd_mem hd, rfl⟩
  have hf : ∀ q, q ∈ (List.range N).filter (fun q => haveI := Classical.propDecidable (S q); decide (S q)) ↔ S q := by
    intro q
    rw [List.mem_filter, List.mem_range]
    exact ⟨fun z => @of_decide_eq_true _ (Classical.propDecidable _) z.2, fun z => ⟨hN q z, @decide_eq_true _ (Classical.propDecidable _) z⟩⟩
  have n2 : ((List.range N).filter (fun q => haveI := Classical.propDecidable (S q); decide (S q))).Nodup := List.nodup_range.sublist List.filter_sublist
  have h1 := List.Nodup.length_le_of_subset nd (fun q hq => (hf q).mpr ((hm q).mp hq))
  have h2 := List.Nodup.length_le_of_subset n2 (fun q hq => (hm q).mpr ((hf q).mp hq))
  rw [List.length_map] at h1 h2
  unfold cdN
  omega
/-- those that hang together with a POSITION below p -/
def Cl (sc : Sg) (lim p q : Nat) : Prop := ∃ r k, (r < p ∧ r < 2 ^ sc.1 4 ∧ pop r ≤ lim) ∧ Wk (Ed sc lim nob) k r q
noncomputable def gL (sc : Sg) (lim p : Nat) : Nat := cdN (Cl sc lim p) (2 ^ sc.1 4)
noncomputable def gC (sc : Sg) (lim : Nat) : Nat → Nat × Nat
  | 0 => (0, 0)
  | p + 1 => if gL sc lim p < gL sc lim (p + 1) then ((gC sc lim p).1 + 1, if (gC sc lim p).2 < gL sc lim (p + 1) - gL sc lim p then gL sc lim (p + 1) - gL sc lim p else (gC sc lim p).2) else gC sc lim p
theorem gC_t {sc : Sg} {lim p : Nat} (h : gL sc lim p < gL sc lim (p + 1)) : gC sc lim (p + 1) = ((gC sc lim p).1 + 1, if (gC sc lim p).2 < gL sc lim (p + 1) - gL sc lim p then gL sc lim (p + 1) - gL sc lim p else (gC sc lim p).2) := if_pos h
theorem gC_f {sc : Sg} {lim p : Nat} (h : ¬ gL sc lim p < gL sc lim (p + 1)) : gC sc lim (p + 1) = gC sc lim p := if_neg h
def PG (sc : Sg) (lim p r : Nat) : Prop := r < p ∧ r < 2 ^ sc.1 4 ∧ pop r ≤ lim
theorem ig_len {sc : Sg} (g : Gd sc) {lim p B : Nat} {Q : Qu} (qb : QB sc lim B Q) (I : IG (Ed sc lim nob) (PG sc lim p) Q Q.length) : Q.length = gL sc lim p := by
  refine len_cd qb.1 (fun q => ig_end qb.1 I q) ?_
  rintro q ⟨r, k, ⟨-, h1, h2⟩, h3⟩
  exact (Wk_in g k r q h3 h1 h2).1
/-- a POSITION that is there already, or has too many, adds nothing -/
theorem ig_skip {sc : Sg} {lim p : Nat} {Q : Qu} {h : Nat} (I : IG (Ed sc lim nob) (PG sc lim p) Q h) (hp : InQ Q p ∨ lim < pop p) : IG (Ed sc lim nob) (PG sc lim (p + 1)) Q h := by
  obtain ⟨h1, h2, h3⟩ := I
  refine ⟨fun q hq => ?_, h2, fun r hr => ?_⟩
  · obtain ⟨r, k, r1, r2⟩ := h1 q hq
    exact ⟨r, k, ⟨by have := r1.1; omega, r1.2⟩, r2⟩
  · by_cases e : r = p
    · subst e
      rcases hp with hp | hp
      · exact hp
      · have := hr.2.2; omega
    · exact h3 r ⟨by have := hr.1; omega, hr.2⟩
theorem ig_new {sc : Sg} {lim p : Nat} {Q : Qu} {h : Nat} (I : IG (Ed sc lim nob) (PG sc lim p) Q h) (hh : h ≤ Q.length) (hp : p < 2 ^ sc.1 4) (hl : pop p ≤ lim) : IG (Ed sc lim nob) (PG sc lim (p + 1)) (Q ++ [(p, 0)]) h := by
  obtain ⟨h1, h2, h3⟩ := I
  refine ⟨fun q hq => ?_, fun j hj q hq => ?_, fun r hr => ?_⟩
  · rcases InQ_app.mp hq with z | rfl
    · obtain ⟨r, k, r1, r2⟩ := h1 q z
      exact ⟨r, k, ⟨by have := r1.1; omega, r1.2⟩, r2⟩
    · exact ⟨q, 0, ⟨by omega, hp, hl⟩, rfl⟩
  · rw [qa_l (by omega)] at hq
    exact InQ_app.mpr (Or.inl (h2 j hj q hq))
  · by_cases e : r = p
    · exact InQ_app.mpr (Or.inr e)
    · exact InQ_app.mpr (Or.inl (h3 r ⟨by have := hr.1; omega, hr.2⟩))
theorem gC_b {sc : Sg} (g : Gd sc) (lim : Nat) : ∀ p, (gC sc lim p).1 ≤ p ∧ (gC sc lim p).2 ≤ 2 ^ sc.1 4 := by
  have hL : ∀ p, gL sc lim p ≤ 2 ^ sc.1 4 := by
    intro p
    have := List.length_filter_le (fun q => haveI := Classical.propDecidable (Cl sc lim p q); decide (Cl sc lim p q)) (List.range (2 ^ sc.1 4))
    rw [List.length_range] at this
    exact this
  intro p
  induction p with
  | zero => exact ⟨Nat.le_refl _, Nat.zero_le _⟩
  | succ p ih =>
    have := hL (p + 1)
    by_cases z : gL sc lim p < gL sc lim (p + 1)
    · rw [gC_t z]
      refine ⟨by show _ + 1 ≤ _; omega, ?_⟩
      show (if _ then _ else _) ≤ _
      split <;> omega
    · rw [gC_f z]; exact ⟨by omega, ih.2⟩
