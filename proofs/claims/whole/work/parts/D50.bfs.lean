/-! ===== the search, apart from any world: a queue of POSITIONS with their distances ===== -/
abbrev Qu : Type := List (Nat × Nat)
def qd : Qu → Nat → Option Nat
  | [], _ => none
  | x :: r, p => if x.1 = p then some x.2 else qd r p
def qa (Q : Qu) (i : Nat) : Nat × Nat := Q.getD i (0, 0)
def qput (bar : Nat → Bool) (d : Nat) (Q : Qu) (p : Nat) : Qu := if qd Q p = none ∧ bar p = false then Q ++ [(p, d)] else Q
def ND (Q : Qu) : Prop := (Q.map Prod.fst).Nodup
theorem qd_app (Q : Qu) (p d q : Nat) : qd (Q ++ [(p, d)]) q = if qd Q q = none then (if p = q then some d else none) else qd Q q := by
  induction Q with
  | nil => simp [qd]
  | cons x r ih =>
    show (if x.1 = q then some x.2 else qd (r ++ [(p, d)]) q) = if (if x.1 = q then some x.2 else qd r q) = none then _ else (if x.1 = q then some x.2 else qd r q)
    by_cases e : x.1 = q
    · simp [e]
    · simp only [e, if_false]
      exact ih
theorem qd_mem {Q : Qu} {p d : Nat} (h : qd Q p = some d) : (p, d) ∈ Q := by
  induction Q with
  | nil => cases h
  | cons x r ih =>
    unfold qd at h
    by_cases e : x.1 = p
    · rw [if_pos e] at h
      cases h
      subst e
      exact List.mem_cons_self
    · rw [if_neg e] at h
      exact List.mem_cons_of_mem _ (ih h)
theorem qd_none {Q : Qu} {p : Nat} : qd Q p = none ↔ p ∉ Q.map Prod.fst := by
  induction Q with
  | nil => simp [qd]
  | cons x r ih =>
    unfold qd
    by_cases e : x.1 = p
    · simp [e]
    · rw [if_neg e, ih]
      simp
      exact fun _ => fun h => e h.symm
theorem qd_of {Q : Qu} (nd : ND Q) {x : Nat × Nat} (h : x ∈ Q) : qd Q x.1 = some x.2 := by
  induction Q with
  | nil => cases h
  | cons y r ih =>
    have nd : (y.1 :: r.map Prod.fst).Nodup := nd
    rw [List.nodup_cons] at nd
    unfold qd
    rcases List.mem_cons.mp h with e | e
    · rw [e, if_pos rfl]
    · have : ¬ y.1 = x.1 := fun z => nd.1 (z ▸ List.mem_map_of_mem e)
      rw [if_neg this]
      exact ih nd.2 e
theorem qd_iff {Q : Qu} (nd : ND Q) {p d : Nat} : qd Q p = some d ↔ (p, d) ∈ Q := ⟨qd_mem, fun h => qd_of nd h⟩
theorem qa_l {Q : Qu} {x : Nat × Nat} {i : Nat} (h : i < Q.length) : qa (Q ++ [x]) i = qa Q i := by
  unfold qa
  rw [List.getD_eq_getElem?_getD, List.getD_eq_getElem?_getD, List.getElem?_append_left h]
theorem qa_e (Q : Qu) (x : Nat × Nat) : qa (Q ++ [x]) Q.length = x := by
  unfold qa
  rw [List.getD_eq_getElem?_getD]
  simp
theorem qa_mem {Q : Qu} {i : Nat} (h : i < Q.length) : qa Q i ∈ Q := by
  unfold qa
  rw [List.getD_eq_getElem?_getD, List.getElem?_eq_getElem h]
  exact List.getElem_mem h
theorem mem_qa {Q : Qu} {x : Nat × Nat} (h : x ∈ Q) : ∃ i, i < Q.length ∧ qa Q i = x := by
  obtain ⟨i, hi, e⟩ := List.getElem_of_mem h
  refine ⟨i, hi, ?_⟩
  unfold qa
  rw [List.getD_eq_getElem?_getD, List.getElem?_eq_getElem hi]
  exact e
theorem qd_qa {Q : Qu} (nd : ND Q) {i : Nat} (h : i < Q.length) : qd Q (qa Q i).1 = some (qa Q i).2 := qd_of nd (qa_mem h)
theorem nd_app {Q : Qu} {p d : Nat} (nd : ND Q) (h : qd Q p = none) : ND (Q ++ [(p, d)]) := by
  unfold ND at *
  rw [List.map_append, List.nodup_append]
  refine ⟨nd, by simp, ?_⟩
  intro a ha b hb
  have hb : b = p := by simpa using hb
  subst hb
  intro e
  exact qd_none.mp h (e ▸ ha)
theorem nd_len {Q : Qu} {N : Nat} (nd : ND Q) (h : ∀ x ∈ Q, x.1 < N) : Q.length ≤ N := by
  have := List.Nodup.length_le_of_subset (l₁ := Q.map Prod.fst) (l₂ := List.range N) nd (by
    intro a ha
    obtain ⟨x, hx, rfl⟩ := List.mem_map.mp ha
    exact List.mem_range.mpr (h x hx))
  simpa using this
/-! what qput does -/
theorem qput_t {bar : Nat → Bool} {d : Nat} {Q : Qu} {p : Nat} (h : qd Q p = none) (hb : bar p = false) : qput bar d Q p = Q ++ [(p, d)] := if_pos ⟨h, hb⟩
theorem qput_f {bar : Nat → Bool} {d : Nat} {Q : Qu} {p : Nat} (h : ¬ (qd Q p = none ∧ bar p = false)) : qput bar d Q p = Q := if_neg h
theorem qput_c (bar : Nat → Bool) (d : Nat) (Q : Qu) (p : Nat) : (qput bar d Q p = Q ++ [(p, d)] ∧ qd Q p = none ∧ bar p = false) ∨ (qput bar d Q p = Q ∧ ¬ (qd Q p = none ∧ bar p = false)) := by
  by_cases h : qd Q p = none ∧ bar p = false
  · exact Or.inl ⟨if_pos h, h⟩
  · exact Or.inr ⟨if_neg h, h⟩
theorem qput_nd {bar : Nat → Bool} {d : Nat} {Q : Qu} {p : Nat} (nd : ND Q) : ND (qput bar d Q p) := by
  rcases qput_c bar d Q p with ⟨e, h, -⟩ | ⟨e, -⟩
  · rw [e]; exact nd_app nd h
  · rw [e]; exact nd
theorem qput_qa {bar : Nat → Bool} {d : Nat} {Q : Qu} {p i : Nat} (h : i < Q.length) : qa (qput bar d Q p) i = qa Q i := by
  rcases qput_c bar d Q p with ⟨e, -⟩ | ⟨e, -⟩
  · rw [e, qa_l h]
  · rw [e]
theorem qput_le (bar : Nat → Bool) (d : Nat) (Q : Qu) (p : Nat) : Q.length ≤ (qput bar d Q p).length := by
  rcases qput_c bar d Q p with ⟨e, -⟩ | ⟨e, -⟩
  · rw [e, List.length_append]; omega
  · rw [e]; exact Nat.le_refl _
theorem qput_qd {bar : Nat → Bool} {d : Nat} {Q : Qu} {p q e : Nat} (h : qd Q q = some e) : qd (qput bar d Q p) q = some e := by
  rcases qput_c bar d Q p with ⟨z, -⟩ | ⟨z, -⟩
  · rw [z, qd_app, h]; rfl
  · rw [z]; exact h
theorem qput_mem {bar : Nat → Bool} {d : Nat} {Q : Qu} {p : Nat} {x : Nat × Nat} (h : x ∈ qput bar d Q p) : x ∈ Q ∨ (x = (p, d) ∧ bar p = false) := by
  rcases qput_c bar d Q p with ⟨z, -, hb⟩ | ⟨z, -⟩
  · rw [z, List.mem_append] at h
    rcases h with h | h
    · exact Or.inl h
    · exact Or.inr ⟨by simpa using h, hb⟩
  · rw [z] at h; exact Or.inl h
/-! walks -/
def Rc (E : Nat → Nat → Prop) (src : Nat → Nat → Prop) : Nat → Nat → Prop
  | 0 => fun p => src p 0
  | k + 1 => fun p => src p (k + 1) ∨ ∃ q, Rc E src k q ∧ E q p
theorem Rc_src {E : Nat → Nat → Prop} {src : Nat → Nat → Prop} {k p : Nat} (h : src p k) : Rc E src k p := by
  cases k with
  | zero => exact h
  | succ k => exact Or.inl h
theorem Rc_st {E : Nat → Nat → Prop} {src : Nat → Nat → Prop} {k p q : Nat} (h : Rc E src k q) (e : E q p) : Rc E src (k + 1) p := Or.inr ⟨q, h, e⟩
/-- the queue, its places ahead of h having been gone on from -/
def Iv (E : Nat → Nat → Prop) (src : Nat → Nat → Prop) (Q : Qu) (h : Nat) : Prop :=
  ND Q ∧ h ≤ Q.length ∧ (∀ i j, i ≤ j → j < Q.length → (qa Q i).2 ≤ (qa Q j).2) ∧ (∀ j, j < Q.length → h < Q.length → (qa Q j).2 ≤ (qa Q h).2 + 1) ∧ (∀ x, x ∈ Q → Rc E src x.2 x.1) ∧ (∀ j, j < h → ∀ q, E (qa Q j).1 q → ∃ d, qd Q q = some d ∧ d ≤ (qa Q j).2 + 1)
/-- all sources are there -/
def Sd (src : Nat → Nat → Prop) (Q : Qu) : Prop := ∀ p d, src p d → ∃ e, qd Q p = some e ∧ e ≤ d
/-- while the place h is gone on from -/
def Iw (E : Nat → Nat → Prop) (src : Nat → Nat → Prop) (Q : Qu) (h : Nat) (T : Nat → Prop) : Prop :=
  ND Q ∧ h < Q.length ∧ (∀ i j, i ≤ j → j < Q.length → (qa Q i).2 ≤ (qa Q j).2) ∧ (∀ j, j < Q.length → (qa Q j).2 ≤ (qa Q h).2 + 1) ∧ (∀ x, x ∈ Q → Rc E src x.2 x.1) ∧ (∀ j, j < h → ∀ q, E (qa Q j).1 q → ∃ d, qd Q q = some d ∧ d ≤ (qa Q j).2 + 1) ∧ (∀ q, T q → ∃ d, qd Q q = some d ∧ d ≤ (qa Q h).2 + 1)
theorem iw_put {E : Nat → Nat → Prop} {src : Nat → Nat → Prop} {Q : Qu} {h q : Nat} {T : Nat → Prop} {bar : Nat → Bool} (I : Iw E src Q h T) (hq : bar q = false → E (qa Q h).1 q) : Iw E src (qput bar ((qa Q h).2 + 1) Q q) h (fun r => T r ∨ (r = q ∧ bar r = false)) := by
  obtain ⟨nd, hl, so, lv, sd, cl, tt⟩ := I
  have hh : qa (qput bar ((qa Q h).2 + 1) Q q) h = qa Q h := qput_qa hl
  refine ⟨qput_nd nd, Nat.lt_of_lt_of_le hl (qput_le _ _ _ _), ?_, ?_, ?_, ?_, ?_⟩
  · intro i j hij hj
    rcases qput_c bar ((qa Q h).2 + 1) Q q with ⟨e, h0, hb⟩ | ⟨e, -⟩
    · rw [e] at hj ⊢
      rw [List.length_append] at hj
      have hj : j < Q.length + 1 := hj
      by_cases z : j = Q.length
      · subst z
        rw [qa_e]
        by_cases z2 : i = Q.length
        · rw [z2, qa_e]; exact Nat.le_refl _
        · rw [qa_l (by omega)]; exact lv i (by omega)
      · rw [qa_l (by omega), qa_l (by omega)]; exact so i j hij (by omega)
    · rw [e] at hj ⊢; exact so i j hij hj
  · intro j hj
    rw [hh]
    rcases qput_c bar ((qa Q h).2 + 1) Q q with ⟨e, h0, hb⟩ | ⟨e, -⟩
    · rw [e] at hj ⊢
      rw [List.length_append] at hj
      have hj : j < Q.length + 1 := hj
      by_cases z : j = Q.length
      · subst z; rw [qa_e]; exact Nat.le_refl _
      · rw [qa_l (by omega)]; exact lv j (by omega)
    · rw [e] at hj ⊢; exact lv j hj
  · intro x hx
    rcases qput_mem hx with hx | ⟨rfl, hb⟩
    · exact sd x hx
    · exact Rc_st (sd _ (qa_mem hl)) (hq hb)
  · intro j hj r hr
    rw [qput_qa (by omega)] at hr ⊢
    obtain ⟨d, d1, d2⟩ := cl j hj r hr
    exact ⟨d, qput_qd d1, d2⟩
  · rw [hh]
    intro r hr
    rcases hr with hr | ⟨rfl, hb⟩
    · obtain ⟨d, d1, d2⟩ := tt r hr
      exact ⟨d, qput_qd d1, d2⟩
    · rcases qput_c bar ((qa Q h).2 + 1) Q r with ⟨e, h0, -⟩ | ⟨e, hn⟩
      · exact ⟨(qa Q h).2 + 1, by rw [e, qd_app, h0]; simp, Nat.le_refl _⟩
      · cases hd : qd Q r with
        | none => exact absurd ⟨hd, hb⟩ hn
        | some d =>
          obtain ⟨i, hi, ei⟩ := mem_qa (qd_mem hd)
          refine ⟨d, by rw [e, hd], ?_⟩
          have := lv i hi
          rw [ei] at this
          exact this
theorem iw_T {E : Nat → Nat → Prop} {src : Nat → Nat → Prop} {Q : Qu} {h : Nat} {T T' : Nat → Prop} (I : Iw E src Q h T) (hT : ∀ q, T' q → T q) : Iw E src Q h T' := ⟨I.1, I.2.1, I.2.2.1, I.2.2.2.1, I.2.2.2.2.1, I.2.2.2.2.2.1, fun q hq => I.2.2.2.2.2.2 q (hT q hq)⟩
theorem iw_fold {E : Nat → Nat → Prop} {src : Nat → Nat → Prop} {h d p : Nat} {bar : Nat → Bool} : ∀ (l : List Nat) (Q : Qu) (T : Nat → Prop), Iw E src Q h T → qa Q h = (p, d) → (∀ q, q ∈ l → bar q = false → E p q) → Iw E src (l.foldl (qput bar (d + 1)) Q) h (fun r => T r ∨ (r ∈ l ∧ bar r = false)) ∧ qa (l.foldl (qput bar (d + 1)) Q) h = (p, d) := by
  intro l
  induction l with
  | nil =>
    intro Q T I e _
    exact ⟨iw_T I (fun q hq => by rcases hq with hq | ⟨hq, -⟩; exact hq; cases hq), e⟩
  | cons q l ih =>
    intro Q T I e hl
    have I2 := iw_put (q := q) (bar := bar) I (fun hb => by rw [e]; exact hl q List.mem_cons_self hb)
    have e2 : qa (qput bar ((qa Q h).2 + 1) Q q) h = (p, d) := by rw [qput_qa I.2.1, e]
    rw [e] at I2 e2
    obtain ⟨I3, e3⟩ := ih _ _ I2 e2 (fun r hr hb => hl r (List.mem_cons_of_mem _ hr) hb)
    refine ⟨iw_T I3 (fun r hr => ?_), e3⟩
    rcases hr with hr | ⟨hr, hb⟩
    · exact Or.inl (Or.inl hr)
    · rcases List.mem_cons.mp hr with z | z
      · exact Or.inl (Or.inr ⟨z, hb⟩)
      · exact Or.inr ⟨z, hb⟩
theorem iv_exp {E : Nat → Nat → Prop} {src : Nat → Nat → Prop} {Q : Qu} {h : Nat} {bar : Nat → Bool} {l : List Nat} (I : Iv E src Q h) (hh : h < Q.length) (hl : ∀ q, E (qa Q h).1 q ↔ (q ∈ l ∧ bar q = false)) : Iv E src (l.foldl (qput bar ((qa Q h).2 + 1)) Q) (h + 1) := by
  obtain ⟨nd, hle, so, lv, sd, cl⟩ := I
  obtain ⟨⟨nd2, hl2, so2, lv2, sd2, cl2, tt⟩, e⟩ := iw_fold (E := E) (src := src) (h := h) (d := (qa Q h).2) (p := (qa Q h).1) (bar := bar) l Q (fun _ => False) ⟨nd, hh, so, fun j hj => lv j hj hh, sd, cl, fun q hq => hq.elim⟩ rfl (fun q hq hb => (hl q).mpr ⟨hq, hb⟩)
  refine ⟨nd2, hl2, so2, fun j hj h1 => ?_, sd2, fun j hj q hq => ?_⟩
  · have a := lv2 j hj
    have b := so2 h (h + 1) (by omega) h1
    omega
  · by_cases z : j = h
    · subst z
      rw [e] at hq ⊢
      have := tt q (Or.inr ((hl q).mp hq))
      rw [e] at this
      exact this
    · exact cl2 j (by omega) q hq
/-- a source is put -/
theorem iv_src {E : Nat → Nat → Prop} {src : Nat → Nat → Prop} {Q : Qu} {h p d : Nat} {bar : Nat → Bool} (I : Iv E src Q h) (hs : bar p = false → src p d) (hm : ∀ x, x ∈ Q → x.2 ≤ d) (hd : h = Q.length ∨ d ≤ (qa Q h).2 + 1) : Iv E src (qput bar d Q p) h := by
  obtain ⟨nd, hle, so, lv, sd, cl⟩ := I
  rcases qput_c bar d Q p with ⟨e, h0, hb⟩ | ⟨e, -⟩
  · rw [e]
    refine ⟨nd_app nd h0, by rw [List.length_append]; omega, ?_, ?_, ?_, ?_⟩
    · intro i j hij hj
      rw [List.length_append] at hj
      have hj : j < Q.length + 1 := hj
      by_cases z : j = Q.length
      · subst z
        rw [qa_e]
        by_cases z2 : i = Q.length
        · rw [z2, qa_e]; exact Nat.le_refl _
        · rw [qa_l (by omega)]; exact hm _ (qa_mem (by omega))
      · rw [qa_l (by omega), qa_l (by omega)]; exact so i j hij (by omega)
    · intro j hj hh
      rw [List.length_append] at hj
      have hj : j < Q.length + 1 := hj
      by_cases zh : h = Q.length
      · subst zh
        rw [qa_e]
        by_cases z : j = Q.length
        · rw [z, qa_e]; exact Nat.le_succ _
        · rw [qa_l (by omega)]
          exact Nat.le_succ_of_le (hm _ (qa_mem (by omega)))
      · rw [qa_l (i := h) (by omega)]
        by_cases z : j = Q.length
        · rw [z, qa_e]
          exact hd.resolve_left zh
        · rw [qa_l (by omega)]; exact lv j (by omega) (by omega)
    · intro x hx
      rw [List.mem_append] at hx
      rcases hx with hx | hx
      · exact sd x hx
      · have hx : x = (p, d) := by simpa using hx
        rw [hx]; exact Rc_src (hs hb)
    · intro j hj q hq
      rw [qa_l (by omega)] at hq ⊢
      obtain ⟨c, c1, c2⟩ := cl j hj q hq
      exact ⟨c, by rw [qd_app, c1]; rfl, c2⟩
  · rw [e]; exact ⟨nd, hle, so, lv, sd, cl⟩
theorem iv_nil (E : Nat → Nat → Prop) (src : Nat → Nat → Prop) : Iv E src [] 0 := ⟨List.nodup_nil, Nat.le_refl _, fun i j _ hj => absurd hj (Nat.not_lt_zero _), fun j hj => absurd hj (Nat.not_lt_zero _), (fun x hx => by cases hx), fun j hj => absurd hj (Nat.not_lt_zero _)⟩
/-- all that is no farther than the place gone on from next is there -/
theorem iv_low {E : Nat → Nat → Prop} {src : Nat → Nat → Prop} {Q : Qu} {h : Nat} (I : Iv E src Q h) (S : Sd src Q) (hh : h < Q.length) : ∀ k p, k ≤ (qa Q h).2 → Rc E src k p → ∃ d, qd Q p = some d ∧ d ≤ k := by
  intro k
  induction k with
  | zero => intro p _ hr; exact S p 0 hr
  | succ k ih =>
    intro p hk hr
    rcases hr with hr | ⟨q, hr, e⟩
    · exact S p _ hr
    · obtain ⟨d, d1, d2⟩ := ih q (by omega) hr
      obtain ⟨i, hi, ei⟩ := mem_qa (qd_mem d1)
      have hih : i < h := by
        by_cases z : i < h
        · exact z
        · have := I.2.2.1 h i (by omega) hi
          rw [ei] at this
          have : (qa Q h).2 ≤ d := this
          omega
      obtain ⟨c, c1, c2⟩ := I.2.2.2.2.2 i hih p (by rw [ei]; exact e)
      rw [ei] at c2
      have c2 : c ≤ d + 1 := c2
      exact ⟨c, c1, by omega⟩
theorem iv_end {E : Nat → Nat → Prop} {src : Nat → Nat → Prop} {Q : Qu} (I : Iv E src Q Q.length) (S : Sd src Q) : ∀ k p, Rc E src k p → ∃ d, qd Q p = some d ∧ d ≤ k := by
  intro k
  induction k with
  | zero => intro p hr; exact S p 0 hr
  | succ k ih =>
    intro p hr
    rcases hr with hr | ⟨q, hr, e⟩
    · exact S p _ hr
    · obtain ⟨d, d1, d2⟩ := ih q hr
      obtain ⟨i, hi, ei⟩ := mem_qa (qd_mem d1)
      obtain ⟨c, c1, c2⟩ := I.2.2.2.2.2 i hi p (by rw [ei]; exact e)
      rw [ei] at c2
      have c2 : c ≤ d + 1 := c2
      exact ⟨c, c1, by omega⟩
/-! the least of all -/
noncomputable def lst (R : Nat → Prop) : Option Nat :=
  haveI := Classical.propDecidable (∃ k, R k ∧ ∀ j, j < k → ¬ R j)
  if h : ∃ k, R k ∧ ∀ j, j < k → ¬ R j then some (Classical.choose h) else none
theorem lst_ex {R : Nat → Prop} {k : Nat} (h : R k) : ∃ k, R k ∧ ∀ j, j < k → ¬ R j := by
  induction k using Nat.strongRecOn with
  | ind k ih =>
    by_cases z : ∃ j, j < k ∧ R j
    · obtain ⟨j, hj, hr⟩ := z
      exact ih j hj hr
    · exact ⟨k, h, fun j hj hr => z ⟨j, hj, hr⟩⟩
theorem lst_some {R : Nat → Prop} {k : Nat} : lst R = some k ↔ (R k ∧ ∀ j, j < k → ¬ R j) := by
  unfold lst
  by_cases h : ∃ k, R k ∧ ∀ j, j < k → ¬ R j
  · rw [dif_pos h]
    obtain ⟨a, b⟩ := Classical.choose_spec h
    constructor
    · intro e
      cases Option.some.inj e
      exact ⟨a, b⟩
    · rintro ⟨c, d⟩
      congr 1
      have h1 : ¬ Classical.choose h < k := fun q => d _ q a
      have h2 : ¬ k < Classical.choose h := fun q => b _ q c
      omega
  · rw [dif_neg h]
    constructor
    · intro e; cases e
    · intro q; exact absurd ⟨k, q⟩ h
theorem lst_none {R : Nat → Prop} : lst R = none ↔ ∀ k, ¬ R k := by
  constructor
  · intro h k hk
    obtain ⟨j, hj⟩ := lst_ex hk
    rw [lst_some.mpr hj] at h
    cases h
  · intro h
    cases e : lst R with
    | none => rfl
    | some k => exact absurd (lst_some.mp e).1 (h k)
theorem lst_congr {R R' : Nat → Prop} (h : ∀ k, R k ↔ R' k) : lst R = lst R' := by
  have : R = R' := funext (fun k => propext (h k))
  rw [this]
theorem iv_qd {E : Nat → Nat → Prop} {src : Nat → Nat → Prop} {Q : Qu} (I : Iv E src Q Q.length) (S : Sd src Q) (p : Nat) : qd Q p = lst (fun k => Rc E src k p) := by
  cases e : qd Q p with
  | none =>
    symm
    rw [lst_none]
    intro k hk
    obtain ⟨d, d1, -⟩ := iv_end I S k p hk
    rw [e] at d1
    cases d1
  | some d =>
    symm
    rw [lst_some]
    refine ⟨I.2.2.2.2.1 _ (qd_mem e), fun j hj hk => ?_⟩
    obtain ⟨c, c1, c2⟩ := iv_end I S j p hk
    rw [e] at c1
    cases c1
    omega
theorem iv_qd_mid {E : Nat → Nat → Prop} {src : Nat → Nat → Prop} {Q : Qu} {h : Nat} (I : Iv E src Q h) (S : Sd src Q) (hh : h < Q.length) {p d : Nat} (e : qd Q p = some d) : lst (fun k => Rc E src k p) = some d := by
  rw [lst_some]
  refine ⟨I.2.2.2.2.1 _ (qd_mem e), fun j hj hk => ?_⟩
  obtain ⟨i, hi, ei⟩ := mem_qa (qd_mem e)
  have h1 := I.2.2.2.1 i hi hh
  rw [ei] at h1
  have h1 : d ≤ (qa Q h).2 + 1 := h1
  obtain ⟨c, c1, c2⟩ := iv_low I S hh j p (by omega) hk
  rw [e] at c1
  cases c1
  omega
theorem iv_qd_any {E : Nat → Nat → Prop} {src : Nat → Nat → Prop} {Q : Qu} {h : Nat} (I : Iv E src Q h) (S : Sd src Q) {p d : Nat} (e : qd Q p = some d) : lst (fun k => Rc E src k p) = some d := by
  by_cases hh : h < Q.length
  · exact iv_qd_mid I S hh e
  · have : h = Q.length := by have := I.2.1; omega
    subst this
    rw [← iv_qd I S, e]
/-- two ended searches of the same sources have the same POSITIONS -/
theorem iv_perm {E E' : Nat → Nat → Prop} {src src' : Nat → Nat → Prop} {Q Q' : Qu} (I : Iv E src Q Q.length) (S : Sd src Q) (I' : Iv E' src' Q' Q'.length) (S' : Sd src' Q') (hE : ∀ p q, E p q ↔ E' p q) (hs : ∀ p d, src p d ↔ src' p d) : (∀ p, qd Q p = qd Q' p) ∧ Q.length = Q'.length ∧ (∀ x, x ∈ Q ↔ x ∈ Q') := by
  have eE : E = E' := funext (fun p => funext (fun q => propext (hE p q)))
  have eS : src = src' := funext (fun p => funext (fun q => propext (hs p q)))
  subst eE eS
  have hq : ∀ p, qd Q p = qd Q' p := fun p => by rw [iv_qd I S, iv_qd I' S']
  have hm : ∀ x, x ∈ Q ↔ x ∈ Q' := by
    rintro ⟨p, d⟩
    rw [← qd_iff I.1, ← qd_iff I'.1, hq]
  refine ⟨hq, ?_, hm⟩
  have hm2 : ∀ p, p ∈ Q.map Prod.fst ↔ p ∈ Q'.map Prod.fst := by
    intro p
    have a := qd_none (Q := Q) (p := p)
    have b := qd_none (Q := Q') (p := p)
    rw [hq p] at a
    have := a.symm.trans b
    exact ⟨fun z => Classical.byContradiction (fun y => this.mpr y z), fun z => Classical.byContradiction (fun y => this.mp y z)⟩
  have h1 := List.Nodup.length_le_of_subset I.1 (fun p hp => (hm2 p).mp hp)
  have h2 := List.Nodup.length_le_of_subset I'.1 (fun p hp => (hm2 p).mpr hp)
  rw [List.length_map, List.length_map] at h1 h2
  omega
/-! walks from one POSITION to another -/
def Wk (E : Nat → Nat → Prop) : Nat → Nat → Nat → Prop
  | 0 => fun p q => p = q
  | k + 1 => fun p q => ∃ r, Wk E k p r ∧ E r q
theorem Wk_pre {E : Nat → Nat → Prop} : ∀ k p q r, E p q → Wk E k q r → Wk E (k + 1) p r := by
  intro k
  induction k with
  | zero => intro p q r e h; exact ⟨p, rfl, (show q = r from h) ▸ e⟩
  | succ k ih =>
    intro p q r e h
    obtain ⟨s, h1, h2⟩ := h
    exact ⟨s, ih p q s e h1, h2⟩
theorem Wk_sym {E : Nat → Nat → Prop} (hE : ∀ p q, E p q → E q p) : ∀ k p q, Wk E k p q → Wk E k q p := by
  intro k
  induction k with
  | zero => intro p q h; exact Eq.symm h
  | succ k ih =>
    intro p q h
    obtain ⟨r, h1, h2⟩ := h
    exact Wk_pre k q r p (hE r q h2) (ih p r h1)
theorem Wk_mono {E E' : Nat → Nat → Prop} (hE : ∀ p q, E p q → E' p q) : ∀ k p q, Wk E k p q → Wk E' k p q := by
  intro k
  induction k with
  | zero => intro p q h; exact h
  | succ k ih =>
    intro p q h
    obtain ⟨r, h1, h2⟩ := h
    exact ⟨r, ih p r h1, hE r q h2⟩
theorem Wk_tr {E : Nat → Nat → Prop} : ∀ j k p q r, Wk E j p q → Wk E k q r → Wk E (j + k) p r := by
  intro j k
  induction k with
  | zero => intro p q r h1 h2; exact (show q = r from h2) ▸ h1
  | succ k ih =>
    intro p q r h1 h2
    obtain ⟨s, h3, h4⟩ := h2
    exact ⟨s, ih p q s h1 h3, h4⟩
def src0 (S : Nat → Prop) (p d : Nat) : Prop := S p ∧ d = 0
theorem Rc_Wk {E : Nat → Nat → Prop} {S : Nat → Prop} : ∀ k p, Rc E (src0 S) k p ↔ ∃ q, S q ∧ Wk E k q p := by
  intro k
  induction k with
  | zero =>
    intro p
    constructor
    · intro h; exact ⟨p, h.1, rfl⟩
    · rintro ⟨q, h, e⟩; exact ⟨(show q = p from e) ▸ h, rfl⟩
  | succ k ih =>
    intro p
    constructor
    · intro h
      rcases h with h | ⟨r, h, e⟩
      · exact absurd h.2 (Nat.succ_ne_zero k)
      · obtain ⟨q, h1, h2⟩ := (ih r).mp h
        exact ⟨q, h1, r, h2, e⟩
    · rintro ⟨q, h1, r, h2, e⟩
      exact Or.inr ⟨r, (ih r).mpr ⟨q, h1, h2⟩, e⟩
