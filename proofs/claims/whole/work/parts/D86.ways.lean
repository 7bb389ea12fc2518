/-! ===== ways: how many shortest ones ===== -/
def smC (f : Nat → Nat) : Nat → Nat
  | 0 => 0
  | n + 1 => smC f n + f n
theorem smC_s (f : Nat → Nat) (n : Nat) : smC f (n + 1) = smC f n + f n := rfl
theorem smC_add (f g : Nat → Nat) : ∀ n, smC (fun c => f c + g c) n = smC f n + smC g n := by
  intro n
  induction n with
  | zero => rfl
  | succ n ih => rw [smC_s, smC_s, smC_s, ih]; omega
theorem smC_c {f g : Nat → Nat} {n : Nat} (h : ∀ c, c < n → f c = g c) : smC f n = smC g n := by
  induction n with
  | zero => rfl
  | succ n ih => rw [smC_s, smC_s, ih (fun c hc => h c (by omega)), h n (by omega)]
theorem smC_z {f : Nat → Nat} : ∀ n d, (∀ c, n ≤ c → c < n + d → f c = 0) → smC f (n + d) = smC f n := by
  intro n d
  induction d with
  | zero => intro _; rfl
  | succ d ih =>
    intro h
    rw [← Nat.add_assoc, smC_s, ih (fun c h1 h2 => h c h1 (by omega)), h (n + d) (by omega) (by omega)]
    rfl
/-- the number of ways from a distance on -/
def nwN (sc : Sg) (lim : Nat) (F : Nat → Option Nat) : Nat → Nat → Nat
  | 0 => fun _ => 1
  | e + 1 => fun p => smC (fun c => if nrP sc lim F p e c = true then nwN sc lim F e (p ^^^ flS sc c) else 0) 28
theorem nwN_s (sc : Sg) (lim : Nat) (F : Nat → Option Nat) (e p : Nat) : nwN sc lim F (e + 1) p = smC (fun c => if nrP sc lim F p e c = true then nwN sc lim F e (p ^^^ flS sc c) else 0) 28 := rfl
/-- is among the first i -/
def inF (Q : Qu) (i q : Nat) : Bool := decide (q ∈ (Q.take i).map Prod.fst)
theorem inF_0 (Q : Qu) (q : Nat) : inF Q 0 q = false := by
  unfold inF
  refine decide_eq_false (fun h => ?_)
  rw [List.take_zero] at h
  cases h
theorem take_qa {Q : Qu} {i : Nat} (h : i < Q.length) : Q.take (i + 1) = Q.take i ++ [qa Q i] := by
  rw [List.take_add_one]
  unfold qa
  rw [List.getD_eq_getElem?_getD, List.getElem?_eq_getElem h]
  rfl
theorem inF_s {Q : Qu} {i : Nat} (h : i < Q.length) (q : Nat) : inF Q (i + 1) q = (inF Q i q || decide (q = (qa Q i).1)) := by
  unfold inF
  rw [take_qa h, List.map_append, ← Bool.decide_or]
  apply decide_eq_decide.mpr
  rw [List.mem_append]
  constructor
  · rintro (h | h)
    · exact Or.inl h
    · exact Or.inr (by simpa using h)
  · rintro (h | h)
    · exact Or.inl h
    · exact Or.inr (by simp [h])
theorem inF_t {Q : Qu} {i j : Nat} (hj : j < i) (hi : i ≤ Q.length) : inF Q i (qa Q j).1 = true := by
  unfold inF
  refine decide_eq_true ?_
  have hm : qa Q j ∈ Q.take i := by
    have : (Q.take i)[j]? = some (qa Q j) := by
      rw [List.getElem?_take_of_lt hj]
      unfold qa
      rw [List.getD_eq_getElem?_getD, List.getElem?_eq_getElem (show j < Q.length by omega)]
      rfl
    exact List.mem_of_getElem? this
  exact List.mem_map_of_mem hm
theorem inF_f {Q : Qu} {i : Nat} (nd : ND Q) (hi : i < Q.length) : inF Q i (qa Q i).1 = false := by
  unfold inF
  refine decide_eq_false (fun h => ?_)
  obtain ⟨x, x1, x2⟩ := List.mem_map.mp h
  obtain ⟨j, j1, j2⟩ := List.getElem_of_mem x1
  rw [List.length_take] at j1
  have nd : (Q.map Prod.fst).Nodup := nd
  have l1 : (Q.map Prod.fst)[j]? = some (qa Q i).1 := by
    rw [List.getElem?_map, List.getElem?_eq_getElem (show j < Q.length by omega)]
    rw [List.getElem_take] at j2
    rw [j2]
    exact congrArg some x2
  have l2 : (Q.map Prod.fst)[i]? = some (qa Q i).1 := by
    unfold qa
    rw [List.getElem?_map, List.getD_eq_getElem?_getD, List.getElem?_eq_getElem hi]
    rfl
  have := (List.getElem?_inj (i := j) (j := i) (by rw [List.length_map]; omega) nd).mp (by rw [l1, l2])
  omega
/-- the sum over those among the first i -/
def pSm (sc : Sg) (lim : Nat) (F : Nat → Option Nat) (Q : Qu) (i p e : Nat) : Nat := smC (fun c => if (nrP sc lim F p e c && inF Q i (p ^^^ flS sc c)) = true then nwN sc lim F e (p ^^^ flS sc c) else 0) 28
/-- what the choices below m of the i-th add -/
def aSm (sc : Sg) (lim : Nat) (F : Nat → Option Nat) (q e p m : Nat) : Nat := smC (fun c => if ((opS sc q lim).testBit c && decide (q ^^^ flS sc c = p)) = true then nwN sc lim F e q else 0) m
theorem pSm_0 {sc : Sg} {lim : Nat} {F : Nat → Option Nat} {Q : Qu} {p e : Nat} : pSm sc lim F Q 0 p e = 0 := by
  unfold pSm
  rw [smC_c (g := fun _ => 0) (fun c _ => by rw [inF_0, Bool.and_false]; rfl)]
  have : ∀ n, smC (fun _ => 0) n = 0 := by
    intro n
    induction n with
    | zero => rfl
    | succ n ih => rw [smC_s, ih]
  exact this 28
theorem pSm_s {sc : Sg} (g : Gd sc) {lim : Nat} {F : Nat → Option Nat} {Q : Qu} {i p e : Nat} (nd : ND Q) (hi : i < Q.length) (hF : F (qa Q i).1 = some e) (hp : p < 2 ^ sc.1 4) (hl : pop p ≤ lim) (hq : (qa Q i).1 < 2 ^ sc.1 4) (hql : pop (qa Q i).1 ≤ lim) : pSm sc lim F Q (i + 1) p e = pSm sc lim F Q i p e + aSm sc lim F (qa Q i).1 e p 28 := by
  unfold pSm aSm
  rw [← smC_add]
  refine smC_c (fun c hc => ?_)
  rw [inF_s hi]
  have key : ((opS sc (qa Q i).1 lim).testBit c && decide ((qa Q i).1 ^^^ flS sc c = p)) = ((opS sc p lim).testBit c && decide (p ^^^ flS sc c = (qa Q i).1)) := by
    have sym : ∀ a b, a < 2 ^ sc.1 4 → pop a ≤ lim → ((opS sc a lim).testBit c && decide (a ^^^ flS sc c = b)) = true → ((opS sc b lim).testBit c && decide (b ^^^ flS sc c = a)) = true := by
      intro a b ha hla h
      rw [Bool.and_eq_true] at h ⊢
      have h2 := of_decide_eq_true h.2
      have ci := ch_inv g ha hla hc h.1
      rw [h2] at ci
      exact ⟨ci.2.2, decide_eq_true (by rw [← h2]; exact xx_c _ _)⟩
    cases h1 : ((opS sc (qa Q i).1 lim).testBit c && decide ((qa Q i).1 ^^^ flS sc c = p)) with
    | true => exact (sym _ _ hq hql h1).symm
    | false =>
      cases h2 : ((opS sc p lim).testBit c && decide (p ^^^ flS sc c = (qa Q i).1)) with
      | false => rfl
      | true => rw [sym _ _ hp hl h2] at h1; cases h1
  rw [key]
  unfold nrP
  cases hb : (opS sc p lim).testBit c with
  | false => simp
  | true =>
    by_cases z : p ^^^ flS sc c = (qa Q i).1
    · have hf := inF_f nd hi
      rw [z, hF, hf]
      simp
    · rw [decide_eq_false z]
      simp
theorem aSm_top {sc : Sg} (g : Gd sc) {lim : Nat} {F : Nat → Option Nat} {q e p m : Nat} (hm : m ≤ 28) (hz : opS sc q lim / 2 ^ m = 0) : aSm sc lim F q e p 28 = aSm sc lim F q e p m := by
  unfold aSm
  have := smC_z (f := fun c => if ((opS sc q lim).testBit c && decide (q ^^^ flS sc c = p)) = true then nwN sc lim F e q else 0) m (28 - m) (fun c c1 c2 => by
    have : (opS sc q lim / 2 ^ m).testBit (c - m) = false := by rw [hz]; exact Nat.zero_testBit _
    rw [Nat.testBit_div_two_pow, show c - m + m = c by omega] at this
    rw [this, Bool.false_and, if_neg (by decide)])
  rw [show m + (28 - m) = 28 by omega] at this
  exact this
/-- the sum is whole once all that is nearer has come -/
theorem pSm_all {sc : Sg} {lim : Nat} {F : Nat → Option Nat} {Q : Qu} {i p e : Nat} (h : ∀ q, F q = some e → inF Q i q = true) : pSm sc lim F Q i p e = nwN sc lim F (e + 1) p := by
  unfold pSm
  rw [nwN_s]
  refine smC_c (fun c _ => ?_)
  unfold nrP
  by_cases z : F (p ^^^ flS sc c) = some e
  · rw [h _ z, Bool.and_true]
  · rw [decide_eq_false z]; simp
