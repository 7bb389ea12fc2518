/-! ===== what a call can't reach it doesn't change ===== -/
def okV (A : Nat → Prop) : Value → Prop
  | .ref k => A k
  | _ => True
def okS (A : Nat → Prop) : List Value → Prop
  | [] => True
  | v :: r => okV A v ∧ okS A r
def okR (A : Nat → Prop) : Option Value → Prop
  | some v => okV A v
  | none => True
def SmO (A : Nat → Prop) (w w' : Wd) : Prop := (∀ k, ¬ A k → (∀ j, gF w' k j = gF w k j) ∧ (∀ j, gG w' k j = gG w k j) ∧ (∀ j, gI w' k j = gI w k j) ∧ ∀ j, gJ w' k j = gJ w k j) ∧ (¬ A 58 → ∀ j, gP w' j = gP w j)
theorem SmO.rf (A : Nat → Prop) (w : Wd) : SmO A w w := ⟨fun _ _ => ⟨fun _ => rfl, fun _ => rfl, fun _ => rfl, fun _ => rfl⟩, fun _ _ => rfl⟩
theorem SmO.tr {A : Nat → Prop} {w w1 w2 : Wd} (h1 : SmO A w w1) (h2 : SmO A w1 w2) : SmO A w w2 :=
  ⟨fun k hk => ⟨fun j => ((h2.1 k hk).1 j).trans ((h1.1 k hk).1 j), fun j => ((h2.1 k hk).2.1 j).trans ((h1.1 k hk).2.1 j), fun j => ((h2.1 k hk).2.2.1 j).trans ((h1.1 k hk).2.2.1 j), fun j => ((h2.1 k hk).2.2.2 j).trans ((h1.1 k hk).2.2.2 j)⟩, fun h j => (h2.2 h j).trans (h1.2 h j)⟩
theorem SmO.wk {A B : Nat → Prop} {w w1 : Wd} (h : SmO A w w1) (hAB : ∀ k, A k → B k) : SmO B w w1 := ⟨fun k hk => h.1 k (fun q => hk (hAB k q)), fun hk => h.2 (fun q => hk (hAB 58 q))⟩
theorem nq_1 {A : Nat → Prop} {k a : Nat} {p : Prop} (h : A k) (ha : ¬ A a) : ¬ (a = k ∧ p) := by
  rintro ⟨rfl, -⟩
  exact ha h
theorem nq_2 {A : Nat → Prop} {k a : Nat} (h : A k) (ha : ¬ A a) : ¬ (a = k) := by
  rintro rfl
  exact ha h
theorem SmO.sF {A : Nat → Prop} {w : Wd} {k j : Nat} {x : Int32} (h : A k) : SmO A w (sF w k j x) :=
  ⟨fun a ha => ⟨fun b => by rw [gF_sF, if_neg (nq_1 h ha)], fun _ => rfl, fun _ => rfl, fun _ => rfl⟩, fun _ _ => rfl⟩
theorem SmO.sG {A : Nat → Prop} {w : Wd} {k j : Nat} {x : Int64} (h : A k) : SmO A w (sG w k j x) :=
  ⟨fun a ha => ⟨fun _ => rfl, fun b => by rw [gG_sG, if_neg (nq_1 h ha)], fun _ => rfl, fun _ => rfl⟩, fun _ _ => rfl⟩
theorem SmO.sI {A : Nat → Prop} {w : Wd} {k j : Nat} {x : Int32} (h : A k) : SmO A w (sI w k j x) :=
  ⟨fun a ha => ⟨fun _ => rfl, fun _ => rfl, fun b => by rw [gI_sI, if_neg (nq_1 h ha)], fun _ => rfl⟩, fun _ _ => rfl⟩
theorem SmO.sJ {A : Nat → Prop} {w : Wd} {k j : Nat} {x : Int64} (h : A k) : SmO A w (sJ w k j x) :=
  ⟨fun a ha => ⟨fun _ => rfl, fun _ => rfl, fun _ => rfl, fun b => by rw [gJ_sJ, if_neg (nq_1 h ha)]⟩, fun _ _ => rfl⟩
theorem SmO.sR {A : Nat → Prop} {w : Wd} {k : Nat} {f : Nat → Int32} (h : A k) : SmO A w (sR w k f) :=
  ⟨fun a ha => ⟨fun _ => rfl, fun _ => rfl, fun b => by rw [gI_sR, if_neg (nq_2 h ha)], fun _ => rfl⟩, fun _ _ => rfl⟩
theorem SmO.sL {A : Nat → Prop} {w : Wd} {k : Nat} {f : Nat → Int64} (h : A k) : SmO A w (sL w k f) :=
  ⟨fun a ha => ⟨fun _ => rfl, fun _ => rfl, fun _ => rfl, fun b => by rw [gJ_sL, if_neg (nq_2 h ha)]⟩, fun _ _ => rfl⟩
theorem SmO.sP {A : Nat → Prop} {w : Wd} {j r : Nat} (h : A 58) : SmO A w (sP w j r) :=
  ⟨fun _ _ => ⟨fun _ => rfl, fun _ => rfl, fun _ => rfl, fun _ => rfl⟩, fun q => absurd h q⟩
/-- a region that its references don't leave; W: what is known of the references that move -/
def ClR (A : Nat → Prop) (W : (Nat → Nat) → Prop) : Prop :=
  (∀ (P : Nat → Nat) (k ci j : Nat), W P → A k → isOb k ci = true → j < nfZ ci → fkZ ci j = 2 → A (rf P k j)) ∧
  (∀ (P : Nat → Nat) (k t n i : Nat), W P → A k → lnA k t = some n → i < n → (t = 4 ∨ t = 5) → A (rf P k i)) ∧
  (∀ i, A (1000 + i)) ∧
  (∀ (P : Nat → Nat) (j x : Nat), W P → A 58 → A x → W (fun b => if b = j then x else P b))
def okN (A : Nat → Prop) (W : (Nat → Nat) → Prop) (w : Wd) : Nx → Prop
  | .inl none => True
  | .inl (some (r, w')) => okR A r ∧ SmO A w w' ∧ W (gP w')
  | .inr (.inl (_, L, st, w')) => okS A L ∧ okS A st ∧ SmO A w w' ∧ W (gP w')
  | .inr (.inr (_, As, _, L, rest, w')) => okS A As ∧ okS A L ∧ okS A rest ∧ w' = w
theorem okS_st {A : Nat → Prop} : ∀ {L : List Value} {a : Nat} {v : Value}, okS A L → okV A v → okS A (stL L a v) := by
  intro L
  induction L with
  | nil => intro a v _ _; trivial
  | cons u r ih =>
    intro a v h hv
    cases a with
    | zero => exact ⟨hv, h.2⟩
    | succ a => exact ⟨h.1, ih h.2 hv⟩
theorem okS_nth {A : Nat → Prop} : ∀ {L : List Value} {a : Nat}, okS A L → okV A (nth L a) := by
  intro L
  induction L with
  | nil => intro a _; trivial
  | cons u r ih =>
    intro a h
    cases a with
    | zero => exact h.1
    | succ a => exact ih h.2
theorem okS_tk {A : Nat → Prop} : ∀ (n : Nat) (acc st As r : List Value), tkC n acc st = some (As, r) → okS A acc → okS A st → okS A As ∧ okS A r := by
  intro n
  induction n with
  | zero =>
    intro acc st As r h h1 h2
    cases h
    exact ⟨h1, h2⟩
  | succ n ih =>
    intro acc st As r h h1 h2
    cases st with
    | nil => cases h
    | cons v st => exact ih (v :: acc) st As r h ⟨h2.1, h1⟩ h2.2
theorem okS_eL {A : Nat → Prop} : ∀ {As : List Value}, okS A As → okS A (eL As) := by
  intro As
  induction As with
  | nil => intro _; trivial
  | cons v r ih =>
    intro h
    unfold eL
    split
    · exact ⟨h.1, trivial, ih h.2⟩
    · exact ⟨h.1, ih h.2⟩
theorem okS_pad {A : Nat → Prop} : ∀ (n : Nat) {L : List Value}, okS A L → okS A (pad n L) := by
  intro n
  induction n with
  | zero => intro L _; trivial
  | succ n ih =>
    intro L h
    cases L with
    | nil => exact ⟨trivial, ih trivial⟩
    | cons v r => exact ⟨h.1, ih h.2⟩
theorem okS_ini {A : Nat → Prop} {m : Nat} {As : List Value} (h : okS A As) : okS A (iniL m As) := okS_pad _ (okS_eL h)
theorem okS_pu {A : Nat → Prop} {r : Option Value} {rest : List Value} (h1 : okR A r) (h2 : okS A rest) : okS A (pu r rest) := by
  cases r with
  | none => exact h2
  | some v => exact ⟨h1, h2⟩
theorem okN_K {A : Nat → Prop} {W : (Nat → Nat) → Prop} {w w' : Wd} {pc : Nat} {L st : List Value} (h1 : okS A L) (h2 : okS A st) (h3 : SmO A w w') (h4 : W (gP w')) : okN A W w (xK pc L st w') := ⟨h1, h2, h3, h4⟩
theorem okN_sw {A : Nat → Prop} {W : (Nat → Nat) → Prop} {w : Wd} {x : Int32} {L st : List Value} {df : Nat} (h1 : okS A L) (h2 : okS A st) (h4 : W (gP w)) : ∀ l : List Nat, okN A W w (swK x L st w df l)
  | [] => ⟨h1, h2, SmO.rf _ _, h4⟩
  | [_] => ⟨h1, h2, SmO.rf _ _, h4⟩
  | k :: t :: r => by
    unfold swK
    split
    · exact ⟨h1, h2, SmO.rf _ _, h4⟩
    · exact okN_sw h1 h2 h4 r
set_option maxHeartbeats 8000000 in
theorem step_fr {A : Nat → Prop} {W : (Nat → Nat) → Prop} (hcl : ClR A W) {ins : Instr} {a b c : Nat} {l : List Nat} {pc : Nat} {L st : List Value} {w : Wd} (hg : ∀ i, ins = .getfield i → b < nfZ a ∧ fkZ a b = c) (hL : okS A L) (hst : okS A st) (hW : W (gP w)) : okN A W w (zst ins a b c l pc L st w) := by
  have hn : ∀ a, okV A (nth L a) := fun a => okS_nth hL
  cases ins with
  | getfield i =>
    obtain ⟨h1, h2⟩ := hg i rfl
    unfold zst
    dsimp only
    split
    · rename_i k r
      split
      · rename_i ho
        split
        · exact ⟨hL, ⟨trivial, hst.2⟩, SmO.rf _ _, hW⟩
        · exact ⟨hL, ⟨trivial, hst.2⟩, SmO.rf _ _, hW⟩
        · have hc3 : c = 0 ∨ c = 1 ∨ c = 2 := by
            rw [← h2]; unfold fkZ; split <;> simp
          have : c = 2 := by
            rcases hc3 with q | q | q
            · exact absurd q (by assumption)
            · exact absurd q (by assumption)
            · exact q
          exact ⟨hL, ⟨hcl.1 _ _ a b hW hst.1 ho h1 (h2.trans this), hst.2⟩, SmO.rf _ _, hW⟩
      · trivial
    · trivial
  | invokevirtual i =>
    unfold zst
    dsimp only
    split
    · split
      · split
        · exact ⟨hL, ⟨trivial, hst.2⟩, SmO.rf _ _, hW⟩
        · trivial
      · trivial
    · split
      · split
        · exact ⟨hL, ⟨trivial, hst.2.2⟩, SmO.rf _ _, hW⟩
        · trivial
      · trivial
    · split
      · rename_i htk
        split
        · obtain ⟨h1, h2⟩ := okS_tk _ _ _ _ _ htk trivial hst
          exact ⟨h1, hL, h2, rfl⟩
        · trivial
      · trivial
  | invokestatic i =>
    unfold zst
    dsimp only
    split
    · split
      · split
        · exact ⟨hL, ⟨trivial, hst.2.2⟩, SmO.rf _ _, hW⟩
        · trivial
      · trivial
    · split
      · split
        · exact ⟨hL, ⟨trivial, hst.2.2⟩, SmO.rf _ _, hW⟩
        · trivial
      · trivial
    · split
      · split
        · trivial
        · exact ⟨hL, ⟨trivial, hst.2.2⟩, SmO.rf _ _, hW⟩
      · trivial
    · split
      · split
        · unfold arC
          split
          · split
            · exact ⟨hL, hst.2.2.2.2.2, SmO.sR hst.2.2.1, hW⟩
            · trivial
          · split
            · split
              · exact ⟨hL, hst.2.2.2.2.2, SmO.sL hst.2.2.1, hW⟩
              · trivial
            · trivial
        · trivial
      · trivial
    · split
      · rename_i htk
        split
        · obtain ⟨h1, h2⟩ := okS_tk _ _ _ _ _ htk trivial hst
          exact ⟨h1, hL, h2, rfl⟩
        · trivial
      · trivial
  | putfield i =>
    unfold zst
    dsimp only
    split
    · split
      · split
        · exact ⟨hL, hst.2.2, SmO.sF hst.2.1, hW⟩
        · trivial
      · trivial
    · split
      · split
        · exact ⟨hL, hst.2.2, SmO.sG hst.2.1, hW⟩
        · trivial
      · trivial
    · split
      · split
        · rename_i x k r ho
          simp only [Bool.and_eq_true, beq_iff_eq] at ho
          have h58 : A 58 := by
            have := hst.2.1
            rw [ho.2.1] at this
            exact this
          exact ⟨hL, hst.2.2, SmO.sP h58, hcl.2.2.2 _ _ _ hW h58 hst.1⟩
        · trivial
      · trivial
  | aaload =>
    unfold zst
    dsimp only
    split
    · split
      · rename_i hl
        split
        · rename_i hi
          exact ⟨hL, ⟨hcl.2.1 _ _ _ _ _ hW hst.2.1 hl (inB_of hi).2 (Or.inl rfl), hst.2.2⟩, SmO.rf _ _, hW⟩
        · trivial
      · split
        · rename_i hl
          split
          · rename_i hi
            exact ⟨hL, ⟨hcl.2.1 _ _ _ _ _ hW hst.2.1 hl (inB_of hi).2 (Or.inr rfl), hst.2.2⟩, SmO.rf _ _, hW⟩
          · trivial
        · trivial
    · trivial
  | ldc i =>
    unfold zst
    dsimp only
    split
    · exact ⟨hL, ⟨trivial, hst⟩, SmO.rf _ _, hW⟩
    · exact ⟨hL, ⟨hcl.2.2.1 _, hst⟩, SmO.rf _ _, hW⟩
  | tableswitch _ _ _ _ =>
    unfold zst
    dsimp only
    split
    · exact okN_sw hL hst.2 hW l
    · trivial
  | lookupswitch _ _ =>
    unfold zst
    dsimp only
    split
    · exact okN_sw hL hst.2 hW l
    · trivial
  | aload _ =>
    unfold zst
    dsimp only
    have := hn a
    split
    · rename_i e
      rw [e] at this
      exact ⟨hL, ⟨this, hst⟩, SmO.rf _ _, hW⟩
    · trivial
  | aload_n _ =>
    unfold zst
    dsimp only
    have := hn a
    split
    · rename_i e
      rw [e] at this
      exact ⟨hL, ⟨this, hst⟩, SmO.rf _ _, hW⟩
    · trivial
  | _ =>
    unfold zst
    dsimp only
    repeat' split
    all_goals first
      | exact trivial
      | exact ⟨hL, hst, SmO.rf _ _, hW⟩
      | exact ⟨hL, ⟨trivial, hst⟩, SmO.rf _ _, hW⟩
      | exact ⟨hL, hst.2, SmO.rf _ _, hW⟩
      | exact ⟨hL, hst.2.2, SmO.rf _ _, hW⟩
      | exact ⟨hL, ⟨trivial, hst.2⟩, SmO.rf _ _, hW⟩
      | exact ⟨hL, ⟨trivial, hst.2.2⟩, SmO.rf _ _, hW⟩
      | exact ⟨hL, ⟨hst.1, hst⟩, SmO.rf _ _, hW⟩
      | exact ⟨hL, ⟨hst.1, hst.2.1, hst⟩, SmO.rf _ _, hW⟩
      | exact ⟨okS_st hL trivial, hst.2, SmO.rf _ _, hW⟩
      | exact ⟨okS_st hL hst.1, hst.2, SmO.rf _ _, hW⟩
      | exact ⟨okS_st (okS_st hL trivial) trivial, hst.2, SmO.rf _ _, hW⟩
      | exact ⟨okS_st hL trivial, hst, SmO.rf _ _, hW⟩
      | exact ⟨hL, hst.2.2.2, SmO.sI hst.2.2.1, hW⟩
      | exact ⟨hL, hst.2.2.2, SmO.sJ hst.2.2.1, hW⟩
      | exact ⟨trivial, SmO.rf _ _, hW⟩
theorem chk_get {M : MI} {d pc : Nat} {o : Op} (h : chk M d pc o = true) : ∀ i, o.1 = .getfield i → o.2.2.1 < nfZ o.2.1 ∧ fkZ o.2.1 o.2.2.1 = o.2.2.2.1 := by
  intro i hi
  obtain ⟨ins, a, b, c, l⟩ := o
  dsimp only at hi
  subst hi
  unfold chk at h
  rw [Bool.or_eq_true] at h
  rcases h with h | h
  · exact absurd (of_decide_eq_true h) (by intro q; cases q)
  · revert h
    cases decode M.2.1 pc with
    | error _ => intro h; cases h
    | ok q =>
      intro h
      rw [Bool.and_eq_true] at h
      have h2 := h.2
      unfold chk2 at h2
      simp only [Bool.and_eq_true, decide_eq_true_eq] at h2
      exact ⟨h2.2.2.1, h2.2.2.2.1⟩
theorem run_fr {A : Nat → Prop} {W : (Nat → Nat) → Prop} (hcl : ClR A W) : ∀ (f m pc : Nat) (L st : List Value) (w : Wd) (r : Option Value) (w' : Wd), zrun f m pc L st w = some (r, w') → okS A L → okS A st → W (gP w) → okR A r ∧ SmO A w w' ∧ W (gP w') := by
  intro f
  induction f with
  | zero => intro m pc L st w r w' h; cases h
  | succ f ih =>
    intro m pc L st w r w' h hL hst hW
    have hs : okN A W w (zop (TT m pc) pc L st w) := step_fr hcl (chk_get (ck_all m pc)) hL hst hW
    rw [zrun] at h
    cases hz : zop (TT m pc) pc L st w with
    | inl q =>
      rw [hz] at hs
      simp only [hz] at h
      subst h
      exact hs
    | inr q =>
      cases q with
      | inl q =>
        obtain ⟨pc', L', st', w1⟩ := q
        rw [hz] at hs
        simp only [hz] at h
        obtain ⟨h1, h2, h3, h4⟩ := hs
        obtain ⟨a1, a2, a3⟩ := ih _ _ _ _ _ _ _ h h1 h2 h4
        exact ⟨a1, h3.tr a2, a3⟩
      | inr q =>
        obtain ⟨m', As, pc', L', rest, w1⟩ := q
        rw [hz] at hs
        simp only [hz] at h
        obtain ⟨h1, h2, h3, rfl⟩ := hs
        cases hc : zrun f m' 0 (iniL m' As) [] w1 with
        | none => simp [hc] at h
        | some y =>
          obtain ⟨r1, w2⟩ := y
          simp only [hc] at h
          obtain ⟨b1, b2, b3⟩ := ih _ _ _ _ _ _ _ hc (okS_ini h1) trivial hW
          obtain ⟨a1, a2, a3⟩ := ih _ _ _ _ _ _ _ h h2 (okS_pu b1 h3) b3
          exact ⟨a1, b2.tr a2, a3⟩
/-- THE FRAME: a call changes nothing outside a region that holds its arguments -/
theorem zE_fr {A : Nat → Prop} {W : (Nat → Nat) → Prop} (hcl : ClR A W) {m : Nat} {As : List Value} {w w' : Wd} {r : Option Value} (h : zE m As w = some (r, w')) (hA : okS A As) (hW : W (gP w)) : SmO A w w' ∧ W (gP w') := by
  obtain ⟨f, hf⟩ := zR_iff.mp (show zR m 0 (iniL m As) [] w = _ from h)
  exact (run_fr hcl f m 0 _ [] w r w' hf (okS_ini hA) trivial hW).2
/-- the class's cells; the reference's -/
def rgC (k : Nat) : Prop := k < 267 ∨ 1000 ≤ k
def rgM (k : Nat) : Prop := 267 ≤ k
def wpC (P : Nat → Nat) : Prop := ∀ j, rgC (P j)
theorem rf_np {P : Nat → Nat} {k j : Nat} (h : k ≠ 58) : rf P k j = rf (fun _ => 0) k j := by
  unfold rf
  split
  · rfl
  · split <;> first | rfl | exact absurd rfl h
theorem cl_c1 : ((List.range 267).all (fun k => (List.range 7).all (fun ci => (List.range (nfZ ci)).all (fun j => !(isOb k ci) || (!(fkZ ci j == 2) || decide (rf (fun _ => 0) k j < 267)))))) = true := by decide +kernel
theorem cl_c2 : ((List.range 267).all (fun k => (List.range 6).all (fun t => !(t == 4 || t == 5) || (match lnA k t with | some n => (List.range n).all (fun i => decide (rf (fun _ => 0) k i < 267)) | none => true)))) = true := by decide +kernel
theorem isOb_7 {k ci : Nat} (h : isOb k ci = true) : ci < 7 := by
  have h1 := (isOb_isO h).2
  have h1 : kd k = .inl ci := h1
  unfold kd at h1
  split at h1
  · split at h1
    · cases h1; decide
    · cases h1
  · split at h1 <;> first | (cases h1; done) | (cases h1; decide)
theorem cl_C : ClR rgC wpC := by
  refine ⟨fun P k ci j hP hk ho hj hf => ?_, fun P k t n i hP hk hl hi ht => ?_, fun i => Or.inr (by omega), fun P j x hP _ hx b => ?_⟩
  · have hk2 : k < 267 := by
      have h290 : k < 290 := (isOb_isO ho).1
      rcases hk with q | q
      · exact q
      · omega
    by_cases h58 : k = 58
    · subst h58
      show rgC (rf58 P j)
      unfold rf58
      split <;> first | exact hP _ | exact Or.inl (by decide)
    · have h := cl_c1
      rw [List.all_eq_true] at h
      have h := h k (List.mem_range.mpr hk2)
      rw [List.all_eq_true] at h
      have h := h ci (List.mem_range.mpr (isOb_7 ho))
      rw [List.all_eq_true] at h
      have h := h j (List.mem_range.mpr hj)
      rw [ho, hf] at h
      rw [rf_np h58]
      exact Or.inl (of_decide_eq_true (by simpa using h))
  · have hk2 : k < 267 := by
      have h290 : k < 290 := (lnA_isA hl).1
      rcases hk with q | q
      · exact q
      · omega
    have h58 : k ≠ 58 := by
      intro e
      subst e
      have : kd 58 = .inr (t, n) := (lnA_isA hl).2
      exact absurd this (by intro q; cases q)
    have h := cl_c2
    rw [List.all_eq_true] at h
    have h := h k (List.mem_range.mpr hk2)
    rw [List.all_eq_true] at h
    have h := h t (List.mem_range.mpr (by omega))
    rw [hl] at h
    rw [rf_np h58]
    rcases ht with rfl | rfl
    · simp only [beq_self_eq_true, Bool.true_or, Bool.not_true, Bool.false_or, List.all_eq_true] at h
      exact Or.inl (of_decide_eq_true (h i (List.mem_range.mpr hi)))
    · simp only [beq_self_eq_true, Bool.or_true, Bool.not_true, Bool.false_or, List.all_eq_true] at h
      exact Or.inl (of_decide_eq_true (h i (List.mem_range.mpr hi)))
  · show rgC (if b = j then x else P b)
    split
    · exact hx
    · exact hP b
set_option maxRecDepth 100000 in
theorem cl_M : ClR rgM (fun _ => True) := by
  refine ⟨fun P k ci j _ hk ho hj hf => ?_, fun P k t n i _ hk hl hi ht => ?_, fun i => by unfold rgM; omega, fun _ _ _ _ _ _ => trivial⟩
  · have h290 : k < 290 := (isOb_isO ho).1
    have h2 : kd k = .inl ci := (isOb_isO ho).2
    have hk : 267 ≤ k := hk
    have : ∀ q : Fin 23, (match kd (267 + q.val) with | .inl _ => decide (q.val = 0) | .inr _ => true) = true := by decide +kernel
    have h3 := this ⟨k - 267, by omega⟩
    rw [show 267 + (k - 267) = k by omega, h2] at h3
    have h4 : k - 267 = 0 := of_decide_eq_true h3
    have : k = 267 := by omega
    subst this
    show rgM (rf267 j)
    unfold rf267 rgM
    split <;> decide
  · exfalso
    have h290 : k < 290 := (lnA_isA hl).1
    have h2 : kd k = .inr (t, n) := (lnA_isA hl).2
    have hk : 267 ≤ k := hk
    have : ∀ q : Fin 23, (match kd (267 + q.val) with | .inl _ => true | .inr (t, _) => decide (t < 4)) = true := by decide +kernel
    have h3 := this ⟨k - 267, by omega⟩
    rw [show 267 + (k - 267) = k by omega, h2] at h3
    have h4 : t < 4 := of_decide_eq_true h3
    omega
