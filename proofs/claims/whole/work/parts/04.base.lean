/-! ===== the light judgement: a world of numbered cells, a method's body over it ===== -/
abbrev clz : List vw_C := [(RX0, TX0, 3), (RX1, TX1, 7), (RX2, TX2, 14), (RX3, TX3, 9), (RX4, TX4, 3), (RX5, TX5, 12), (RX6, TX6, 40)]
/-- a pure value's real one: a cell's number becomes its address -/
def pe (ad : Nat → Nat) : Value → Value
  | .ref k => .ref (ad k)
  | v => v
theorem pe_cat (ad : Nat → Nat) (v : Value) : (pe ad v).category = v.category := by cases v <;> rfl
/-- a local of which nothing is known -/
abbrev jk : Value := .retAddr 0
/-- int fields, long fields, rows of ints, rows of longs, references that move -/
abbrev Wd : Type := (Nat → Nat → Int32) × (Nat → Nat → Int64) × (Nat → Nat → Int32) × (Nat → Nat → Int64) × (Nat → Nat)
/-- how many cells; a cell's kind: an object's class, or a row's sort (0 int, 1 long, 2 byte, 3 boolean, 4 rows of long, 5 objects) and length; its references -/
abbrev Ly : Type := Nat × (Nat → Nat ⊕ (Nat × Nat)) × ((Nat → Nat) → Nat → Nat → Nat)
/-- the classes' numbers, their slots, the cells' addresses, the rows' classes -/
abbrev En : Type := (Nat → ClassId) × (Nat → Nat → Nat) × (Nat → Nat) × (Nat → ClassId)
abbrev En.ad (E : En) : Nat → Nat := E.2.2.1
abbrev En.tc (E : En) : Nat → ClassId := E.2.2.2
def tyZ (ci j : Nat) : FieldType := match ci with
  | 0 => tyX0 j
  | 1 => tyX1 j
  | 2 => tyX2 j
  | 3 => tyX3 j
  | 4 => tyX4 j
  | 5 => tyX5 j
  | _ => tyX6 j
def nfZ (ci : Nat) : Nat := match ci with
  | 0 => 3
  | 1 => 7
  | 2 => 14
  | 3 => 9
  | 4 => 3
  | 5 => 12
  | _ => 40
/-- a field's sort: 0 int, 1 long, 2 reference -/
def fkZ (ci j : Nat) : Nat := match tyZ ci j with
  | .int => 0
  | .long => 1
  | _ => 2
def fvZ (Λ : Ly) (E : En) (w : Wd) (ci k j : Nat) : Value := if fkZ ci j = 0 then .int (w.1 k j) else if fkZ ci j = 1 then .long (w.2.1 k j) else .ref (E.ad (Λ.2.2 w.2.2.2.2 k j))
def cnZ (Λ : Ly) (E : En) (w : Wd) (k t : Nat) : (Nat → Int32) ⊕ (Nat → Int64) ⊕ (Nat → UInt32) ⊕ (Nat → UInt64) ⊕ (Nat → Option Nat) :=
  if t = 1 then .inr (.inl (w.2.2.2.1 k)) else if t < 4 then .inl (w.2.2.1 k) else .inr (.inr (.inr (.inr (fun i => some (E.ad (Λ.2.2 w.2.2.2.2 k i))))))
def cE (Λ : Ly) (E : En) (w : Wd) (k : Nat) : va_E := match Λ.2.1 k with
  | .inl ci => .inr (ci, (List.range (nfZ ci)).map (fvZ Λ E w ci k))
  | .inr (t, n) => .inl (E.tc t, n, cnZ Λ E w k t)
def wl (Λ : Ly) (E : En) (w : Wd) : va_W := (List.range Λ.1).map (fun k => (E.ad k, cE Λ E w k))
def tyE (E : En) : List (ClassId × FieldType) := [(E.tc 0, .int), (E.tc 1, .long), (E.tc 2, .byte), (E.tc 3, .boolean), (E.tc 4, .array .long), (E.tc 5, .object "SlatePlay$School")]
abbrev En.D (E : En) : va_G := (E.1, E.2.1)
/-- the new worlds -/
def sF (w : Wd) (k j : Nat) (x : Int32) : Wd := (fun a b => if a = k ∧ b = j then x else w.1 a b, w.2)
def sG (w : Wd) (k j : Nat) (x : Int64) : Wd := (w.1, fun a b => if a = k ∧ b = j then x else w.2.1 a b, w.2.2)
def sI (w : Wd) (k i : Nat) (x : Int32) : Wd := (w.1, w.2.1, fun a b => if a = k ∧ b = i then x else w.2.2.1 a b, w.2.2.2)
def sJ (w : Wd) (k i : Nat) (x : Int64) : Wd := (w.1, w.2.1, w.2.2.1, fun a b => if a = k ∧ b = i then x else w.2.2.2.1 a b, w.2.2.2.2)
def sP (w : Wd) (j r : Nat) : Wd := (w.1, w.2.1, w.2.2.1, w.2.2.2.1, fun b => if b = j then r else w.2.2.2.2 b)
/-- a whole row of ints, of longs -/
def sR (w : Wd) (k : Nat) (f : Nat → Int32) : Wd := (w.1, w.2.1, fun a => if a = k then f else w.2.2.1 a, w.2.2.2)
def sL (w : Wd) (k : Nat) (f : Nat → Int64) : Wd := (w.1, w.2.1, w.2.2.1, fun a => if a = k then f else w.2.2.2.1 a, w.2.2.2.2)
def isO (Λ : Ly) (k ci : Nat) : Prop := k < Λ.1 ∧ Λ.2.1 k = .inl ci
def isA (Λ : Ly) (k t n : Nat) : Prop := k < Λ.1 ∧ Λ.2.1 k = .inr (t, n)
theorem wl_get {Λ : Ly} {E : En} {w : Wd} {k : Nat} (hk : k < Λ.1) : (wl Λ E w)[k]? = some (E.ad k, cE Λ E w k) := by
  simp [wl, hk]
theorem wl_inv {Λ : Ly} {E : En} {w : Wd} {k : Nat} {q : Nat × va_E} (h : (wl Λ E w)[k]? = some q) : k < Λ.1 ∧ q = (E.ad k, cE Λ E w k) := by
  have hl := (List.getElem?_eq_some_iff.mp h).1
  have hk : k < Λ.1 := by simpa [wl] using hl
  rw [wl_get hk] at h
  exact ⟨hk, (Option.some.inj h).symm⟩
theorem wl_set {Λ : Ly} {E : En} {w w' : Wd} {k : Nat} {e : va_E} (he : cE Λ E w' k = e) (h : ∀ a, a ≠ k → cE Λ E w' a = cE Λ E w a) : (wl Λ E w).set k (E.ad k, e) = wl Λ E w' := by
  subst he
  apply List.ext_getElem?
  intro i
  rw [List.getElem?_set]
  by_cases hi : k = i
  · subst hi
    by_cases hk : k < Λ.1
    · simp [wl, hk]
    · simp [wl, hk]
  · rw [if_neg hi]
    by_cases hk : i < Λ.1
    · rw [wl_get hk, wl_get hk, h i (fun q => hi q.symm)]
    · have h1 : (wl Λ E w).length ≤ i := by simp [wl]; omega
      have h2 : (wl Λ E w').length ≤ i := by simp [wl]; omega
      rw [List.getElem?_eq_none h1, List.getElem?_eq_none h2]
theorem cE_o {Λ : Ly} {E : En} {w : Wd} {k ci : Nat} (h : isO Λ k ci) : cE Λ E w k = .inr (ci, (List.range (nfZ ci)).map (fvZ Λ E w ci k)) := by
  simp only [cE, h.2]
theorem cE_a {Λ : Ly} {E : En} {w : Wd} {k t n : Nat} (h : isA Λ k t n) : cE Λ E w k = .inl (E.tc t, n, cnZ Λ E w k t) := by
  simp only [cE, h.2]
/-- the cells that a method may change -/
def AA (Λ : Ly) (E : En) (sz : Nat) : Nat → Prop := fun q => (∃ k, k < Λ.1 ∧ q = E.ad k) ∨ sz ≤ q
def DD (Λ : Ly) (E : En) : Prop := ∀ i j : Nat, i < Λ.1 → j < Λ.1 → E.ad i = E.ad j → i = j
theorem DD.d {Λ : Ly} {E : En} (h : DD Λ E) (w : Wd) (sz : Nat) : va_D (AA Λ E sz) (wl Λ E w) := by
  refine ⟨fun i j p q h1 h2 e => ?_, fun k q hk => ?_⟩
  · obtain ⟨a1, rfl⟩ := wl_inv h1
    obtain ⟨a2, rfl⟩ := wl_inv h2
    exact h i j a1 a2 e
  · obtain ⟨a1, rfl⟩ := wl_inv hk
    exact Or.inl ⟨k, a1, rfl⟩
/-- a method: its name, its bytes, its locals, its answer's type -/
abbrev MI : Type := MethodName × ByteArray × Nat × Option FieldType
def GG : List Cond := lw_tbl.filter goodWord
theorem GG_good : ∀ w ∈ GG, goodWord w = true := fun w h => (List.mem_filter.mp h).2
abbrev Gw (M : MI) : List Cond := Cond.code M.1 M.2.1 M.2.2.1 M.2.2.2 :: GG
abbrev Rm (d : Nat) : Room := { frames := d, cells := 0, slots := 0, locals := 40 * d }
/-- the String constants of the reader, by their places: their entries, texts, lengths, bytes -/
def skI : List Nat := [94, 96, 98, 100, 102, 104, 106, 84]
def skT : List String := ["num", "add", "less", "times", "most", "turn", "slates", "by"]
def skN : List Nat := [3, 3, 4, 5, 4, 4, 6, 2]
def skB : List (List Int32) := [[110, 117, 109], [97, 100, 100], [108, 101, 115, 115], [116, 105, 109, 101, 115], [109, 111, 115, 116], [116, 117, 114, 110], [115, 108, 97, 116, 101, 115], [98, 121]]
/-- what stands beside the world: two links of nest mates, the String constants (cells 1000 .. 1007, their bytes 1100 .. 1107) -/
def XF (Λ : Ly) (E : En) (U : State) (H : Heap) : Prop :=
  va_Nw (.methodLinkNest RX5 312 yX0_powerMoves "SlatePlay") U ∧ va_Nw (.methodLinkNest RX5 315 yX0_powerSlates "SlatePlay") U ∧ (∀ i : Nat, i < 8 → vk_R RX1 (skI.getD i 0) (skT.getD i "") (E.ad (1000 + i)) U) ∧ vk_S 8 skN skB (fun i => E.ad (1000 + i)) (fun i => E.ad (1100 + i)) (AA Λ E H.size) U H ∧ va_Z "java/lang/String" "COMPACT_STRINGS" "Z" (.int 1) (AA Λ E H.size) U H ∧ va_Zq "jdk/internal/util/Preconditions" "SIOOBE_FORMATTER" "Ljava/util/function/BiFunction;" (AA Λ E H.size) U H
/-- the world at a heap -/
def HX (Λ : Ly) (E : En) (w : Wd) (s : State) (H : Heap) (locs : List Loc) : Prop := va_P E.D clz (wl Λ E w) H ∧ va_S (AA Λ E s.heap.size) s.heap H locs
def CX (Λ : Ly) (M : MI) (E : En) (p : Program) (s : State) (m : MethodId) (args : Array Value) (meth : Method) (c : Code) : Prop :=
  p.tables.exec = Jvm.exec ∧ c.code = M.2.1 ∧ meth.sig.returnType = M.2.2.2 ∧ c.maxLocals = M.2.2.1 ∧ s.vm.findClass M.1.cls = some m.cls ∧ (∀ w ∈ Gw M, w.before args s = true) ∧ meth.locks = false ∧ va_K E.D clz (tyE E) s ∧ DD Λ E ∧ XF Λ E s s.heap
def LV (E : En) (nL : Nat) (L : List Value) (ls : Array Slot) : Prop := ls.size = nL ∧ lv_wf ls ∧ ∀ (i : Nat) (v : Value), L[i]? = some v → v ≠ jk → ls[i]? = some (.val (pe E.ad v))
/-- what a method leaves -/
def QQ (Λ : Ly) (E : En) (post : Option Value → Wd → Prop) (sz : Nat) : Array Value → State → Outcome → State → Prop := fun _ st oc t =>
  (∃ (r : Option Value) (w' : Wd), oc = .returned (r.map (pe E.ad)) ∧ post r w' ∧ va_P E.D clz (wl Λ E w') t.heap) ∧ va_F (AA Λ E sz) st t
/-- THE BODY: from pc on, with these locals, this stack and this world, the method returns an answer and a world with post -/
def Bd (Λ : Ly) (l : Launch) (M : MI) (d : Nat) (pc : Nat) (L st : List Value) (w : Wd) (post : Option Value → Wd → Prop) : Prop :=
  ∀ (E : En) (p : Program) (e : Env) (s : State) (m : MethodId) (args : Array Value) (below : List Frame) (meth : Method) (c : Code) (H : Heap) (locs : List Loc) (ls : Array Slot),
    CX Λ M E p s m args meth c → HX Λ E w s H locs → LV E M.2.2.1 L ls →
    W p l e (Rm d) s m args below meth c H locs 0 0 (MQ below (QQ Λ E post s.heap.size) args s 0 0 (AA Λ E s.heap.size)) (F0 m pc ls (st.map (pe E.ad)))
/-- THE CONTRACT -/
def Does (Λ : Ly) (l : Launch) (M : MI) (d : Nat) (av : List Value) (w : Wd) (post : Option Value → Wd → Prop) : Prop :=
  ∀ (E : En) (sz : Nat), Met l M.1 (Gw M) (Rm d) (va_Pc (av.map (pe E.ad)) (fun U => U.heap.size = sz ∧ va_P E.D clz (wl Λ E w) U.heap ∧ va_K E.D clz (tyE E) U ∧ DD Λ E ∧ XF Λ E U U.heap)) (QQ Λ E post sz) 0 0 (AA Λ E sz)
/-- an answer and a world that are said -/
abbrev is2 (r : Option Value) (w : Wd) : Option Value → Wd → Prop := fun r' w' => r' = r ∧ w' = w
theorem XF.warm {Λ : Ly} {E : En} {s U : State} {H : Heap} (hW : s.WarmedH U.vm) (h : XF Λ E s H) : XF Λ E U H := by
  obtain ⟨h1, h2, h3, h4, h5, h6⟩ := h
  exact ⟨va_Nw.warmM hW h1, va_Nw.warmM hW h2, fun i hi => (h3 i hi).warm hW, h4.moved hW.alike, h5.moved hW.alike, h6.moved hW.alike⟩
theorem XF.same {Λ : Ly} {E : En} {u U : State} {H : Heap} (hv : U.vm = u.vm) (h : XF Λ E u H) : XF Λ E U H := by
  obtain ⟨h1, h2, h3, h4, h5, h6⟩ := h
  exact ⟨va_Nw.same rfl hv.symm h1, va_Nw.same rfl hv.symm h2, fun i hi => (h3 i hi).same hv, h4.moved (by rw [hv]; exact Vm.Alike.refl _), h5.moved (by rw [hv]; exact Vm.Alike.refl _), h6.moved (by rw [hv]; exact Vm.Alike.refl _)⟩
theorem AA.mono {Λ : Ly} {E : En} {a b : Nat} (h : a ≤ b) : ∀ q, AA Λ E b q → AA Λ E a q := fun _ z => z.elim Or.inl (fun z => Or.inr (Nat.le_trans h z))
theorem XF.kept {Λ : Ly} {E : En} {U : State} {H H1 : Heap} (hz : H.size ≤ H1.size) (hq : ∀ a : Nat, a < H.size → ¬ AA Λ E H.size a → H1[a]? = H[a]?) (h : XF Λ E U H) : XF Λ E U H1 := by
  obtain ⟨h1, h2, h3, h4, h5, h6⟩ := h
  exact ⟨h1, h2, h3, (h4.kept hq).narrow (AA.mono hz), (h5.kept hq).narrow (AA.mono hz), (h6.kept hq).narrow (AA.mono hz)⟩
/-- the contract out of the body -/
def eL : List Value → List Value
  | [] => []
  | v :: r => if v.category = 2 then v :: jk :: eL r else v :: eL r
theorem eL_lg (ad : Nat → Nat) : ∀ (av : List Value) (i j : Nat) (v : Value), (eL av)[j]? = some v → v ≠ jk → (i + j, pe ad v) ∈ lv_args i (av.map (pe ad)) := by
  intro av
  induction av with
  | nil => intro i j v h; simp [eL] at h
  | cons u r ih =>
    intro i j v h hv
    simp only [List.map_cons, lv_args, pe_cat]
    by_cases hc : u.category = 2
    · simp only [eL, hc, if_true] at h ⊢
      match j, h with
      | 0, h => simp at h; subst h; simp
      | 1, h => simp at h; exact absurd h.symm hv
      | j + 2, h =>
        simp at h
        have := ih (i + 2) j v h hv
        rw [show i + (j + 2) = i + 2 + j by omega]
        exact List.mem_cons_of_mem _ this
    · simp only [eL, hc, if_false] at h ⊢
      match j, h with
      | 0, h => simp at h; subst h; simp
      | j + 1, h =>
        simp at h
        have := ih (i + 1) j v h hv
        rw [show i + (j + 1) = i + 1 + j by omega]
        exact List.mem_cons_of_mem _ this
theorem eL_len (ad : Nat → Nat) : ∀ av : List Value, (lg_sl (av.map (pe ad))).length = (eL av).length := by
  intro av
  induction av with
  | nil => rfl
  | cons u r ih =>
    simp only [lg_sl, List.map_cons, List.flatMap_cons, List.length_append, pe_cat] at ih ⊢
    by_cases hc : u.category = 2
    · simp only [eL, hc, if_true, List.length_cons, List.length_nil]
      omega
    · simp only [eL, hc, if_false, List.length_cons, List.length_nil]
      omega
theorem Does.of {Λ : Ly} {l : Launch} {M : MI} {d : Nat} {av : List Value} (L : List Value) {w : Wd} {post : Option Value → Wd → Prop} (hy : plainName M.1.cls = true) (hn : (eL av).length ≤ M.2.2.1) (hL : eL av ++ List.replicate (M.2.2.1 - (eL av).length) jk = L) (hB : Bd Λ l M d 0 L [] w post) : Does Λ l M d av w post := by
  intro E sz
  refine Met.ofW (cc := M.2.1) (maxL := M.2.2.1) (ret := M.2.2.2) hy rfl ?_
  intro p e s m args below meth c s₁ B hml hv
  obtain ⟨rfl, rfl, hP, hK, hD, hXF⟩ := hv
  rw [lg_entry_eq]
  have hl := lv_entry (av.map (pe E.ad)) (n := M.2.2.1) (by rw [eL_len]; exact hn)
  refine hB E p e s m _ below meth c s.heap [] _ ⟨B.exec, B.bytes, B.returns, hml, findClass_of_methodNamed B.named, atoms_spec (ws := Gw M) B.pre, B.notSynchronized, hK, hD, hXF⟩ ⟨hP, va_S.rf⟩ ⟨hl.1, hl.2.1, fun i v hi hv => ?_⟩
  rw [← hL] at hi
  by_cases hlt : i < (eL av).length
  · rw [List.getElem?_append_left hlt] at hi
    have := hl.2.2 _ (eL_lg E.ad av 0 i v hi hv)
    simpa using this
  · rw [List.getElem?_append_right (by omega)] at hi
    have := List.mem_of_getElem? hi
    exact absurd (List.eq_of_mem_replicate this) hv
