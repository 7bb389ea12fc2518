/-! ===== what the class and the reference both hold ===== -/
/-- the TAPE; the latest fault and its place; the SCHOOL; the IMAGES; the SLOTS (width, size, numbers) -/
abbrev Ab : Type := (Nat × (Nat → Int32)) × (Int32 × Int32) × Sg × (Nat → Option Sg) × (Nat → Option (Nat × Nat × (Nat → Int64)))
def Ab.wS (A : Ab) (sc : Sg) : Ab := (A.1, A.2.1, sc, A.2.2.2)
/-! CHAINS, as a table -/
def chBy (T : Nat → Nat → Option Nat) (n s m : Nat) : Option Nat := match T m s, T (n - m) (s - 1), T m (s - 1) with
  | some a, some b, some c => some (a + b + c)
  | _, _, _ => none
def chBest (T : Nat → Nat → Option Nat) (n s : Nat) : Nat → Option Nat
  | 0 => none
  | j + 1 => match chBy T n s (j + 1), chBest T n s j with
    | some x, none => some x
    | some x, some y => if x < y then some x else some y
    | none, b => b
def chW (T : Nat → Nat → Option Nat) (n s : Nat) : Option Nat := if s = 0 then none else if n = 1 then some 1 else chBest T n s (n - 1)
def chT : Nat → Nat → Nat → Option Nat
  | 0 => fun _ _ => none
  | n + 1 => fun a s => if a = n + 1 then chW (chT n) (n + 1) s else chT n a s
def chS (n s : Nat) : Option Nat := chT n n s
def oL (o : Option Nat) : Int64 := match o with
  | some x => lN x
  | none => mL 1
def ChC (w : Wd) : Prop := ∃ kn : Nat, kn ≤ 200 ∧ gF w 63 1 = nI kn ∧ ∀ n, 1 ≤ n → n ≤ kn → ∀ s, s ≤ 14 → gJ w (66 + n) s = oL (chS n s)
/-- the references that move: distances and queue, and their spare ones -/
def Pk (w : Wd) : Prop := ((gP w 3 = 59 ∧ gP w 7 = 61) ∨ (gP w 3 = 61 ∧ gP w 7 = 59)) ∧ ((gP w 4 = 60 ∧ gP w 8 = 62) ∨ (gP w 4 = 62 ∧ gP w 8 = 60)) ∧ wpC (gP w)
def ImC (k : Nat) (o : Option Sg) (w : Wd) : Prop := match o with
  | none => gI w 48 k = nI 0
  | some sc => gI w 48 k = nI 1 ∧ ClS (18 + 9 * k) sc w
def SlC (s : Nat) (o : Option (Nat × Nat × (Nat → Int64))) (w : Wd) : Prop := match o with
  | none => gI w 57 s = mI 1
  | some q => gI w 56 s = nI q.1 ∧ gI w 57 s = nI q.2.1 ∧ ∀ i, i < q.2.1 → gJ w (52 + s) i = q.2.2 i
def ClA (A : Ab) (w : Wd) : Prop := (gF w 45 1 = nI A.1.1 ∧ ∀ i, i < A.1.1 → gI w 46 i = A.1.2 i) ∧ (gF w 45 2 = A.2.1.1 ∧ gF w 45 3 = A.2.1.2) ∧ ClS 0 A.2.2.1 w ∧ (∀ k, k < 3 → ImC k (A.2.2.2.1 k) w) ∧ (∀ s, s < 4 → SlC s (A.2.2.2.2 s) w) ∧ ChC w ∧ Pk w
/-- a whole SCHOOL at the reference's place q -/
def MoQ (q : Nat) (sc : Sg) (w : Wd) : Prop := gI w 273 q = nI (sc.1 0) ∧ gI w 274 q = nI (sc.1 4) ∧ (∀ v, v < sc.1 4 → gI w 276 (42 * q + 3 * v) = nI (sc.2 0 v) ∧ gI w 276 (42 * q + (3 * v + 1)) = nI (sc.2 1 v) ∧ gI w 276 (42 * q + (3 * v + 2)) = (if sc.2 0 v = 0 then mI 1 else nI (sc.2 2 v))) ∧ MoB q sc w
def ImM (k : Nat) (o : Option Sg) (w : Wd) : Prop := match o with
  | none => gI w 278 k = nI 0
  | some sc => gI w 278 k = nI 1 ∧ MoQ (1 + k) sc w
def SlM (s : Nat) (o : Option (Nat × Nat × (Nat → Int64))) (w : Wd) : Prop := match o with
  | none => gI w 268 s = mI 1
  | some q => gI w 268 s = nI q.1 ∧ gI w 269 s = nI q.2.1 ∧ ∀ i, i < q.2.1 → gJ w 270 (60 * s + i) = q.2.2 i
def MoA (A : Ab) (w : Wd) : Prop := (gF w 267 6 = nI A.1.1 ∧ ∀ i, i < A.1.1 → gI w 272 i = A.1.2 i) ∧ (gF w 267 14 = A.2.1.1 ∧ gF w 267 15 = A.2.1.2) ∧ (MoT A.2.2.1 w ∧ MoB 0 A.2.2.1 w) ∧ (∀ k, k < 3 → ImM k (A.2.2.2.1 k) w) ∧ (∀ s, s < 4 → SlM s (A.2.2.2.2 s) w) ∧ gF w 267 28 = mI 1
def GdA (A : Ab) : Prop := A.1.1 ≤ 1600 ∧ (∀ i, i < A.1.1 → i2bI (A.1.2 i) = A.1.2 i) ∧ Gd A.2.2.1 ∧ (∀ k sc, k < 3 → A.2.2.2.1 k = some sc → Gd sc) ∧ (∀ s q, s < 4 → A.2.2.2.2 s = some q → q.1 < 4 ∧ q.2.1 ≤ 60)
def Rel (A : Ab) (w : Wd) : Prop := ClA A w ∧ MoA A w ∧ GdA A
/-! ===== what is kept ===== -/
theorem ClS.fr {k : Nat} {sc : Sg} {w w' : Wd} {B : Nat → Prop} (h : ClS k sc w) (hS : SmO B w w') (hB : ∀ c, k ≤ c → c ≤ k + 8 → ¬ B c) : ClS k sc w' := by
  obtain ⟨h1, h2, h3, h4⟩ := h
  refine ⟨h1, fun j hj => ?_, fun v hv => ?_, fun v hv hs => ?_⟩
  · rw [(hS.1 k (hB k (by omega) (by omega))).1]; exact h2 j hj
  · rw [(hS.1 (k + 1) (hB _ (by omega) (by omega))).2.2.1, (hS.1 (k + 2) (hB _ (by omega) (by omega))).2.2.1, (hS.1 (k + 3) (hB _ (by omega) (by omega))).2.2.1, (hS.1 (k + 4) (hB _ (by omega) (by omega))).2.2.1, (hS.1 (k + 5) (hB _ (by omega) (by omega))).2.2.1, (hS.1 (k + 6) (hB _ (by omega) (by omega))).2.2.1, (hS.1 (k + 7) (hB _ (by omega) (by omega))).2.2.1]
    exact h3 v hv
  · rw [(hS.1 (k + 8) (hB _ (by omega) (by omega))).2.2.1]; exact h4 v hv hs
theorem ImC.fr {k : Nat} {o : Option Sg} {w w' : Wd} {B : Nat → Prop} (h : ImC k o w) (hk : k < 3) (hS : SmO B w w') (h1 : ¬ B 48) (hB : ∀ c, 18 ≤ c → c < 45 → ¬ B c) : ImC k o w' := by
  cases o with
  | none => show gI w' 48 k = nI 0; rw [(hS.1 48 h1).2.2.1]; exact h
  | some sc => exact ⟨by rw [(hS.1 48 h1).2.2.1]; exact h.1, h.2.fr hS (fun c c1 c2 => hB c (by omega) (by omega))⟩
theorem SlC.fr {s : Nat} {o : Option (Nat × Nat × (Nat → Int64))} {w w' : Wd} {B : Nat → Prop} (h : SlC s o w) (hs : s < 4) (hS : SmO B w w') (hB : ∀ c, 52 ≤ c → c < 58 → ¬ B c) : SlC s o w' := by
  cases o with
  | none => show gI w' 57 s = mI 1; rw [(hS.1 57 (hB _ (by omega) (by omega))).2.2.1]; exact h
  | some q => exact ⟨by rw [(hS.1 56 (hB _ (by omega) (by omega))).2.2.1]; exact h.1, by rw [(hS.1 57 (hB _ (by omega) (by omega))).2.2.1]; exact h.2.1, fun i hi => by rw [(hS.1 (52 + s) (hB _ (by omega) (by omega))).2.2.2]; exact h.2.2 i hi⟩
theorem ChC.fr {w w' : Wd} {B : Nat → Prop} (h : ChC w) (hS : SmO B w w') (h1 : ¬ B 63) (hB : ∀ c, 66 ≤ c → c < 267 → ¬ B c) : ChC w' := by
  obtain ⟨kn, a, b, c⟩ := h
  exact ⟨kn, a, by rw [(hS.1 63 h1).1]; exact b, fun n n1 n2 s hs => by rw [(hS.1 (66 + n) (hB _ (by omega) (by omega))).2.2.2]; exact c n n1 n2 s hs⟩
theorem Pk.same {w w' : Wd} (h : Pk w) (e : ∀ j, gP w' j = gP w j) : Pk w' := by
  have e2 : gP w' = gP w := funext e
  unfold Pk
  rw [e2]
  exact h
/-- the class's own scratch: the thought, the reader, the search, the trees -/
def scrC (k : Nat) : Prop := (9 ≤ k ∧ k < 18) ∨ k = 49 ∨ (58 ≤ k ∧ k < 63) ∨ k = 64
theorem ClA.scr {A : Ab} {w w' : Wd} (h : ClA A w) (hS : SmO scrC w w') (hP : Pk w') : ClA A w' := by
  obtain ⟨⟨a1, a2⟩, ⟨b1, b2⟩, c, d, e, f, g⟩ := h
  have n : ∀ c, (c < 9 ∨ (18 ≤ c ∧ c < 49) ∨ (50 ≤ c ∧ c < 58) ∨ c = 63 ∨ 65 ≤ c) → ¬ scrC c := by
    intro c hc hq
    unfold scrC at hq
    omega
  refine ⟨⟨by rw [(hS.1 45 (n _ (by omega))).1]; exact a1, fun i hi => by rw [(hS.1 46 (n _ (by omega))).2.2.1]; exact a2 i hi⟩, ⟨by rw [(hS.1 45 (n _ (by omega))).1]; exact b1, by rw [(hS.1 45 (n _ (by omega))).1]; exact b2⟩, c.fr hS (fun c c1 c2 => n _ (by omega)), fun k hk => (d k hk).fr hk hS (n _ (by omega)) (fun c c1 c2 => n _ (by omega)), fun s hs => (e s hs).fr hs hS (fun c c1 c2 => n _ (by omega)), f.fr hS (n _ (by omega)) (fun c c1 c2 => n _ (by omega)), hP⟩
/-- what the reference does leaves the class as it was -/
theorem ClA.mod {A : Ab} {w w' : Wd} (h : ClA A w) (hS : SmO rgM w w') : ClA A w' := by
  obtain ⟨⟨a1, a2⟩, ⟨b1, b2⟩, c, d, e, f, g⟩ := h
  have n : ∀ c, c < 267 → ¬ rgM c := by
    intro c hc hq
    unfold rgM at hq
    omega
  refine ⟨⟨by rw [(hS.1 45 (n _ (by omega))).1]; exact a1, fun i hi => by rw [(hS.1 46 (n _ (by omega))).2.2.1]; exact a2 i hi⟩, ⟨by rw [(hS.1 45 (n _ (by omega))).1]; exact b1, by rw [(hS.1 45 (n _ (by omega))).1]; exact b2⟩, c.fr hS (fun c c1 c2 => n _ (by omega)), fun k hk => (d k hk).fr hk hS (n _ (by omega)) (fun c c1 c2 => n _ (by omega)), fun s hs => (e s hs).fr hs hS (fun c c1 c2 => n _ (by omega)), f.fr hS (n _ (by omega)) (fun c c1 c2 => n _ (by omega)), g.same (hS.2 (n _ (by omega)))⟩
/-- another SCHOOL, in the cells of the one there is -/
theorem ClA.sch {A : Ab} {w w' : Wd} {sc : Sg} (h : ClA A w) (hS : SmO (fun c => c < 9) w w') (hc : ClS 0 sc w') : ClA (A.wS sc) w' := by
  obtain ⟨⟨a1, a2⟩, ⟨b1, b2⟩, c, d, e, f, g⟩ := h
  refine ⟨⟨by rw [(hS.1 45 (by omega)).1]; exact a1, fun i hi => by rw [(hS.1 46 (by omega)).2.2.1]; exact a2 i hi⟩, ⟨by rw [(hS.1 45 (by omega)).1]; exact b1, by rw [(hS.1 45 (by omega)).1]; exact b2⟩, hc, fun k hk => (d k hk).fr hk hS (by omega) (fun c c1 c2 => by omega), fun s hs => (e s hs).fr hs hS (fun c c1 c2 => by omega), f.fr hS (by omega) (fun c c1 c2 => by omega), g.same (hS.2 (by omega))⟩
/-- what the class does leaves the reference as it was -/
theorem MoA.cls {A : Ab} {w w' : Wd} (h : MoA A w) (hS : SmO rgC w w') : MoA A w' := by
  have n : ∀ c, 267 ≤ c → c < 1000 → ¬ rgC c := by
    intro c h1 h2 hq
    unfold rgC at hq
    omega
  have eF : ∀ j, gF w' 267 j = gF w 267 j := (hS.1 267 (n _ (by omega) (by omega))).1
  have eI : ∀ c, 267 ≤ c → c < 1000 → ∀ j, gI w' c j = gI w c j := fun c h1 h2 => (hS.1 c (n _ h1 h2)).2.2.1
  have eJ : ∀ c, 267 ≤ c → c < 1000 → ∀ j, gJ w' c j = gJ w c j := fun c h1 h2 => (hS.1 c (n _ h1 h2)).2.2.2
  have e268 := eI 268 (by omega) (by omega)
  have e269 := eI 269 (by omega) (by omega)
  have e272 := eI 272 (by omega) (by omega)
  have e273 := eI 273 (by omega) (by omega)
  have e274 := eI 274 (by omega) (by omega)
  have e275 := eI 275 (by omega) (by omega)
  have e276 := eI 276 (by omega) (by omega)
  have e277 := eI 277 (by omega) (by omega)
  have e278 := eI 278 (by omega) (by omega)
  have e270 := eJ 270 (by omega) (by omega)
  unfold MoA at h ⊢
  unfold MoT MoB at h ⊢
  simp only [eF, e272, e273, e274, e275, e276, e277]
  refine ⟨h.1, h.2.1, h.2.2.1, fun k hk => ?_, fun s hs => ?_, h.2.2.2.2.2⟩
  · have h4 := h.2.2.2.1 k hk
    cases hk2 : A.2.2.2.1 k with
    | none => rw [hk2] at h4; show gI w' 278 k = nI 0; rw [e278]; exact h4
    | some sc =>
      rw [hk2] at h4
      unfold ImM MoQ MoB at h4 ⊢
      simp only [e273, e274, e275, e276, e277, e278]
      exact h4
  · have h5 := h.2.2.2.2.1 s hs
    cases hs2 : A.2.2.2.2 s with
    | none => rw [hs2] at h5; show gI w' 268 s = mI 1; rw [e268]; exact h5
    | some q =>
      rw [hs2] at h5
      unfold SlM at h5 ⊢
      simp only [e268, e269, e270]
      exact h5
/-- the reference's own data are kept, but the numbers and slates of its place 0 -/
def MoKeep (w w' : Wd) : Prop := (gF w' 267 6 = gF w 267 6 ∧ gF w' 267 14 = gF w 267 14 ∧ gF w' 267 15 = gF w 267 15 ∧ gF w' 267 28 = gF w 267 28) ∧ (∀ i, gI w' 272 i = gI w 272 i ∧ gI w' 268 i = gI w 268 i ∧ gI w' 269 i = gI w 269 i ∧ gI w' 278 i = gI w 278 i ∧ gJ w' 270 i = gJ w 270 i) ∧ (∀ i, i < 4 → gI w' 273 i = gI w 273 i ∧ gI w' 274 i = gI w 274 i) ∧ (∀ i, i < 168 → gI w' 276 i = gI w 276 i) ∧ (∀ i, 4 ≤ i → i < 16 → gI w' 275 i = gI w 275 i) ∧ (∀ i, 14 ≤ i → i < 56 → gI w' 277 i = gI w 277 i)
theorem MoKeep.rf (w : Wd) : MoKeep w w := ⟨⟨rfl, rfl, rfl, rfl⟩, fun _ => ⟨rfl, rfl, rfl, rfl, rfl⟩, fun _ _ => ⟨rfl, rfl⟩, fun _ _ => rfl, fun _ _ _ => rfl, fun _ _ _ => rfl⟩
theorem MoKeep.tr {w w1 w2 : Wd} (h : MoKeep w w1) (k : MoKeep w1 w2) : MoKeep w w2 := by
  obtain ⟨⟨a1, a2, a3, a4⟩, b, c, d, e, f⟩ := h
  obtain ⟨⟨p1, p2, p3, p4⟩, q, r, s, t, u⟩ := k
  exact ⟨⟨p1.trans a1, p2.trans a2, p3.trans a3, p4.trans a4⟩, fun i => ⟨(q i).1.trans (b i).1, (q i).2.1.trans (b i).2.1, (q i).2.2.1.trans (b i).2.2.1, (q i).2.2.2.1.trans (b i).2.2.2.1, (q i).2.2.2.2.trans (b i).2.2.2.2⟩, fun i hi => ⟨(r i hi).1.trans (c i hi).1, (r i hi).2.trans (c i hi).2⟩, fun i hi => (s i hi).trans (d i hi), fun i h1 h2 => (t i h1 h2).trans (e i h1 h2), fun i h1 h2 => (u i h1 h2).trans (f i h1 h2)⟩
theorem MoKeep.sF (w : Wd) (j : Nat) (x : Int32) (h : j ≠ 6 ∧ j ≠ 14 ∧ j ≠ 15 ∧ j ≠ 28) : MoKeep w (sF w 267 j x) := by
  refine ⟨⟨?_, ?_, ?_, ?_⟩, fun _ => ⟨rfl, rfl, rfl, rfl, rfl⟩, fun _ _ => ⟨rfl, rfl⟩, fun _ _ => rfl, fun _ _ _ => rfl, fun _ _ _ => rfl⟩ <;> (rw [gF_sF, if_neg (by omega)])
theorem MoKeep.sG (w : Wd) (k j : Nat) (x : Int64) : MoKeep w (sG w k j x) := ⟨⟨rfl, rfl, rfl, rfl⟩, fun _ => ⟨rfl, rfl, rfl, rfl, rfl⟩, fun _ _ => ⟨rfl, rfl⟩, fun _ _ => rfl, fun _ _ _ => rfl, fun _ _ _ => rfl⟩
/-- the reference's scratch rows -/
theorem MoKeep.sR (w : Wd) (c : Nat) (f : Nat → Int32) (h : 279 ≤ c) : MoKeep w (sR w c f) := by
  refine ⟨⟨rfl, rfl, rfl, rfl⟩, fun i => ⟨?_, ?_, ?_, ?_, rfl⟩, fun i _ => ⟨?_, ?_⟩, fun i _ => ?_, fun i _ _ => ?_, fun i _ _ => ?_⟩ <;> (rw [gI_sR, if_neg (by omega)])
theorem MoKeep.sI (w : Wd) (c i : Nat) (x : Int32) (h : 279 ≤ c ∨ (c = 275 ∧ (i < 4 ∨ 16 ≤ i)) ∨ (c = 277 ∧ (i < 14 ∨ 56 ≤ i)) ∨ ((c = 273 ∨ c = 274) ∧ 4 ≤ i) ∨ (c = 276 ∧ 168 ≤ i)) : MoKeep w (sI w c i x) := by
  refine ⟨⟨rfl, rfl, rfl, rfl⟩, fun i => ⟨?_, ?_, ?_, ?_, rfl⟩, fun i _ => ⟨?_, ?_⟩, fun i _ => ?_, fun i _ _ => ?_, fun i _ _ => ?_⟩ <;> (rw [gI_sI, if_neg (by omega)])
theorem MoKeep.sJ (w : Wd) (c i : Nat) (x : Int64) (h : c ≠ 270) : MoKeep w (sJ w c i x) := by
  refine ⟨⟨rfl, rfl, rfl, rfl⟩, fun i => ⟨rfl, rfl, rfl, rfl, ?_⟩, fun i _ => ⟨rfl, rfl⟩, fun i _ => rfl, fun i _ _ => rfl, fun i _ _ => rfl⟩
  rw [gJ_sJ, if_neg (by omega)]
theorem MoB.fr {q : Nat} {sc : Sg} {w w' : Wd} (h : MoB q sc w) (h1 : ∀ j, j < 4 → gI w' 275 (4 * q + j) = gI w 275 (4 * q + j)) (h2 : ∀ v, v < sc.1 4 → gI w' 277 (14 * q + v) = gI w 277 (14 * q + v)) : MoB q sc w' := by
  obtain ⟨a, b, c, d, e⟩ := h
  exact ⟨(h1 0 (by omega)).trans a, (h1 1 (by omega)).trans b, (h1 2 (by omega)).trans c, (h1 3 (by omega)).trans d, fun v hv hs => (h2 v hv).trans (e v hv hs)⟩
theorem MoA.keep {A : Ab} {w w' : Wd} {sc : Sg} (h : MoA A w) (g : GdA A) (k : MoKeep w w') (hT : MoT sc w') (hB : MoB 0 sc w') : MoA (A.wS sc) w' := by
  obtain ⟨⟨a1, a2⟩, ⟨b1, b2⟩, c, d, e, f⟩ := h
  obtain ⟨⟨k1, k2, k3, k4⟩, k5, k6, k7, k8, k9⟩ := k
  refine ⟨⟨k1.trans a1, fun i hi => ((k5 i).1).trans (a2 i hi)⟩, ⟨k2.trans b1, k3.trans b2⟩, ⟨hT, hB⟩, fun j hj => ?_, fun s hs => ?_, k4.trans f⟩
  · have h4 := d j hj
    show ImM j (A.2.2.2.1 j) w'
    cases hk2 : A.2.2.2.1 j with
    | none => rw [hk2] at h4; exact ((k5 j).2.2.2.1).trans h4
    | some s =>
      rw [hk2] at h4
      have h14 := (g.2.2.2.1 j s hj hk2).1
      obtain ⟨p, q1, q2, q3, q4⟩ := h4
      refine ⟨((k5 j).2.2.2.1).trans p, (k6 _ (by omega)).1.trans q1, (k6 _ (by omega)).2.trans q2, fun v hv => ?_, q4.fr (fun i hi => k8 _ (by omega) (by omega)) (fun v hv => k9 _ (by omega) (by omega))⟩
      have := q3 v hv
      exact ⟨(k7 _ (by omega)).trans this.1, (k7 _ (by omega)).trans this.2.1, (k7 _ (by omega)).trans this.2.2⟩
  · have h5 := e s hs
    show SlM s (A.2.2.2.2 s) w'
    cases hs2 : A.2.2.2.2 s with
    | none => rw [hs2] at h5; exact ((k5 s).2.1).trans h5
    | some q =>
      rw [hs2] at h5
      obtain ⟨p1, p2, p3⟩ := h5
      exact ⟨((k5 s).2.1).trans p1, ((k5 s).2.2.1).trans p2, fun i hi => ((k5 _).2.2.2.2).trans (p3 i hi)⟩
theorem wS_self (A : Ab) : A.wS A.2.2.1 = A := rfl
/-- a call that both answer alike, and what they hold behind it -/
def Pair (mc mm : Nat) (as : List Value) (A : Ab) (w : Wd) : Prop := ∃ (r : Value) (w1 w2 : Wd) (A' : Ab), zE mc (.ref 45 :: as) w = some (some r, w1) ∧ zE mm (.ref 267 :: as) w1 = some (some r, w2) ∧ Rel A' w2
theorem Pair.of {mc mm : Nat} {as : List Value} {A A' : Ab} {w w1 w2 : Wd} {r : Value} (hm : ∀ v ∈ as, okV (fun _ => False) v) (hR : ClA A w) (hP : wpC (gP w)) (h1 : zE mc (.ref 45 :: as) w = some (some r, w1)) (hC : ClA A' w1) (h2 : zE mm (.ref 267 :: as) w1 = some (some r, w2)) (hM : MoA A' w2) (hG : GdA A') : Pair mc mm as A w := by
  refine ⟨r, w1, w2, A', h1, h2, hC.mod ?_, hM, hG⟩
  have hok : okS rgM (.ref 267 :: as) := by
    refine ⟨Nat.le_refl 267, ?_⟩
    clear h1 h2
    induction as with
    | nil => trivial
    | cons v r ih =>
      refine ⟨?_, ih (fun v hv => hm v (List.mem_cons_of_mem _ hv))⟩
      have := hm v List.mem_cons_self
      cases v <;> first | trivial | exact this.elim
  exact (zE_fr cl_M h2 hok trivial).1
