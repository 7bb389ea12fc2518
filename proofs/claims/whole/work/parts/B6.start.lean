/-! ===== the start: what both hold behind their constructors ===== -/
def scE : Sg := (fun _ => 0, fun _ _ => 0)
def abE : Ab := ((0, fun _ => 0), (0, -1), scE, fun _ => none, fun _ => none)
theorem rel0 : Rel abE wZ0 := by
  have n0 : (0 : Int32) = nI 0 := nI_0.symm
  have n1 : (-1 : Int32) = mI 1 := by decide
  refine ⟨⟨⟨n0, fun i hi => absurd hi (Nat.not_lt_zero _)⟩, ⟨rfl, rfl⟩, ⟨?_, fun j hj => ?_, fun v hv => absurd hv (Nat.not_lt_zero _), fun v hv => absurd hv (Nat.not_lt_zero _)⟩, fun k hk => ?_, fun q hq => ?_, ⟨0, Nat.zero_le _, n0, fun n h1 h2 => by omega⟩, ⟨Or.inl ⟨rfl, rfl⟩, Or.inl ⟨rfl, rfl⟩, fun j => ?_⟩⟩, ⟨⟨n0, fun i hi => absurd hi (Nat.not_lt_zero _)⟩, ⟨rfl, rfl⟩, ⟨⟨n0, n0, fun v hv => absurd hv (Nat.not_lt_zero _)⟩, n0, n0, n0, n0, fun v hv => absurd hv (Nat.not_lt_zero _)⟩, fun k hk => ?_, fun q hq => ?_, n1⟩, ⟨Nat.zero_le _, fun i hi => absurd hi (Nat.not_lt_zero _), ⟨Nat.zero_le _, by decide, Nat.zero_le _, Nat.zero_le _, by decide, Nat.zero_le _, fun v hv => absurd hv (Nat.not_lt_zero _), fun v hv => absurd hv (Nat.not_lt_zero _)⟩, fun k sc hk h => (by cases h), fun q o hq h => (by cases h)⟩⟩
  · unfold SC
    omega
  · match j, hj with
    | 0, _ => exact n0
    | 1, _ => exact n0
    | 2, _ => exact n0
    | 3, _ => exact n0
    | 4, _ => exact n0
    | 5, _ => exact n0
    | j + 6, hj => omega
  · exact n0
  · match q, hq with
    | 0, _ => exact n1
    | 1, _ => exact n1
    | 2, _ => exact n1
    | 3, _ => exact n1
    | q + 4, hq => omega
  · show rgC (match j with | 3 => 59 | 4 => 60 | 7 => 61 | 8 => 62 | _ => 0)
    split <;> exact Or.inl (by decide)
  · exact n0
  · match q, hq with
    | 0, _ => exact n1
    | 1, _ => exact n1
    | 2, _ => exact n1
    | 3, _ => exact n1
    | q + 4, hq => omega
theorem GG_tbl {w : Cond} (h : w ∈ GG) : w ∈ lw_tbl := (List.mem_filter.mp h).1
theorem li_all : ∀ ci, ci < 7 → Cond.instantiable (Rz ci) (nfZ ci) ∈ lw_tbl := by decide +kernel
/-- the tables' classes -/
theorem st_K {s : State} {args : Array Value} (hts : ∀ w ∈ lw_tbl, w.before args s = true) : ∃ (D : va_G) (tc : Nat → ClassId), ∀ (z : Nat) (aK aV : Nat → Nat), va_K (EZ D tc z aK aV).D clz (tyE (EZ D tc z aK aV)) s := by
  have h0 : ∀ ci : Nat, ∃ q : ClassId × (Nat → Nat), ci < 7 → u_Kn s (Rz ci) (Tz ci) (nfZ ci) q.1 q.2 := by
    intro ci
    by_cases h : ci < 7
    · obtain ⟨a, b, hk⟩ := u_known (C := Rz ci) (T := Tz ci) (N := nfZ ci) (n := nfZ ci) hts (fun w hw => GG_tbl (cz_in h w hw)) (hts _ (li_all ci h))
      exact ⟨(a, b), fun _ => hk⟩
    · exact ⟨(0, fun _ => 0), fun q => absurd q h⟩
  obtain ⟨f, hf⟩ := Classical.axiomOfChoice h0
  have arr : ∀ ty : FieldType, (Cond.arrayClass ty).before args s = true → ∃ cA : ClassId, s.vm.findClass ("[" ++ ty.toString) = some cA ∧ ArrOfT s cA ty := by
    intro ty h
    obtain ⟨cA, kA, comp, h1, h2, h3⟩ := Cond.arrayClass_spec h
    exact ⟨cA, h1, fun n z => ⟨fun k h => (by cases h), kA, h2, comp, h3⟩⟩
  obtain ⟨c0, a0, b0⟩ := arr .int (hts _ (GG_tbl na_int))
  obtain ⟨c1, a1, b1⟩ := arr .long (hts _ (GG_tbl na_long))
  obtain ⟨c2, a2, b2⟩ := arr .byte (hts _ (GG_tbl na_byte))
  obtain ⟨c3, a3, b3⟩ := arr .boolean (hts _ (GG_tbl na_boolean))
  obtain ⟨k4, c4, q4, f1, f2, f3, f4, f5⟩ := arrayOverA_spec (t := .long) (hts (Cond.arrayOver (.array .long)) (List.mem_of_getElem? (i := 231) (by decide +kernel)))
  obtain ⟨k5, c5, q5, g1, g2, g3, g4, g5⟩ := Cond.arrayOver_spec (hts (Cond.arrayOver (.object "SlatePlay$School")) (List.mem_of_getElem? (i := 223) (by decide +kernel)))
  refine ⟨(fun ci => (f ci).1, fun ci => (f ci).2), fun t => match t with | 0 => c0 | 1 => c1 | 2 => c2 | 3 => c3 | 4 => c4 | _ => c5, fun z aK aV => ⟨fun ci q hq => ?_, fun t q hq => ?_⟩⟩
  · have hl : ci < 7 := (List.getElem?_eq_some_iff.mp hq).1
    rw [cz_at hl] at hq
    cases hq
    exact hf ci hl
  · have hl : t < 6 := (List.getElem?_eq_some_iff.mp hq).1
    match t, hl, hq with
    | 0, _, hq => cases hq; exact ⟨b0, a0⟩
    | 1, _, hq => cases hq; exact ⟨b1, a1⟩
    | 2, _, hq => cases hq; exact ⟨b2, a2⟩
    | 3, _, hq => cases hq; exact ⟨b3, a3⟩
    | 4, _, hq => cases hq; exact ⟨fun n z => ⟨fun k h => (by cases h), q4, f3, k4, f4⟩, f5⟩
    | 5, _, hq => cases hq; exact ⟨fun n z => ⟨fun k h => (by cases h), q5, g3, k5, g4⟩, q5, k5, g3, g4, g1, g5⟩
    | t + 6, hl, _ => omega
theorem st_FN {s : State} {args : Array Value} (hts : ∀ w ∈ lw_tbl, w.before args s = true) : FN s := by
  refine ⟨va_AO.of (hts (Cond.arrayOver (.object "SlatePlay$School")) (List.mem_of_getElem? (i := 223) (by decide +kernel))), hts (Cond.arrayOver (.array .long)) (List.mem_of_getElem? (i := 231) (by decide +kernel)), hts (.methodLinkNest RX5 34 yX2_init "SlatePlay") (List.mem_of_getElem? (i := 159) (by decide +kernel)), hts (.methodLinkNest RX5 68 yX0_init "SlatePlay") (List.mem_of_getElem? (i := 288) (by decide +kernel))⟩
abbrev nar : Cond := Jvm.Cond.and given_1 narrow_1
def tmK (i : Nat) : Term := .string RX1 (skI.getD i 0)
theorem nr_ex : ∀ i, i < 8 → Cond.exactly (tmK i) "java/lang/String" ∈ flatC nar := by decide +kernel
theorem nr_co : ∀ i, i < 8 → Cond.eq (.field (tmK i) "java/lang/String" "coder" "B") (.int 0) ∈ flatC nar := by decide +kernel
theorem nr_ar : ∀ i, i < 8 → Cond.arrayOf (.field (tmK i) "java/lang/String" "value" "[B") .byte ∈ flatC nar := by decide +kernel
theorem nr_le : ∀ i, i < 8 → Cond.eq (.length (.field (tmK i) "java/lang/String" "value" "[B")) (.int (Int32.ofNat (skN.getD i 0))) ∈ flatC nar := by decide +kernel
theorem nr_el : ∀ i, i < 8 → ∀ j, j < skN.getD i 0 → Cond.eq (.elem (.field (tmK i) "java/lang/String" "value" "[B") (.int (Int32.ofNat j))) (.int ((skB.getD i []).getD j 0)) ∈ flatC nar := by decide +kernel
theorem nr_ne : ∀ i, i < 8 → ∀ j, j < 8 → i ≠ j → (Cond.not (Cond.eq (tmK i) (tmK j)) ∈ flatC nar ∨ Cond.not (Cond.eq (tmK j) (tmK i)) ∈ flatC nar) := by decide +kernel
theorem nr_cs : Cond.eq (.static "java/lang/String" "COMPACT_STRINGS" "Z") (.int 1) ∈ flatC nar := by decide +kernel
theorem nr_fm : Cond.isRef (.static "jdk/internal/util/Preconditions" "SIOOBE_FORMATTER" "Ljava/util/function/BiFunction;") ∈ flatC nar := by decide +kernel
theorem sk_ref : ∀ i, i < 8 → Cond.stringRef RX1 (skI.getD i 0) (skT.getD i "") ∈ lw_tbl := by decide +kernel
/-- what stands beside the world at the law's entry -/
theorem st_XF {s : State} {args : Array Value} (hts : ∀ w ∈ lw_tbl, w.before args s = true) (hn : nar.before args s = true) : ∃ aK aV : Nat → Nat, ∀ (D : va_G) (tc : Nat → ClassId), XF ΛZ (EZ D tc s.heap.size aK aV) s s.heap := by
  have hs := flat_of_before _ hn
  have hA : ∀ (D : va_G) (tc : Nat → ClassId) (aK aV : Nat → Nat) (a : Nat), a < s.heap.size → ¬ AA ΛZ (EZ D tc s.heap.size aK aV) s.heap.size a := by
    intro D tc aK aV a ha h
    rcases h with ⟨k, hk, rfl⟩ | h
    · have e : (EZ D tc s.heap.size aK aV).ad k = s.heap.size + alZ k := if_pos hk
      rw [e] at ha
      omega
    · omega
  obtain ⟨aK, aV, hS, hT⟩ := vk_Sof (A := fun q => s.heap.size ≤ q) (N := 8) (tm := tmK) (len := skN) (byt := skB) sk_lt (fun i hi => hs _ (nr_ex i hi)) (fun i hi => hs _ (nr_co i hi)) (fun i hi => hs _ (nr_ar i hi)) (fun i hi => hs _ (nr_le i hi)) (fun i hi j hj => hs _ (nr_el i hi j hj)) (fun i j hi hj hij => (nr_ne i hi j hj hij).imp (fun h => hs _ h) (fun h => hs _ h)) (fun a ha h => by omega)
  refine ⟨aK, aV, fun D tc => ⟨hts (.methodLinkNest RX5 312 yX0_powerMoves "SlatePlay") (List.mem_of_getElem? (i := 967) (by decide +kernel)), hts (.methodLinkNest RX5 315 yX0_powerSlates "SlatePlay") (List.mem_of_getElem? (i := 979) (by decide +kernel)), fun i hi => ?_, ?_, va_Zof (hts (.laysStatic "java/lang/String" "COMPACT_STRINGS" "Z") (List.mem_of_getElem? (i := 396) (by decide +kernel))) (hts (.initialized "java/lang/String") (List.mem_of_getElem? (i := 112) (by decide +kernel))) (va_eqt (hs _ nr_cs)) (hA D tc aK aV), va_Zqof (hts (.laysStatic "jdk/internal/util/Preconditions" "SIOOBE_FORMATTER" "Ljava/util/function/BiFunction;") (List.mem_of_getElem? (i := 412) (by decide +kernel))) (hts (.initialized "jdk/internal/util/Preconditions") (List.mem_of_getElem? (i := 114) (by decide +kernel))) (hs _ nr_fm) (hA D tc aK aV)⟩⟩
  · have e : (EZ D tc s.heap.size aK aV).ad (1000 + i) = aK i := by
      show (if 1000 + i < 290 then _ else if 1000 + i < 1100 then aK (1000 + i - 1000) else _) = aK i
      rw [if_neg (by omega), if_pos (by omega), show 1000 + i - 1000 = i by omega]
    rw [e]
    exact vk_R.of (hts _ (sk_ref i hi)) (hT i hi)
  · have e1 : ∀ i, i < 8 → (EZ D tc s.heap.size aK aV).ad (1000 + i) = aK i := fun i hi => by
      show (if 1000 + i < 290 then _ else if 1000 + i < 1100 then aK (1000 + i - 1000) else _) = aK i
      rw [if_neg (by omega), if_pos (by omega), show 1000 + i - 1000 = i by omega]
    have e2 : ∀ i, i < 8 → (EZ D tc s.heap.size aK aV).ad (1100 + i) = aV i := fun i hi => by
      show (if 1100 + i < 290 then _ else if 1100 + i < 1100 then _ else aV (1100 + i - 1100)) = aV i
      rw [if_neg (by omega), if_neg (by omega), show 1100 + i - 1100 = i by omega]
    have hS2 := hS.narrow (B := AA ΛZ (EZ D tc s.heap.size aK aV) s.heap.size) (fun q h => by
      rcases h with ⟨k, hk, rfl⟩ | h
      · have e : (EZ D tc s.heap.size aK aV).ad k = s.heap.size + alZ k := if_pos hk
        rw [e]
        omega
      · exact h)
    refine ⟨fun i hi => ?_, fun i j hi hj h => ?_⟩
    · have := hS2.1 i hi
      rw [← e1 i hi, ← e2 i hi] at this
      exact this
    · have h' : (EZ D tc s.heap.size aK aV).ad (1000 + i) = (EZ D tc s.heap.size aK aV).ad (1000 + j) := h
      rw [e1 i hi, e1 j hj] at h'
      exact hS2.2 i j hi hj h'
