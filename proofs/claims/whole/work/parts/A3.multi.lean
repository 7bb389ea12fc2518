/-! ===== multianewarray of two dimensions ===== -/
def mu_f (a i : Nat) : Nat → Value := fun j => if j < i then .ref (a + 1 + j) else .null
def mu_st (cA cB : ClassId) (N K : Nat) (T : State) : Nat → State
  | 0 => T.pushCell (arrV cA N (mu_f T.heap.size 0))
  | i + 1 => ((mu_st cA cB N K T i).pushCell (arrV cB K (fun _ => .long 0))).setCell T.heap.size (arrV cA N (mu_f T.heap.size (i + 1)))
theorem mu_set (cA : ClassId) (N a i : Nat) : (arrV cA N (mu_f a i)).setSlot i (.ref (a + 1 + i)) = arrV cA N (mu_f a (i + 1)) := by
  rw [arrV_store]
  congr 1
  funext j
  unfold updV mu_f
  by_cases h : j = i
  · subst h
    rw [if_pos rfl, if_pos (by omega)]
  · rw [if_neg h]
    by_cases h2 : j < i
    · rw [if_pos h2, if_pos (by omega)]
    · rw [if_neg h2, if_neg (by omega)]
theorem mu_at (T : State) (x : Cell) : (T.pushCell x).heap[T.heap.size]? = some x := by
  show (T.heap.push x)[T.heap.size]? = some x
  rw [Array.getElem?_push, if_pos rfl]
theorem mu_old (T : State) (x : Cell) {q : Nat} (h : q < T.heap.size) : (T.pushCell x).heap[q]? = T.heap[q]? := by
  show (T.heap.push x)[q]? = _
  rw [Array.getElem?_push, if_neg (by omega)]
theorem mu_self (T : State) (a : Nat) (x : Cell) (h : a < T.heap.size) : (T.setCell a x).heap[a]? = some x := by
  show (T.heap.setIfInBounds a x)[a]? = some x
  simp [h]
theorem mu_ne (T : State) {a q : Nat} (x : Cell) (h : q ≠ a) : (T.setCell a x).heap[q]? = T.heap[q]? := by
  show (T.heap.setIfInBounds a x)[q]? = _
  simp [Array.getElem?_setIfInBounds, Ne.symm h]
section MU
variable {p : Program} {l : Launch} {e : Env} {R : Room} {s : State} {m : MethodId} {args : Array Value} {below : List Frame} {meth : Method} {c : Code} {T : State} {locs : List Loc} {cells slots : Nat}
theorem mu_ok (cA cB : ClassId) (N K : Nat) (X : Stand p l e R s m args below meth c T locs cells slots) : ∀ i : Nat, ∃ L : List Loc, (∀ q ∈ L, q.base = T.heap.size) ∧ Stand p l e R s m args below meth c (mu_st cA cB N K T i) (locs ++ L) (cells + 1 + i) (slots + N + i * K) ∧ (mu_st cA cB N K T i).heap.size = T.heap.size + 1 + i ∧ (mu_st cA cB N K T i).heap[T.heap.size]? = some (arrV cA N (mu_f T.heap.size i)) ∧ (∀ q, q < T.heap.size → (mu_st cA cB N K T i).heap[q]? = T.heap[q]?) ∧ (∀ j, j < i → (mu_st cA cB N K T i).heap[T.heap.size + 1 + j]? = some (arrV cB K (fun _ => .long 0))) ∧ (mu_st cA cB N K T i).vm = T.vm := by
  intro i
  induction i with
  | zero =>
    refine ⟨[], fun q hq => (by cases hq), ?_, ?_, mu_at _ _, fun q hq => mu_old _ _ hq, fun j hj => absurd hj (Nat.not_lt_zero _), rfl⟩
    · have h := X.pushed (arrV cA N (mu_f T.heap.size 0))
      rw [arrV_size] at h
      simpa [mu_st] using h
    · show (T.heap.push _).size = _
      simp
  | succ i ih =>
    obtain ⟨L, h1, h2, h3, h4, h5, h6, h7⟩ := ih
    generalize hU : mu_st cA cB N K T i = U at h2 h3 h4 h5 h6 h7
    have hlt : T.heap.size < U.heap.size := by omega
    have ha : (U.pushCell (arrV cB K (fun _ => .long 0))).heap[T.heap.size]? = some (arrV cA N (mu_f T.heap.size i)) := by
      rw [mu_old _ _ hlt]
      exact h4
    have hz : (U.pushCell (arrV cB K (fun _ => .long 0))).heap.size = T.heap.size + 1 + i + 1 := by
      show (U.heap.push _).size = _
      rw [Array.size_push, h3]
    have e : mu_st cA cB N K T (i + 1) = (U.pushCell (arrV cB K (fun _ => .long 0))).setCell T.heap.size (arrV cA N (mu_f T.heap.size (i + 1))) := by
      rw [← hU]
      rfl
    rw [e]
    have hX := (h2.pushed (arrV cB K (fun _ => .long 0))).stored ha i (.ref (T.heap.size + 1 + i))
    rw [mu_set, arrV_size, List.append_assoc] at hX
    refine ⟨L ++ [⟨T.heap.size, i⟩], fun q hq => ?_, ?_, ?_, mu_self _ _ _ (by omega), fun q hq => ?_, fun j hj => ?_, h7⟩
    · rcases List.mem_append.mp hq with h | h
      · exact h1 q h
      · rw [List.mem_singleton] at h
        rw [h]
    · have e2 : slots + N + (i + 1) * K = slots + N + i * K + K := by rw [Nat.succ_mul]; omega
      rw [e2]
      exact hX
    · rw [size_setCell, hz]
      omega
    · rw [mu_ne _ _ (by omega), mu_old _ _ (by omega)]
      exact h5 q hq
    · rw [mu_ne _ _ (by omega)]
      by_cases hj2 : j < i
      · rw [mu_old _ _ (by omega)]
        exact h6 j hj2
      · have e3 : T.heap.size + 1 + j = U.heap.size := by omega
        rw [e3]
        exact mu_at _ _
end MU
section MU2
variable {E : CtlPost} {e : Env} {d : Bool} {acts : List Action} {s : State}
theorem mu_m1 {cB cC : ClassId} {kB : Class} {k : Int32} {K : Nat} (hkB : s.vm.classes[cB]? = some kB) (hkd : kB.kind = .array cC .long) (hk : ¬ k < 0) (hK : k.toNatClampNeg = K) (hl : ¬ K > e.platform.arrayLengthLimit) (hh : ¬ K * 8 > e.platform.maxHeapBytes) (hc : s.heap.size < e.platform.maxCells) (hs : s.slotsUsed + K ≤ e.platform.maxSlots) {Q : Addr → Pre} (hq : ∀ acts', Q s.heap.size d acts' (s.pushCell (arrV cB K (fun _ => .long 0)))) : wp (Op.multianewarray.make cB [k]) Q E e d acts s := by
  subst hK
  rw [Op.multianewarray.make]
  simp only [wp_bind', W.ite, hk, if_false, wp_pure', W.theClass, hkB, hkd, Option.some.injEq, exists_eq_left']
  refine W.newArray_of hkB hkd hl hh hc hs rfl (fun acts' => ?_)
  have := hq acts'
  rw [← arrV_new] at this
  exact this
theorem mu_fit {cA cB : ClassId} {kA : Class} (hkA : s.vm.classes[cA]? = some kA) (hkd : kA.kind = .array cB (.array .long)) (i : Nat) (v : Value) (hv : v = .null ∨ ∃ a, v = .ref a) : s.fitsSlot cA .none i v = true := by
  rcases hv with rfl | ⟨a, rfl⟩ <;> simp [State.fitsSlot, State.slotType?, hkA, hkd, fits]
end MU2
section MU3
variable {E : CtlPost} {e : Env} {d : Bool} {acts : List Action} {T : State}
theorem mu_m2 {cA cB cC : ClassId} {kA kB : Class} {n k : Int32} {N K : Nat} {f : JFrame} (hkA : T.vm.classes[cA]? = some kA) (hkdA : kA.kind = .array cB (.array .long)) (hkB : T.vm.classes[cB]? = some kB) (hkdB : kB.kind = .array cC .long) (hn : ¬ n < 0) (hk : ¬ k < 0) (hN : n.toNatClampNeg = N) (hK : k.toNatClampNeg = K) (hz : (n == 0) = false)
    (hl1 : ¬ N > e.platform.arrayLengthLimit) (hh1 : ¬ N * 4 > e.platform.maxHeapBytes) (hl2 : ¬ K > e.platform.arrayLengthLimit) (hh2 : ¬ K * 8 > e.platform.maxHeapBytes) (h0 : T.heap.size < e.platform.maxCells ∧ T.slotsUsed + N ≤ e.platform.maxSlots)
    (hr : ∀ i, i < N → (mu_st cA cB N K T i).heap.size < e.platform.maxCells ∧ (mu_st cA cB N K T i).slotsUsed + K ≤ e.platform.maxSlots)
    (hf : ∀ i, (mu_st cA cB N K T i).heap.size = T.heap.size + 1 + i ∧ (mu_st cA cB N K T i).heap[T.heap.size]? = some (arrV cA N (mu_f T.heap.size i)) ∧ (mu_st cA cB N K T i).vm = T.vm)
    {Q : Addr → Pre} (hq : ∀ d' acts', Q T.heap.size d' acts' ((mu_st cA cB N K T N).setTop f)) : wp (Op.multianewarray.make cA [n, k]) Q E e d acts (T.setTop f) := by
  rw [Op.multianewarray.make]
  simp only [wp_bind', W.ite, hn, if_false, wp_pure', W.theClass, State.vm_setTop, hkA, hkdA, Option.some.injEq, exists_eq_left', hN]
  refine W.newArray_of (s := T.setTop f) hkA hkdA hl1 hh1 h0.1 h0.2 rfl (fun acts' => ?_)
  simp only [hz, Bool.false_eq_true, if_false, wp_bind', wp_pure']
  rw [Std.Legacy.Range.forIn_eq_forIn_range']
  have hsz : ([:N] : Std.Legacy.Range).size = N := by simp [Std.Legacy.Range.size]
  rw [hsz]
  show wp (forIn (List.range' 0 N 1) PUnit.unit _) _ E e d acts' _
  refine wp_forIn_inv (fun rest s' => ∃ i, i ≤ N ∧ rest = List.range' i (N - i) ∧ s' = (mu_st cA cB N K T i).setTop f) _ _ ⟨0, Nat.zero_le _, rfl, ?_⟩ ?_ ?_
  · show (T.setTop f).pushCell _ = _
    rw [arrV_new, State.pushCell_setTop]
    rfl
  · rintro x rest s' d' acts2 Q' ⟨i, hi, hl, rfl⟩ hnext
    have hlt : i < N := by
      rcases Nat.lt_or_ge i N with h | h
      · exact h
      · rw [show N - i = 0 from by omega] at hl
        simp at hl
    rw [show N - i = (N - (i + 1)) + 1 from by omega, List.range'_succ] at hl
    obtain ⟨rfl, hrest⟩ := List.cons.inj hl
    obtain ⟨f1, f2, f3⟩ := hf x
    obtain ⟨g1, g2⟩ := hr x hlt
    simp only [wp_bind']
    refine mu_m1 (s := (mu_st cA cB N K T x).setTop f) (by rw [State.vm_setTop, f3]; exact hkB) hkdB hk hK hl2 hh2 g1 g2 (fun acts3 => ?_)
    simp only [wp_bind', W.writeLoc, wp_pure']
    have hlt0 : T.heap.size < (mu_st cA cB N K T x).heap.size := by omega
    refine ⟨arrV cA N (mu_f T.heap.size x), ?_, (by intro h; cases h), (by rw [arrV_size]; exact hlt), ?_, hnext _ _ _ ⟨x + 1, hlt, hrest, ?_⟩⟩
    · rw [State.pushCell_setTop, State.heap_setTop, State.heap_setTop, mu_old _ _ hlt0]
      exact f2
    · exact mu_fit (s := ((mu_st cA cB N K T x).setTop f).pushCell _) (by show (mu_st cA cB N K T x).vm.classes[cA]? = some kA; rw [f3]; exact hkA) hkdA x _ (Or.inr ⟨_, rfl⟩)
    · rw [State.pushCell_setTop, State.setCell_setTop, State.heap_setTop, State.heap_setTop, f1, mu_set]
      rfl
  · rintro s' d' acts2 ⟨i, hi, hl, rfl⟩
    have hiN : i = N := by
      rcases Nat.lt_or_ge i N with h | h
      · rw [show N - i = (N - (i + 1)) + 1 from by omega, List.range'_succ] at hl
        cases hl
      · omega
    subst hiN
    simp only [wp_pure']
    exact hq _ _
end MU3
theorem mu_str : "[" ++ (FieldType.array .long).toString = "[[J" := by decide +kernel
theorem mu_str1 : (FieldType.array .long).toString = "[J" := by decide +kernel
section MU4
variable {p : Program} {l : Launch} {e : Env} {R : Room} {s : State} {m : MethodId} {args : Array Value} {below : List Frame} {meth : Method} {c : Code} {H : Heap} {locs : List Loc} {cells slots : Nat} {Q : State → Prop} {pc : Nat} {ls : Array Slot} {rest : List Value}
set_option maxHeartbeats 4000000 in
theorem mu_W {cc : ByteArray} (hexec : p.tables.exec = Jvm.exec) (hb : c.code = cc) {own : String} {index : Nat} (hown : s.vm.findClass own = some m.cls) (hclink : (Cond.classLink own index "[[J").before args s = true) (hover : (Cond.arrayOver (.array .long)).before args s = true) {cB cC : ClassId} {kB : Class} (hcB : s.vm.findClass "[J" = some cB) (hkB : s.vm.classes[cB]? = some kB) (hkdB : kB.kind = .array cC .long)
    {n k : Int32} {N K : Nat} (hn : ¬ n < 0) (hk : ¬ k < 0) (hN : n.toNatClampNeg = N) (hK : k.toNatClampNeg = K) (hz : (n == 0) = false) (hNb : N ≤ 1000) (hKb : K ≤ 1000) (hcells : cells + (N + 1) ≤ R.cells) (hslots : slots + (N + N * K) ≤ R.slots) (hdg : decode cc pc = .ok (.multianewarray index 2, 4))
    (kk : ∀ (cA : ClassId) (kA : Class) (H1 : Heap) (L : List Loc), s.vm.findClass "[[J" = some cA → s.vm.classes[cA]? = some kA → kA.kind = .array cB (.array .long) → (∀ q ∈ L, q.base = H.size) → H1.size = H.size + 1 + N → H1[H.size]? = some (arrV cA N (mu_f H.size N)) → (∀ q, q < H.size → H1[q]? = H[q]?) → (∀ j, j < N → H1[H.size + 1 + j]? = some (arrV cB K (fun _ => .long 0))) →
      W p l e R s m args below meth c H1 (locs ++ L) (cells + 1 + N) (slots + N + N * K) Q (F0 m (pc + 4) ls (.ref H.size :: rest))) : W p l e R s m args below meth c H locs cells slots Q (F0 m pc ls (.int k :: .int n :: rest)) := by
  intro T hT X
  subst hT
  subst hb
  have hpl : e.platform.magicAccessors = ({} : Platform).magicAccessors := by rw [X.admits.platform]
  obtain ⟨comp, cA, kA, hcomp, hidx, hkA, hkindA, hnameA⟩ := arrayOverA_spec hover
  rw [mu_str1] at hcomp
  rw [mu_str] at hnameA
  cases hcomp.symm.trans hcB
  obtain ⟨cc', hfcc, hcl⟩ := Cond.classLink_spec hown hclink e.platform hpl
  cases hnameA.symm.trans hfcc
  obtain ⟨hg₁, hwarm₁, hready₁⟩ := State.classEntry (e := e) X.warmed hcl
  generalize T.vm.noted m.cls index (.cls cA) = vm₁ at hg₁ hwarm₁ hready₁
  have hal : s.vm.Alike vm₁ := hwarm₁.alike
  obtain ⟨kA₁, hkA₁, heA⟩ := hal.2.2 _ _ hkA
  obtain ⟨kB₁, hkB₁, heB⟩ := hal.2.2 _ _ hkB
  have hkindA₁ : kA₁.kind = .array cB (.array .long) := by rw [heA]; exact hkindA
  have hkindB₁ : kB₁.kind = .array cC .long := by rw [heB]; exact hkdB
  have X₁ := X.noted hwarm₁
  have ok := mu_ok cA cB N K X₁
  obtain ⟨hr1, hr2⟩ := X₁.roomAbove hcells hslots
  have hlim := Launch.admits_arrayLengthLimit X.admits
  have hmax := Launch.admits_maxHeapBytes X.admits
  obtain ⟨L, o1, o2, o3, o4, o5, o6, o7⟩ := ok N
  obtain ⟨t', a1, b1⟩ := kk cA kA (mu_st cA cB N K (T.setVm vm₁) N).heap L hnameA hkA hkindA o1 o3 o4 o5 o6 _ rfl o2
  refine ⟨t', ?_, b1⟩
  refine Steps.instr (c := _) (by simpa using X.here) ?_
  simp only [hdg]
  rw [hexec]
  show wpRun (Op.multianewarray.sem index 2) _ _ e _
  unfold wpRun
  simp only [Op.multianewarray.sem, wp_bind']
  refine (W.resolveClassAt_transfer (s := T.setTop (F0 m pc ls (.int k :: .int n :: rest))) (State.method?_setTop _ X.here.top) hg₁ hready₁).mpr ?_
  rw [W.resolveClassAt_ready (s := (T.setTop (F0 m pc ls (.int k :: .int n :: rest))).setVm vm₁) (m := m) (State.method?_setTop _ X.here.top) hready₁]
  simp only [wp_bind']
  show wp (Jvm.popN ([Value.int n, Value.int k] : List Value).length) _ _ e _ _ ((T.setVm vm₁).setTop (F0 m pc ls (.int k :: .int n :: rest)))
  rw [popN_top (s := T.setVm vm₁) X.here.top (args := [.int n, .int k]) (rest := rest) rfl]
  simp only [List.mapM_cons, List.mapM_nil, wp_bind', wp_pure']
  refine mu_m2 (T := T.setVm vm₁) hkA₁ hkindA₁ hkB₁ hkindB₁ hn hk hN hK hz (by rw [hlim]; omega) (by rw [hmax]; omega) (by rw [hlim]; omega) (by rw [hmax]; omega) ⟨by omega, by have := Nat.zero_le (N * K); omega⟩ (fun i hi => ?_) (fun i => ?_) (fun d' acts' => ?_)
  · obtain ⟨L2, p1, p2, p3, -⟩ := ok i
    have hm : i * K + K ≤ N * K := by
      have := Nat.mul_le_mul_right K (show i + 1 ≤ N from hi)
      rw [Nat.succ_mul] at this
      exact this
    obtain ⟨w1, w2⟩ := p2.roomAbove (a := 1) (b := K) (by omega) (by omega)
    exact ⟨by omega, w2⟩
  · obtain ⟨L2, p1, p2, p3, p4, p5, p6, p7⟩ := ok i
    exact ⟨p3, p4, p7⟩
  · simp only [wp_bind', W.mark, W.pushRef]
    have htop : (mu_st cA cB N K (T.setVm vm₁) N).topJava?.isSome := o2.here.top
    refine ⟨_, State.topJava?_setTop' _ htop, fun acts2 => ?_⟩
    rw [State.setTop_setTop]
    rw [afterInstr_ok]
    exact a1
end MU4
