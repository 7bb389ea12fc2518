/-! ===== the constructors: rows over a growing world, its cells by their places behind z ===== -/
theorem ao2_moved {u U : State} (hvm : u.vm.Alike U.vm) (h : (Cond.arrayOver (.array .long)).before #[] u = true) : (Cond.arrayOver (.array .long)).before #[] U = true := over_moved hvm h
/-- what a constructor needs of the tables beside its words -/
def FN (U : State) : Prop := va_AO "SlatePlay$School" U ∧ (Cond.arrayOver (.array .long)).before #[] U = true ∧ va_Nw (.methodLinkNest RX5 34 yX2_init "SlatePlay") U ∧ va_Nw (.methodLinkNest RX5 68 yX0_init "SlatePlay") U
theorem FN.warm {s U : State} (hW : s.WarmedH U.vm) (h : FN s) : FN U := ⟨h.1.moved hW.alike, ao2_moved hW.alike h.2.1, va_Nw.warmM hW h.2.2.1, va_Nw.warmM hW h.2.2.2⟩
theorem FN.same {u U : State} (hv : U.vm = u.vm) (h : FN u) : FN U := ⟨h.1.moved (by rw [hv]; exact Vm.Alike.refl _), ao2_moved (by rw [hv]; exact Vm.Alike.refl _) h.2.1, va_Nw.same rfl hv.symm h.2.2.1, va_Nw.same rfl hv.symm h.2.2.2⟩
def idE : En := (fun _ => 0, fun _ _ => 0, fun k => k, fun _ => 0)
theorem pe_id (v : Value) : pe idE.ad v = v := by cases v <;> rfl
def CN (M : MI) (E : En) (A : Nat → Prop) (z : Nat) (p : Program) (s : State) (m : MethodId) (args : Array Value) (meth : Method) (c : Code) : Prop :=
  p.tables.exec = Jvm.exec ∧ c.code = M.2.1 ∧ meth.sig.returnType = M.2.2.2 ∧ c.maxLocals = M.2.2.1 ∧ s.vm.findClass M.1.cls = some m.cls ∧ (∀ w ∈ Gw M, w.before args s = true) ∧ meth.locks = false ∧ va_K E.D clz (tyE E) s ∧ meth.name = M.1.name ∧ FN s ∧ s.heap.size = z ∧ (∀ q, z ≤ q → A q)
def defN (ci : Nat) : List Value := (List.range (nfZ ci)).map (fun j => defaultValue (tyZ ci j))
def zaN (t : Nat) : (Nat → Int32) ⊕ (Nat → Int64) ⊕ (Nat → UInt32) ⊕ (Nat → UInt64) ⊕ (Nat → Option Nat) := if t = 1 then .inr (.inl (fun _ => 0)) else .inl (fun _ => 0)
theorem n_push {E : En} {A : Nat → Prop} {ws : va_W} {H H1 : Heap} {q : Nat} {e : va_E} (hP : va_P E.D clz ws H) (hD : va_D A ws) (hq : H.size = q) (ho : ∀ x, x < q → H1[x]? = H[x]?) (he : va_at E.D clz (q, e) H1) (hA : A q) : va_P E.D clz (ws ++ [(q, e)]) H1 ∧ va_D A (ws ++ [(q, e)]) := by
  refine ⟨(hP.kept (fun k x hk => ho x.1 (by rw [← hq]; exact (hP k x hk).lt))).app (fun k x hk => ?_), hD.push hP hq.symm hA⟩
  have hz : k < 1 := (List.getElem?_eq_some_iff.mp hk).1
  rw [show k = 0 by omega] at hk
  cases hk
  exact he
section NR
variable {p : Program} {l : Launch} {e : Env} {R : Room} {s : State} {m : MethodId} {args : Array Value} {below : List Frame} {meth : Method} {c : Code} {H : Heap} {locs : List Loc} {cells slots : Nat} {Q : State → Prop}
variable {M : MI} {E : En} {A : Nat → Prop} {z pc : Nat} {ls : Array Slot} {rest : List Value} {ws : va_W}
theorem CN.get {W0 : Cond} (C : CN M E A z p s m args meth c) (h : W0 ∈ GG) : W0.before args s = true := C.2.2.2.2.2.1 _ (List.mem_cons_of_mem _ h)
theorem CN.K (C : CN M E A z p s m args meth c) : va_K E.D clz (tyE E) s := C.2.2.2.2.2.2.2.1
theorem CN.fn (C : CN M E A z p s m args meth c) : FN s := C.2.2.2.2.2.2.2.2.2.1
theorem CN.sz (C : CN M E A z p s m args meth c) : s.heap.size = z := C.2.2.2.2.2.2.2.2.2.2.1
theorem CN.up (C : CN M E A z p s m args meth c) : ∀ q, z ≤ q → A q := C.2.2.2.2.2.2.2.2.2.2.2
theorem n_sz {T : State} (C : CN M E A z p s m args meth c) (X : Stand p l e R s m args below meth c T locs cells slots) (hT : T.heap = H) (hP : va_P E.D clz ws H) (hS : va_S A s.heap H locs) (hlo : cells = 0 ∨ ∃ x : va_E, (z + (cells - 1), x) ∈ ws) : H.size = z + cells := by
  have h1 := X.heapSize
  rw [hT, C.sz] at h1
  rcases hlo with rfl | ⟨x, hx⟩
  · have := hS.1
    rw [C.sz] at this
    omega
  · obtain ⟨i, hi⟩ := List.getElem?_of_mem hx
    have h2 : z + (cells - 1) < H.size := (hP i _ hi).lt
    omega
theorem n_S {H1 : Heap} (hS : va_S A s.heap H locs) (hz : H1.size = H.size + 1) (ho : ∀ x, x < H.size → H1[x]? = H[x]?) : va_S A s.heap H1 locs := ⟨Nat.le_trans hS.1 (by omega), fun x h1 h2 => (ho x (Nat.lt_of_lt_of_le h1 hS.1)).trans (hS.2.1 x h1 h2), hS.2.2⟩
theorem n_put {idx h0 : Nat} {fs : List Value} {v : Value} (C : CN M E A z p s m args meth c) (hP : va_P E.D clz ws H) (hD : va_D A ws) (hS : va_S A s.heap H locs) (i : Nat) (ci j : Nat) (hM : M.1.name = "<init>") (h7 : ci < 7) (hj : j < nfZ ci) (ho : (Tz ci j).1 = M.1.cls) (hl : Cond.fieldLink M.1.cls idx (Tz ci j).1 (Tz ci j).2.1 (Tz ci j).2.2.1 ∈ GG) (he : ws[i]? = some (h0, .inr (ci, fs))) (hn : narrow (tyZ ci j) v = v) (hf : fits (tyZ ci j) v = true) (hlen : j < fs.length) (hd : decode M.2.1 pc = .ok (.putfield idx, 3))
    (kk : ∀ (H1 : Heap) (locs1 : List Loc), va_P E.D clz (ws.set i (h0, .inr (ci, fs.set j v))) H1 → va_D A (ws.set i (h0, .inr (ci, fs.set j v))) → va_S A s.heap H1 locs1 → W p l e R s m args below meth c H1 locs1 cells slots Q (F0 m (pc + 3) ls rest)) : W p l e R s m args below meth c H locs cells slots Q (F0 m pc ls (v :: .ref h0 :: rest)) := by
  have hin : ∀ w ∈ u_ws (Rz ci) (Tz ci) (nfZ ci), w ∈ Gw M := fun w hw => List.mem_cons_of_mem _ (cz_in h7 w hw)
  cases hb : (Tz ci j).2.2.2 with
  | true => exact va_putF (C := Rz ci) (T := Tz ci) (N := nfZ ci) C.1 C.2.1 C.2.2.2.2.2.1 hin (tyZ ci) (cz_ty h7) (cz_nm h7) C.2.2.2.2.1 C.K hP hD hS i he (cz_at h7) j hj (C.get hl) (fun _ h => h) hb (C.2.2.2.2.2.2.2.2.1.trans hM) ho (cz_ty h7 j hj) hn hf hlen hd kk
  | false => exact va_put (C := Rz ci) (T := Tz ci) (N := nfZ ci) C.1 C.2.1 C.2.2.2.2.2.1 hin (tyZ ci) (cz_ty h7) (cz_nm h7) C.2.2.2.2.1 C.K hP hD hS i he (cz_at h7) j hj (C.get hl) (fun _ h => h) hb (cz_ty h7 j hj) hn hf hlen hd kk
theorem n_get {idx h0 : Nat} {fs : List Value} {v : Value} (C : CN M E A z p s m args meth c) (hP : va_P E.D clz ws H) (i ci j : Nat) (h7 : ci < 7) (hj : j < nfZ ci) (hl : Cond.fieldLink M.1.cls idx (Tz ci j).1 (Tz ci j).2.1 (Tz ci j).2.2.1 ∈ GG) (he : ws[i]? = some (h0, .inr (ci, fs))) (hv : fs[j]? = some v) (hd : decode M.2.1 pc = .ok (.getfield idx, 3))
    (kk : W p l e R s m args below meth c H locs cells slots Q (F0 m (pc + 3) ls (v :: rest))) : W p l e R s m args below meth c H locs cells slots Q (F0 m pc ls (.ref h0 :: rest)) := by
  have hin : ∀ w ∈ u_ws (Rz ci) (Tz ci) (nfZ ci), w ∈ Gw M := fun w hw => List.mem_cons_of_mem _ (cz_in h7 w hw)
  exact va_get (C := Rz ci) (T := Tz ci) (N := nfZ ci) C.1 C.2.1 C.2.2.2.2.2.1 hin C.2.2.2.2.1 C.K hP i he (cz_at h7) j hj (C.get hl) (fun _ h => h) hv hd kk
/-- a new row of numbers -/
theorem n_newa {atype : ArrayType} {n : Int32} {N' c' s' : Nat} (C : CN M E A z p s m args meth c) (hP : va_P E.D clz ws H) (hD : va_D A ws) (hS : va_S A s.heap H locs) (t : Nat) (ty : FieldType) (hty : newarray.typeOf atype = ty) (ht : (tyE E)[t]? = some (E.tc t, ty)) (hra : ∀ cA, va_RA s cA ty → s.vm.findClass ("[" ++ ty.toString) = some cA) (hz : ∀ cA : ClassId, vp_cell cA (N', zaN t) = arrV cA N' (fun _ => defaultValue ty)) (harr : Cond.arrayClass ty ∈ GG) (hn : ¬ n < 0) (hN : n.toNatClampNeg = N') (hb : N' * componentBytes ty ≤ 536870912) (hc : cells + 1 = c') (hs : slots + N' = s') (h1 : c' ≤ R.cells) (h2 : s' ≤ R.slots) (hlo : cells = 0 ∨ ∃ x : va_E, (z + (cells - 1), x) ∈ ws) (hd : decode M.2.1 pc = .ok (.newarray atype, 2))
    (kk : ∀ H1 : Heap, va_P E.D clz (ws ++ [(z + cells, .inl (E.tc t, N', zaN t))]) H1 → va_D A (ws ++ [(z + cells, .inl (E.tc t, N', zaN t))]) → va_S A s.heap H1 locs → W p l e R s m args below meth c H1 locs c' s' Q (F0 m (pc + 2) ls (.ref (z + cells) :: rest))) : W p l e R s m args below meth c H locs cells slots Q (F0 m pc ls (.int n :: rest)) := by
  subst hty
  subst hc
  subst hs
  intro T hT X
  have hsz := n_sz C X hT hP hS hlo
  refine (?_ : W p l e R s m args below meth c H locs cells slots Q (F0 m pc ls (.int n :: rest))) T hT X
  refine va_newaK C.1 C.2.1 (C.get harr) rfl hd rfl hn hN hb h1 h2 hsz fun H1 cA e1 z1 o1 hAr hNm => ?_
  have hcA : cA = E.tc t := Option.some.inj (hNm.symm.trans (hra _ (C.K.2 t _ ht).2))
  subst hcA
  obtain ⟨g1, g2⟩ := n_push (e := .inl (E.tc t, N', zaN t)) hP hD hsz (fun x hx => o1 x hx) (show H1[z + cells]? = some (vp_cell _ _) by rw [hz]; exact e1) (C.up _ (Nat.le_add_right _ _))
  exact kk H1 g1 g2 (n_S hS (by omega) (fun x hx => o1 x (by omega)))
/-- a new object -/
theorem n_new {idx c' s' : Nat} (C : CN M E A z p s m args meth c) (hP : va_P E.D clz ws H) (hD : va_D A ws) (hS : va_S A s.heap H locs) (ci : Nat) (h7 : ci < 7) (hl : Cond.classLink M.1.cls idx (Rz ci) ∈ GG) (hi : Cond.instantiable (Rz ci) (nfZ ci) ∈ GG) (hini : Cond.initialized (Rz ci) ∈ GG) (hc : cells + 1 = c') (hs : slots + nfZ ci = s') (h1 : c' ≤ R.cells) (h2 : s' ≤ R.slots) (hlo : cells = 0 ∨ ∃ x : va_E, (z + (cells - 1), x) ∈ ws) (hd : decode M.2.1 pc = .ok (.new idx, 3))
    (kk : ∀ H1 : Heap, va_P E.D clz (ws ++ [(z + cells, .inr (ci, defN ci))]) H1 → va_D A (ws ++ [(z + cells, .inr (ci, defN ci))]) → va_S A s.heap H1 locs → W p l e R s m args below meth c H1 locs c' s' Q (F0 m (pc + 3) ls (.ref (z + cells) :: rest))) : W p l e R s m args below meth c H locs cells slots Q (F0 m pc ls rest) := by
  subst hc
  subst hs
  intro T hT X
  have hsz := n_sz C X hT hP hS hlo
  have hin : ∀ w ∈ u_ws (Rz ci) (Tz ci) (nfZ ci), w ∈ Gw M := fun w hw => List.mem_cons_of_mem _ (cz_in h7 w hw)
  have hKn := C.K.1 ci _ (cz_at h7)
  refine (?_ : W p l e R s m args below meth c H locs cells slots Q (F0 m pc ls rest)) T hT X
  refine W.newcK C.1 C.2.1 C.2.2.2.2.1 (C.get hl) (C.get hi) (C.get hini) rfl hd h1 h2 hKn.2.1 hsz fun H1 kC hkC e1 z1 o1 => ?_
  have hfs : ∀ j, j < nfZ ci → defaultValue (tyZ ci j) = vp_V (defN ci) j := by
    intro j hj
    simp [vp_V, defN, hj]
  obtain ⟨g1, g2⟩ := n_push (e := .inr (ci, defN ci)) hP hD hsz (fun x hx => o1 x hx) (show va_at E.D clz (z + cells, .inr (ci, defN ci)) H1 from ⟨_, cz_at h7, (u_born (tyZ ci) C.2.2.2.2.2.1 hin hKn hkC e1 (cz_ty h7)).to hfs⟩) (C.up _ (Nat.le_add_right _ _))
  exact kk H1 g1 g2 (n_S hS (by omega) (fun x hx => o1 x (by omega)))
/-- a new row of objects: the images -/
theorem n_newq {idx c' s' : Nat} {n : Int32} {N' : Nat} (C : CN M E A z p s m args meth c) (hP : va_P E.D clz ws H) (hD : va_D A ws) (hS : va_S A s.heap H locs) (hl : Cond.classLink M.1.cls idx "SlatePlay$School" ∈ GG) (hn : ¬ n < 0) (hN : n.toNatClampNeg = N') (hb : N' * 4 ≤ 536870912) (hc : cells + 1 = c') (hs : slots + N' = s') (h1 : c' ≤ R.cells) (h2 : s' ≤ R.slots) (hlo : cells = 0 ∨ ∃ x : va_E, (z + (cells - 1), x) ∈ ws) (hd : decode M.2.1 pc = .ok (.anewarray idx, 3))
    (kk : ∀ H1 : Heap, va_P E.D clz (ws ++ [(z + cells, .inl (E.tc 5, N', .inr (.inr (.inr (.inr (fun _ => none))))))]) H1 → va_D A (ws ++ [(z + cells, .inl (E.tc 5, N', .inr (.inr (.inr (.inr (fun _ => none))))))]) → va_S A s.heap H1 locs → W p l e R s m args below meth c H1 locs c' s' Q (F0 m (pc + 3) ls (.ref (z + cells) :: rest))) : W p l e R s m args below meth c H locs cells slots Q (F0 m pc ls (.int n :: rest)) := by
  subst hc
  subst hs
  subst hN
  intro T hT X
  have hsz := n_sz C X hT hP hS hlo
  refine (?_ : W p l e R s m args below meth c H locs cells slots Q (F0 m pc ls (.int n :: rest))) T hT X
  refine W.anew C.1 C.2.1 C.2.2.2.2.1 (C.get hl) (va_AO.use C.fn.1) rfl hd rfl hn hb h1 h2 fun cA kA comp f1 f2 f3 f4 => ?_
  have hRA := (C.K.2 5 (E.tc 5, .object "SlatePlay$School") rfl).2
  obtain ⟨kA', comp', r1, r2, r3, r4⟩ := hRA
  have hcA : cA = E.tc 5 := Option.some.inj (f1.symm.trans r4)
  subst hcA
  generalize hH1 : H.push ({ cls := E.tc 5, slots := Array.replicate n.toNatClampNeg .null, vm := .none } : Cell) = H1
  have z1 : H1.size = H.size + 1 := by rw [← hH1, Array.size_push]
  have e1 : H1[H.size]? = some (arrV (E.tc 5) n.toNatClampNeg (fun _ => .null)) := by rw [← hH1, Array.getElem?_push_size, ← arrV_new]
  have o1 : ∀ q : Nat, q < H.size → H1[q]? = H[q]? := fun q hq => by rw [← hH1, Array.getElem?_push, if_neg (Nat.ne_of_lt hq)]
  rw [hsz] at e1 ⊢
  obtain ⟨g1, g2⟩ := n_push (e := .inl (E.tc 5, n.toNatClampNeg, .inr (.inr (.inr (.inr (fun _ => none)))))) hP hD hsz (fun x hx => o1 x (by omega)) (show H1[z + cells]? = some (vp_cell _ _) by rw [vp_cell_q]; exact e1) (C.up _ (Nat.le_add_right _ _))
  exact kk H1 g1 g2 (n_S hS z1 o1)
end NR
