/-! ===== the constructors: rows of rows, calls, contracts ===== -/
abbrev RmN (d mc ms : Nat) : Room := { frames := d, cells := mc, slots := ms, locals := 40 * d }
def NQ (E : En) (z : Nat) (wi wo : va_W) : Array Value → State → Outcome → State → Prop := fun _ st oc t => (oc = .returned none ∧ va_P E.D clz wo t.heap ∧ va_D (va_A wi z) wo) ∧ va_F (va_A wi z) st t
def NP (E : En) (z : Nat) (wi : va_W) (U : State) : Prop := U.heap.size = z ∧ va_P E.D clz wi U.heap ∧ va_K E.D clz (tyE E) U ∧ va_D (fun _ => True) wi ∧ FN U
def Mk (l : Launch) (M : MI) (d mc ms : Nat) (av : List Value) (E : En) (z : Nat) (wi wo : va_W) : Prop := Met l M.1 (Gw M) (RmN d mc ms) (va_Pc av (NP E z wi)) (NQ E z wi wo) mc ms (va_A wi z)
theorem NP.blind {E : En} {z : Nat} {wi : va_W} {av : List Value} : FrameBlind (va_Pc av (NP E z wi)) := by
  intro a U g mk q
  obtain ⟨q0, q1, qP, qK, qD, qF⟩ := q
  exact ⟨q0, q1, qP, va_K.moved (u := U) (U := U.calling g mk a) (Vm.Alike.refl U.vm) qK, qD, FN.same (u := U) rfl qF⟩
theorem n_app {E : En} {A : Nat → Prop} {ws new : va_W} {H H1 : Heap} {q : Nat} (hP : va_P E.D clz ws H) (hD : va_D A ws) (hq : H.size = q) (ho : ∀ x, x < q → H1[x]? = H[x]?) (hn : ∀ (k : Nat) (x : Nat × va_E), new[k]? = some x → x.1 = q + k ∧ va_at E.D clz x H1) (hA : ∀ x, q ≤ x → A x) : va_P E.D clz (ws ++ new) H1 ∧ va_D A (ws ++ new) := by
  refine ⟨(hP.kept (fun k x hk => ho x.1 (by rw [← hq]; exact (hP k x hk).lt))).app (fun k x hk => (hn k x hk).2), hD.app ⟨fun i j x y hi hj hxy => ?_, fun k x hk => hA _ ?_⟩ (fun i j x y hi hj => ?_)⟩
  · have h1 := (hn i x hi).1
    have h2 := (hn j y hj).1
    omega
  · rw [(hn k x hk).1]
    omega
  · have h1 := (hP i x hi).lt
    have h2 := (hn j y hj).1
    omega
/-- behind a call on the cell that was made last -/
theorem n_join {E : En} {A : Nat → Prop} {w new : va_W} {H H1 : Heap} {h0 : Nat} {e0 e1 : va_E} (hP : va_P E.D clz (w ++ [(h0, e0)]) H) (hD : va_D A (w ++ [(h0, e0)])) (hA : ∀ q, H.size ≤ q → A q) (hk : ∀ q : Nat, q < H.size → ¬ va_A [(h0, e0)] H.size q → H1[q]? = H[q]?) (hP1 : va_P E.D clz ((h0, e1) :: new) H1) (hD1 : va_D (va_A [(h0, e0)] H.size) ((h0, e1) :: new)) : va_P E.D clz (w ++ ((h0, e1) :: new)) H1 ∧ va_D A (w ++ ((h0, e1) :: new)) := by
  have hw : ∀ (k : Nat) (x : Nat × va_E), w[k]? = some x → (w ++ [(h0, e0)])[k]? = some x := fun k x hx => by
    rw [List.getElem?_append_left (List.getElem?_eq_some_iff.mp hx).1]
    exact hx
  have hl : (w ++ [(h0, e0)])[w.length]? = some (h0, e0) := by simp
  have hne : ∀ (k : Nat) (x : Nat × va_E), w[k]? = some x → x.1 ≠ h0 := fun k x hx hq => by
    have := hD.1 k w.length x (h0, e0) (hw k x hx) hl hq
    have := (List.getElem?_eq_some_iff.mp hx).1
    omega
  have hnA : ∀ (k : Nat) (x : Nat × va_E), w[k]? = some x → x.1 < H.size ∧ ¬ va_A [(h0, e0)] H.size x.1 := fun k x hx => by
    have hlt := (hP k x (hw k x hx)).lt
    refine ⟨hlt, fun h => ?_⟩
    rcases h with ⟨j, e, h⟩ | h
    · cases j with
      | zero =>
        simp at h
        exact hne k x hx h.1.symm
      | succ j => simp at h
    · omega
  have hnew : ∀ (j : Nat) (y : Nat × va_E), ((h0, e1) :: new)[j]? = some y → y.1 = h0 ∨ H.size ≤ y.1 := fun j y hy => by
    rcases hD1.2 j y hy with ⟨i, e, h⟩ | h
    · cases i with
      | zero =>
        simp at h
        exact Or.inl h.1.symm
      | succ i => simp at h
    · exact Or.inr h
  refine ⟨va_P.app (fun k x hx => (hP k x (hw k x hx)).kept (hk _ (hnA k x hx).1 (hnA k x hx).2)) hP1, va_D.app ⟨fun i j x y hi hj hxy => hD.1 i j x y (hw i x hi) (hw j y hj) hxy, fun k x hx => hD.2 k x (hw k x hx)⟩ ⟨hD1.1, fun k x hx => ?_⟩ (fun i j x y hi hj hxy => ?_)⟩
  · rcases hnew k x hx with h | h
    · rw [h]
      exact hD.2 _ _ hl
    · exact hA _ h
  · rcases hnew j y hj with h | h
    · exact hne i x hi (hxy.trans h)
    · have := (hnA i x hi).1
      omega
section NC
variable {p : Program} {l : Launch} {e : Env} {R : Room} {s : State} {m : MethodId} {args : Array Value} {below : List Frame} {meth : Method} {c : Code} {H : Heap} {locs : List Loc} {cells slots : Nat} {Q : State → Prop}
variable {M : MI} {E : En} {A : Nat → Prop} {z pc : Nat} {ls : Array Slot} {rest : List Value} {ws : va_W}
theorem n_multi {idx c' s' N K : Nat} {n k : Int32} (C : CN M E A z p s m args meth c) (hP : va_P E.D clz ws H) (hD : va_D A ws) (hS : va_S A s.heap H locs) (hl : Cond.classLink M.1.cls idx "[[J" ∈ GG) (hn : ¬ n < 0) (hk : ¬ k < 0) (hN : n.toNatClampNeg = N) (hK : k.toNatClampNeg = K) (hz : (n == 0) = false) (hNb : N ≤ 1000) (hKb : K ≤ 1000) (hc : cells + 1 + N = c') (hs : slots + N + N * K = s') (h1 : c' ≤ R.cells) (h2 : s' ≤ R.slots) (hlo : cells = 0 ∨ ∃ x : va_E, (z + (cells - 1), x) ∈ ws) (hd : decode M.2.1 pc = .ok (.multianewarray idx 2, 4))
    (kk : ∀ (H1 : Heap) (locs1 : List Loc), va_P E.D clz (ws ++ ((z + cells, .inl (E.tc 4, N, .inr (.inr (.inr (.inr (fun j => some (z + cells + 1 + j))))))) :: (List.range N).map (fun j => (z + cells + 1 + j, .inl (E.tc 1, K, zaN 1))))) H1 → va_D A (ws ++ ((z + cells, .inl (E.tc 4, N, .inr (.inr (.inr (.inr (fun j => some (z + cells + 1 + j))))))) :: (List.range N).map (fun j => (z + cells + 1 + j, .inl (E.tc 1, K, zaN 1))))) → va_S A s.heap H1 locs1 → W p l e R s m args below meth c H1 locs1 c' s' Q (F0 m (pc + 4) ls (.ref (z + cells) :: rest))) : W p l e R s m args below meth c H locs cells slots Q (F0 m pc ls (.int k :: .int n :: rest)) := by
  subst hc
  subst hs
  intro T hT X
  have hsz := n_sz C X hT hP hS hlo
  refine (?_ : W p l e R s m args below meth c H locs cells slots Q (F0 m pc ls (.int k :: .int n :: rest))) T hT X
  have hK1 := C.K.2 1 (E.tc 1, .long) rfl
  have hK4 := C.K.2 4 (E.tc 4, .array .long) rfl
  have hcB : s.vm.findClass "[J" = some (E.tc 1) := hK1.2
  have hcA4 : s.vm.findClass "[[J" = some (E.tc 4) := by
    have : s.vm.findClass ("[" ++ (FieldType.array .long).toString) = some (E.tc 4) := hK4.2
    rw [mu_str] at this
    exact this
  obtain ⟨-, kB, hkB, cC, hkdB⟩ := hK1.1 0 (fun _ => .long 0)
  refine mu_W C.1 C.2.1 C.2.2.2.2.1 (C.get hl) C.fn.2.1 hcB hkB hkdB hn hk hN hK hz hNb hKb (by omega) (by omega) hd fun cA kA H1 L a1 a2 a3 a4 a5 a6 a7 a8 => ?_
  have hcA : cA = E.tc 4 := Option.some.inj (a1.symm.trans hcA4)
  subst hcA
  rw [hsz] at a4 a5 a6 a7 a8 ⊢
  have hnew : ∀ (i : Nat) (x : Nat × va_E), (((z + cells, .inl (E.tc 4, N, .inr (.inr (.inr (.inr (fun j => some (z + cells + 1 + j))))))) :: (List.range N).map (fun j => (z + cells + 1 + j, .inl (E.tc 1, K, zaN 1)))) : va_W)[i]? = some x → x.1 = z + cells + i ∧ va_at E.D clz x H1 := by
    intro i x hi
    cases i with
    | zero =>
      simp at hi
      subst hi
      refine ⟨rfl, ?_⟩
      show H1[z + cells]? = some (vp_cell _ _)
      rw [vp_cell_q, a6]
      congr 1
      unfold arrV
      congr 1
      apply Array.ext
      · simp
      · intro j b1 b2
        have hj : j < N := by simpa using b1
        simp [mu_f, va_rf, hj]
    | succ i =>
      rw [List.getElem?_cons_succ, List.getElem?_map] at hi
      have hiN : i < N := by
        by_cases h : i < N
        · exact h
        · rw [List.getElem?_eq_none (by simp; omega)] at hi
          simp at hi
      rw [List.getElem?_range hiN] at hi
      simp at hi
      subst hi
      refine ⟨by omega, ?_⟩
      show H1[z + cells + 1 + i]? = some (vp_cell _ _)
      rw [a8 i hiN]
      rfl
  obtain ⟨g1, g2⟩ := n_app hP hD hsz a7 hnew (fun x hx => C.up x (by omega))
  refine kk H1 (locs ++ L) g1 g2 ⟨Nat.le_trans hS.1 (by omega), fun x b1 b2 => (a7 x (by have := hS.1; omega)).trans (hS.2.1 x b1 b2), fun q hq => ?_⟩
  rcases List.mem_append.mp hq with h | h
  · exact hS.2.2 q h
  · rw [a4 q h]
    exact C.up _ (Nat.le_add_right _ _)
theorem n_call {mc ms c' s' h0 : Nat} {a : Array Value} {st0 : List Value} {w new : va_W} {e0 e1 : va_E} (C : CN M E A z p s m args meth c) (hP : va_P E.D clz (w ++ [(h0, e0)]) H) (hD : va_D A (w ++ [(h0, e0)])) (hS : va_S A s.heap H locs) (hsz : H.size = z + cells) (hr : va_Run p l e R s m args below meth c H locs cells slots mc ms (F0 m pc ls st0) rest (NQ E (z + cells) [(h0, e0)] ((h0, e1) :: new) a) (va_A [(h0, e0)] (z + cells))) (hc : cells + mc = c') (hs : slots + ms = s')
    (kk : ∀ (H1 : Heap) (locs1 : List Loc), va_P E.D clz (w ++ ((h0, e1) :: new)) H1 → va_D A (w ++ ((h0, e1) :: new)) → va_S A s.heap H1 locs1 → W p l e R s m args below meth c H1 locs1 c' s' Q (F0 m (pc + 3) ls rest)) : W p l e R s m args below meth c H locs cells slots Q (F0 m pc ls st0) := by
  subst hc
  subst hs
  intro T hT X
  obtain ⟨v, st₀, t, T', L, q0, X', hL, b1, b2, ⟨⟨hv, hp, hd⟩, hz, hk⟩, stp⟩ := hr T hT X
  cases hv
  rw [q0] at hz hk
  rw [← hsz] at hk hd hL
  have hAA : ∀ q, va_A [(h0, e0)] H.size q → A q := by
    intro q h
    rcases h with ⟨j, x, h⟩ | h
    · cases j with
      | zero =>
        simp at h
        rw [← h.1]
        exact hD.2 w.length (h0, e0) (by simp)
      | succ j => simp at h
    · exact C.up q (by omega)
  obtain ⟨g1, g2⟩ := n_join hP hD (fun q hq => C.up q (by omega)) (fun q x1 x2 => (hk q x1 x2)) hp hd
  obtain ⟨t2, a1, a2⟩ := kk T'.heap (locs ++ L) (by rw [b1]; exact g1) g2 ⟨Nat.le_trans hS.1 (by rw [b1]; exact hz), fun q x1 x2 => by rw [b1, hk q (Nat.lt_of_lt_of_le x1 hS.1) (fun y => x2 (hAA q y))]; exact hS.2.1 q x1 x2, fun q hq => by
    rcases List.mem_append.mp hq with h | h
    · exact hS.2.2 q h
    · exact hAA _ (hL q h)⟩ T' rfl X'
  exact ⟨t2, stp t2 a1, a2⟩
theorem n_pre {h0 : Nat} {e0 : va_E} {w : va_W} {av : List Value} (C : CN M E A z p s m args meth c) (hP : va_P E.D clz (w ++ [(h0, e0)]) H) (hsz : H.size = z + cells) : ∀ U : State, U.heap = H → s.WarmedH U.vm → va_Pc av (NP E (z + cells) [(h0, e0)]) av.toArray U := by
  intro U hU hW
  refine ⟨rfl, by rw [hU]; exact hsz, fun k x hk => ?_, va_K.moved hW.alike C.K, ⟨fun i j x y hi hj _ => ?_, fun _ _ _ => trivial⟩, C.fn.warm hW⟩
  · cases k with
    | zero =>
      simp at hk
      subst hk
      rw [hU]
      exact hP w.length _ (by simp)
    | succ k => simp at hk
  · have h1 := (List.getElem?_eq_some_iff.mp hi).1
    have h2 := (List.getElem?_eq_some_iff.mp hj).1
    simp at h1 h2
    omega
/-- a constructor called on the object that was made last -/
theorem n_init {M' : MI} {n d' mc ms c' s' h0 idx : Nat} {As st : List Value} {w new : va_W} {e0 e1 : va_E} (C : CN M E A z p s m args meth c) (hP : va_P E.D clz (w ++ [(h0, e0)]) H) (hD : va_D A (w ++ [(h0, e0)])) (hS : va_S A s.heap H locs) (hMk : Mk l M' d' mc ms (.ref h0 :: As) E (z + cells) [(h0, e0)] ((h0, e1) :: new)) (hM : MFB M' n) (hret : M'.2.2.2 = none) (hnm : M'.1.name = "<init>") (hin : Cond.instanceMethod M'.1 ∈ GG) (hl : Cond.methodLink M.1.cls idx M'.1 ∈ GG ∨ va_Nw (.methodLinkNest M.1.cls idx M'.1 "SlatePlay") s) (hn : As.length = n) (hV : ls.size = M.2.2.1) (hst : st = As.reverse ++ .ref h0 :: rest) (hrr : (rest.map fun v => v.category).sum ≤ 8) (hR : d' + 1 ≤ R.frames ∧ 8 + (M'.2.2.1 + 11) + 40 * d' ≤ R.locals) (hc : cells + mc = c') (hs : slots + ms = s') (h1 : c' ≤ R.cells) (h2 : s' ≤ R.slots) (hlo : cells = 0 ∨ ∃ x : va_E, (z + (cells - 1), x) ∈ w ++ [(h0, e0)]) (hd : decode M.2.1 pc = .ok (.invokespecial idx, 3))
    (kk : ∀ (H1 : Heap) (locs1 : List Loc), va_P E.D clz (w ++ ((h0, e1) :: new)) H1 → va_D A (w ++ ((h0, e1) :: new)) → va_S A s.heap H1 locs1 → W p l e R s m args below meth c H1 locs1 c' s' Q (F0 m (pc + 3) ls rest)) : W p l e R s m args below meth c H locs cells slots Q (F0 m pc ls st) := by
  subst hst
  intro T hT X
  have hsz := n_sz C X hT hP hS hlo
  refine (?_ : W p l e R s m args below meth c H locs cells slots Q (F0 m pc ls (As.reverse ++ .ref h0 :: rest))) T hT X
  obtain ⟨m1, m2, m3, m4⟩ := hM
  rw [hret] at m1
  have hGG : GoodIn (Gw M) (Gw M') := by
    refine GG_in ?_
    rw [hret]
    exact m1
  have hw : Gw M' = Cond.code M'.1 M'.2.1 M'.2.2.1 none :: GG := by
    show Cond.code M'.1 M'.2.1 M'.2.2.1 M'.2.2.2 :: GG = _
    rw [hret]
  rcases hl with hl | hl
  · exact n_call C hP hD hS hsz (va_runI (As := As) (rest := rest) (b := h0) ⟨C.1, C.2.1, C.2.2.2.1, C.2.2.2.2.1, C.2.2.2.2.2.1⟩ hMk ⟨callB_of n C.2.2.2.2.2.1 hGG hw rfl rfl (C.get m2) (C.get hl) m3 ⟨hR.1, hR.2⟩, hnm, C.get hin⟩ ⟨NP.blind, n_pre C hP hsz⟩ rfl hn hV rfl (lv_room hrr) hd ⟨by omega, by omega⟩) hc hs kk
  · exact n_call C hP hD hS hsz (va_runIN (As := As) (rest := rest) (b := h0) (host := "SlatePlay") ⟨C.1, C.2.1, C.2.2.2.1, C.2.2.2.2.1, C.2.2.2.2.2.1⟩ hMk ⟨va_cnB n C.2.2.2.2.2.1 hGG hw rfl rfl hl (C.get m2) m3 ⟨hR.1, hR.2⟩, hnm, C.get hin⟩ ⟨NP.blind, n_pre C hP hsz⟩ rfl hn hV rfl (lv_room hrr) hd ⟨by omega, by omega⟩) hc hs kk
/-- a static method called on the row that was made last -/
theorem n_stat {M' : MI} {n d' mc ms c' s' h0 idx : Nat} {As st : List Value} {w new : va_W} {e0 e1 : va_E} (C : CN M E A z p s m args meth c) (hP : va_P E.D clz (w ++ [(h0, e0)]) H) (hD : va_D A (w ++ [(h0, e0)])) (hS : va_S A s.heap H locs) (hMk : Mk l M' d' mc ms As E (z + cells) [(h0, e0)] ((h0, e1) :: new)) (hM : MFS M' n) (hl : Cond.methodLink M.1.cls idx M'.1 ∈ GG) (hn : As.length = n) (hV : ls.size = M.2.2.1) (hst : st = As.reverse ++ rest) (hrr : (rest.map fun v => v.category).sum ≤ 8) (hR : d' + 1 ≤ R.frames ∧ 8 + (M'.2.2.1 + 11) + 40 * d' ≤ R.locals) (hc : cells + mc = c') (hs : slots + ms = s') (h1 : c' ≤ R.cells) (h2 : s' ≤ R.slots) (hlo : cells = 0 ∨ ∃ x : va_E, (z + (cells - 1), x) ∈ w ++ [(h0, e0)]) (hd : decode M.2.1 pc = .ok (.invokestatic idx, 3))
    (kk : ∀ (H1 : Heap) (locs1 : List Loc), va_P E.D clz (w ++ ((h0, e1) :: new)) H1 → va_D A (w ++ ((h0, e1) :: new)) → va_S A s.heap H1 locs1 → W p l e R s m args below meth c H1 locs1 c' s' Q (F0 m (pc + 3) ls rest)) : W p l e R s m args below meth c H locs cells slots Q (F0 m pc ls st) := by
  subst hst
  intro T hT X
  have hsz := n_sz C X hT hP hS hlo
  refine (?_ : W p l e R s m args below meth c H locs cells slots Q (F0 m pc ls (As.reverse ++ rest))) T hT X
  obtain ⟨⟨m1, m2, m3, m4⟩, m5⟩ := hM
  exact n_call C hP hD hS hsz (va_runS (As := As) (rest := rest) ⟨C.1, C.2.1, C.2.2.2.1, C.2.2.2.2.1, C.2.2.2.2.2.1⟩ hMk ⟨callB_of n C.2.2.2.2.2.1 (GG_in m1) rfl rfl rfl (C.get m2) (C.get hl) m3 ⟨hR.1, hR.2⟩, C.get m5⟩ ⟨NP.blind, n_pre C hP hsz⟩ rfl hn hV rfl (lv_room hrr) hd ⟨by omega, by omega⟩) hc hs kk
end NC
theorem Mk.of {l : Launch} {M : MI} {d mc ms : Nat} {av : List Value} {E : En} {z h0 : Nat} {e0 : va_E} {wo : va_W} (L : List Value) (hy : plainName M.1.cls = true) (hn : (eL av).length ≤ M.2.2.1) (hL : eL av ++ List.replicate (M.2.2.1 - (eL av).length) jk = L)
    (body : ∀ (p : Program) (e : Env) (s : State) (m : MethodId) (args : Array Value) (below : List Frame) (meth : Method) (c : Code) (ls : Array Slot), CN M E (va_A [(h0, e0)] z) z p s m args meth c → LV idE M.2.2.1 L ls → va_P E.D clz [(h0, e0)] s.heap → va_D (va_A [(h0, e0)] z) [(h0, e0)] → va_S (va_A [(h0, e0)] z) s.heap s.heap [] → W p l e (RmN d mc ms) s m args below meth c s.heap [] 0 0 (MQ below (NQ E z [(h0, e0)] wo) args s mc ms (va_A [(h0, e0)] z)) (F0 m 0 ls [])) : Mk l M d mc ms av E z [(h0, e0)] wo := by
  refine Met.ofW (cc := M.2.1) (maxL := M.2.2.1) (ret := M.2.2.2) hy rfl ?_
  intro p e s m args below meth c s₁ B hml hv
  obtain ⟨rfl, hsz, hP, hK, hD, hF⟩ := hv
  rw [lg_entry_eq]
  have hmap : av.map (pe idE.ad) = av := by
    have : pe idE.ad = id := funext pe_id
    rw [this, List.map_id]
  have hl := lv_entry av (n := M.2.2.1) (by rw [← hmap, eL_len]; exact hn)
  refine body p e s m _ below meth c _ ⟨B.exec, B.bytes, B.returns, hml, findClass_of_methodNamed B.named, atoms_spec (ws := Gw M) B.pre, B.notSynchronized, hK, (name_of_methodNamed B.named B.method).1, hF, hsz, fun q hq => Or.inr hq⟩ ⟨hl.1, hl.2.1, fun i v hi hv => ?_⟩ hP (hD.self (sz := z)) va_S.rf
  rw [← hL] at hi
  by_cases hlt : i < (eL av).length
  · rw [List.getElem?_append_left hlt] at hi
    have h9 := eL_lg idE.ad av 0 i v hi hv
    rw [hmap] at h9
    have := hl.2.2 _ h9
    simpa using this
  · rw [List.getElem?_append_right (by omega)] at hi
    have := List.mem_of_getElem? hi
    exact absurd (List.eq_of_mem_replicate this) hv
