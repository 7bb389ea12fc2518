section BR3
variable {Λ : Ly} {l : Launch} {M : MI} {d pc : Nat} {L st : List Value} {w : Wd} {post : Option Value → Wd → Prop}
/-- what the tables say of a method that is called on an object, of a static one -/
def MFB (M' : MI) (n : Nat) : Prop := Cond.code M'.1 M'.2.1 M'.2.2.1 M'.2.2.2 ∈ GG ∧ Cond.initialized M'.1.cls ∈ GG ∧ (M'.1.cls ≠ "java/lang/invoke/MethodHandle" ∧ M'.1.cls ≠ "java/lang/invoke/VarHandle" ∧ (parseMethodDescriptor M'.1.desc).map (fun d => d.parameters.length) = some n) ∧ M'.2.2.1 ≤ 21
def MFV (M' : MI) (n : Nat) : Prop := MFB M' n ∧ Cond.instanceMethod M'.1 ∈ GG ∧ Cond.selects M'.1.cls M'.1 M'.1 ∈ GG
def MFS (M' : MI) (n : Nat) : Prop := MFB M' n ∧ Cond.static M'.1 ∈ GG
theorem GG_in {M M' : MI} (h : Cond.code M'.1 M'.2.1 M'.2.2.1 M'.2.2.2 ∈ GG) : GoodIn (Gw M) (Gw M') := by
  intro w hw
  have hg : w ∈ GG := by
    rcases List.mem_cons.mp hw with rfl | q
    · exact h
    · exact q
  exact ⟨List.mem_cons_of_mem _ hg, good_of_word (GG_good w hg)⟩
theorem cb_of {E : En} {p : Program} {s : State} {m : MethodId} {args : Array Value} {meth : Method} {c : Code} (C : CX Λ M E p s m args meth c) {M' : MI} {n idx d' : Nat} (hM : MFB M' n) (hl : Cond.methodLink M.1.cls idx M'.1 ∈ GG) (hdd : d' + 1 ≤ d) : CallB (Rm d) s args M.1.cls idx M'.1 M'.2.1 M'.2.2.1 M'.2.2.2 (Gw M') (Rm d') 0 0 n := by
  obtain ⟨h1, h2, h3, h4⟩ := hM
  exact callB_of n C.2.2.2.2.2.1 (GG_in h1) rfl rfl rfl (C.get h2) (C.get hl) h3 ⟨hdd, by show 8 + (M'.2.2.1 + 11) + 40 * d' ≤ 40 * d; omega⟩
theorem pre_blind {E : En} {av : List Value} {sz : Nat} : FrameBlind (va_Pc av (fun U => U.heap.size = sz ∧ va_P E.D clz (wl Λ E w) U.heap ∧ va_K E.D clz (tyE E) U ∧ DD Λ E ∧ XF Λ E U U.heap)) := by
  intro a U g mk q
  obtain ⟨q0, q1, qP, qK, qD, qX⟩ := q
  exact ⟨q0, q1, qP, va_K.moved (u := U) (U := U.calling g mk a) (Vm.Alike.refl U.vm) qK, qD, XF.same (u := U) rfl qX⟩
theorem pre_at {E : En} {p : Program} {s : State} {m : MethodId} {args : Array Value} {meth : Method} {c : Code} {H : Heap} {locs : List Loc} (C : CX Λ M E p s m args meth c) (X : HX Λ E w s H locs) (av : List Value) : ∀ U : State, U.heap = H → s.WarmedH U.vm → va_Pc av (fun U => U.heap.size = H.size ∧ va_P E.D clz (wl Λ E w) U.heap ∧ va_K E.D clz (tyE E) U ∧ DD Λ E ∧ XF Λ E U U.heap) av.toArray U := by
  intro U hU hW
  refine ⟨rfl, by rw [hU], by rw [hU]; exact X.1, va_K.moved hW.alike C.2.2.2.2.2.2.2.1, C.2.2.2.2.2.2.2.2.1, ?_⟩
  rw [hU]
  exact XF.kept X.2.1 X.2.2.1 (XF.warm hW C.2.2.2.2.2.2.2.2.2)
theorem callQ {E : En} {p : Program} {e : Env} {R : Room} {s : State} {m : MethodId} {args a : Array Value} {below : List Frame} {meth : Method} {c : Code} {H : Heap} {locs : List Loc} {ls : Array Slot} {Q : State → Prop} {st0 rest : List Value} {post' : Option Value → Wd → Prop} (hr : va_Run p l e R s m args below meth c H locs 0 0 0 0 (F0 m pc ls st0) rest (QQ Λ E post' H.size a) (AA Λ E H.size)) (X : HX Λ E w s H locs)
    (kk : ∀ (r : Option Value) (w' : Wd) (H1 : Heap) (locs1 : List Loc), post' r w' → HX Λ E w' s H1 locs1 → W p l e R s m args below meth c H1 locs1 0 0 Q (F0 m (pc + 3) ls ((r.map (pe E.ad)).toList ++ rest))) : W p l e R s m args below meth c H locs 0 0 Q (F0 m pc ls st0) := by
  intro T hT X0
  obtain ⟨v, st₀, t, T', L, h0, X', hL, e1, e2, ⟨⟨r, w', hv, hp, hb⟩, hz, hk⟩, stp⟩ := hr T hT X0
  cases hv
  rw [h0] at hz hk
  have hS := X.2
  have hA := AA.mono (Λ := Λ) (E := E) hS.1
  obtain ⟨t2, a1, b1⟩ := kk r w' T'.heap (locs ++ L) hp ⟨by rw [e1]; exact hb, Nat.le_trans hS.1 (by rw [e1]; exact hz), fun q h1 h2 => by rw [e1, hk q (Nat.lt_of_lt_of_le h1 hS.1) (fun z => h2 (hA q z))]; exact hS.2.1 q h1 h2, fun q hq => by
      rcases List.mem_append.mp hq with h | h
      · exact hS.2.2 q h
      · exact hA _ (hL q h)⟩ T' rfl X'
  exact ⟨t2, stp t2 a1, b1⟩
theorem pe_app (ad : Nat → Nat) (r : Option Value) (rest : List Value) : (r.map (pe ad)).toList ++ rest.map (pe ad) = (r.toList ++ rest).map (pe ad) := by cases r <;> rfl
theorem pe_room {m : MethodId} {ls : Array Slot} {ad : Nat → Nat} {s0 rest : List Value} (h : (rest.map fun v => v.category).sum ≤ 8) : 2 * (F0 m pc ls s0).monitorRoom + ((rest.map (pe ad)).map fun v => v.category).sum ≤ 8 := by
  refine lv_room ?_
  rw [List.map_map]
  have : ((fun v : Value => v.category) ∘ pe ad) = fun v : Value => v.category := by funext v; exact pe_cat ad v
  rw [this]
  exact h
theorem b_callV {M' : MI} {k idx ci n d' : Nat} {As rest : List Value} {post' : Option Value → Wd → Prop} (hC : Does Λ l M' d' (.ref k :: As) w post') (hM : MFV M' n) (hl : Cond.methodLink M.1.cls idx M'.1 ∈ GG) (hn : As.length = n) (hk : isO Λ k ci) (h7 : ci < 7) (hc : Rz ci = M'.1.cls) (hd : decode M.2.1 pc = .ok (.invokevirtual idx, 3)) (hdd : d' + 1 ≤ d) (hr : (rest.map fun v => v.category).sum ≤ 8) (hst : st = As.reverse ++ .ref k :: rest) (kk : ∀ r w', post' r w' → Bd Λ l M d (pc + 3) L (r.toList ++ rest) w' post) : Bd Λ l M d pc L st w post := by
  subst hst
  intro E p e s m args below meth c H locs ls C X V
  refine callQ (w := w) (va_runV (As := As.map (pe E.ad)) (rest := rest.map (pe E.ad)) (b := E.ad k) (C := M'.1.cls) ⟨C.1, C.2.1, C.2.2.2.1, C.2.2.2.2.1, C.2.2.2.2.2.1⟩ (hC E H.size) ⟨cb_of C hM.1 hl hdd, C.get hM.2.1, C.get hM.2.2⟩ ⟨pre_blind, ?_, pre_at C X _⟩ rfl (by rw [List.length_map]; exact hn) V.1 (by simp [pe]) (pe_room hr) hd ⟨Nat.le_refl 0, Nat.le_refl 0⟩) X (fun r w' H1 locs1 hp X1 => ?_)
  · have := va_recv (q0 := k) C.2.2.2.2.2.2.2.1 X.1 (cz_at h7) (by rw [wl_get hk.1, cE_o hk])
    rw [← hc]
    exact this
  · rw [pe_app]
    exact kk r w' hp E p e s m args below meth c H1 locs1 ls C X1 V
theorem b_callS {M' : MI} {idx n d' : Nat} {As rest : List Value} {post' : Option Value → Wd → Prop} (hC : Does Λ l M' d' As w post') (hM : MFS M' n) (hl : Cond.methodLink M.1.cls idx M'.1 ∈ GG) (hn : As.length = n) (hd : decode M.2.1 pc = .ok (.invokestatic idx, 3)) (hdd : d' + 1 ≤ d) (hr : (rest.map fun v => v.category).sum ≤ 8) (hst : st = As.reverse ++ rest) (kk : ∀ r w', post' r w' → Bd Λ l M d (pc + 3) L (r.toList ++ rest) w' post) : Bd Λ l M d pc L st w post := by
  subst hst
  intro E p e s m args below meth c H locs ls C X V
  refine callQ (w := w) (va_runS (As := As.map (pe E.ad)) (rest := rest.map (pe E.ad)) ⟨C.1, C.2.1, C.2.2.2.1, C.2.2.2.2.1, C.2.2.2.2.2.1⟩ (hC E H.size) ⟨cb_of C hM.1 hl hdd, C.get hM.2⟩ ⟨pre_blind, pre_at C X _⟩ rfl (by rw [List.length_map]; exact hn) V.1 (by simp) (pe_room hr) hd ⟨Nat.le_refl 0, Nat.le_refl 0⟩) X (fun r w' H1 locs1 hp X1 => ?_)
  rw [pe_app]
  exact kk r w' hp E p e s m args below meth c H1 locs1 ls C X1 V
/-- a nest mate's static method: the two links that stand beside the world -/
theorem b_callN {M' : MI} {idx n d' : Nat} {As rest : List Value} {post' : Option Value → Wd → Prop} (hC : Does Λ l M' d' As w post') (hM : MFS M' n) (hl : ∀ (E : En) (U : State) (H : Heap), XF Λ E U H → va_Nw (.methodLinkNest M.1.cls idx M'.1 "SlatePlay") U) (hn : As.length = n) (hd : decode M.2.1 pc = .ok (.invokestatic idx, 3)) (hdd : d' + 1 ≤ d) (hr : (rest.map fun v => v.category).sum ≤ 8) (hst : st = As.reverse ++ rest) (kk : ∀ r w', post' r w' → Bd Λ l M d (pc + 3) L (r.toList ++ rest) w' post) : Bd Λ l M d pc L st w post := by
  subst hst
  intro E p e s m args below meth c H locs ls C X V
  have h4 := hM.1.2.2.2
  refine callQ (w := w) (va_runSN (As := As.map (pe E.ad)) (rest := rest.map (pe E.ad)) (host := "SlatePlay") ⟨C.1, C.2.1, C.2.2.2.1, C.2.2.2.2.1, C.2.2.2.2.2.1⟩ (hC E H.size) ⟨va_cnB n C.2.2.2.2.2.1 (GG_in hM.1.1) rfl rfl rfl (hl E s s.heap C.2.2.2.2.2.2.2.2.2) (C.get hM.1.2.1) hM.1.2.2.1 ⟨hdd, by show 8 + (M'.2.2.1 + 11) + 40 * d' ≤ 40 * d; omega⟩, C.get hM.2, trivial⟩ ⟨pre_blind, pre_at C X _⟩ rfl (by rw [List.length_map]; exact hn) V.1 (by simp) (pe_room hr) hd ⟨Nat.le_refl 0, Nat.le_refl 0⟩) X (fun r w' H1 locs1 hp X1 => ?_)
  rw [pe_app]
  exact kk r w' hp E p e s m args below meth c H1 locs1 ls C X1 V
theorem is2_v {v : Value} {w' : Wd} {rest : List Value} (k : Bd Λ l M d pc L (v :: rest) w' post) : ∀ r1 w1, is2 (some v) w' r1 w1 → Bd Λ l M d pc L (r1.toList ++ rest) w1 post := fun r1 w1 h => by
  obtain ⟨rfl, rfl⟩ := h
  exact k
theorem is2_n {w' : Wd} {rest : List Value} (k : Bd Λ l M d pc L rest w' post) : ∀ r1 w1, is2 none w' r1 w1 → Bd Λ l M d pc L (r1.toList ++ rest) w1 post := fun r1 w1 h => by
  obtain ⟨rfl, rfl⟩ := h
  exact k
theorem Does.wk {M' : MI} {d' : Nat} {av : List Value} {p1 p2 : Option Value → Wd → Prop} (h : Does Λ l M' d' av w p1) (hp : ∀ r w', p1 r w' → p2 r w') : Does Λ l M' d' av w p2 := by
  intro E sz p e ha hc hk s m args below hf happ hP hq
  obtain ⟨k, o, h1, h2, h3, ⟨⟨r, w', a1, a2, a3⟩, a4⟩, h5⟩ := h E sz p e ha hc hk s m args below hf happ hP hq
  exact ⟨k, o, h1, h2, h3, ⟨⟨r, w', a1, hp r w' a2, a3⟩, a4⟩, h5⟩
theorem Bd.wk {p2 : Option Value → Wd → Prop} (h : Bd Λ l M d pc L st w p2) (hp : ∀ r w', p2 r w' → post r w') : Bd Λ l M d pc L st w post := by
  intro E p e s m args below meth c H locs ls C X V T hT X0
  obtain ⟨t, a1, o, b1, b2, ⟨⟨r, w', c1, c2, c3⟩, c4⟩, b4⟩ := h E p e s m args below meth c H locs ls C X V T hT X0
  exact ⟨t, a1, o, b1, b2, ⟨⟨r, w', c1, hp r w' c2, c3⟩, c4⟩, b4⟩
theorem b_callV0 {M' : MI} {k idx ci d' : Nat} {rest : List Value} {post' : Option Value → Wd → Prop} (hC : Does Λ l M' d' [.ref k] w post') (hM : MFV M' 0) (hl : Cond.methodLink M.1.cls idx M'.1 ∈ GG) (hk : isO Λ k ci) (h7 : ci < 7) (hc : Rz ci = M'.1.cls) (hd : decode M.2.1 pc = .ok (.invokevirtual idx, 3)) (hdd : d' + 1 ≤ d) (hr : (rest.map fun v => v.category).sum ≤ 8) (kk : ∀ r w', post' r w' → Bd Λ l M d (pc + 3) L (r.toList ++ rest) w' post) : Bd Λ l M d pc L (.ref k :: rest) w post := b_callV (As := []) hC hM hl rfl hk h7 hc hd hdd hr rfl kk
theorem b_callS0 {M' : MI} {idx d' : Nat} {rest : List Value} {post' : Option Value → Wd → Prop} (hC : Does Λ l M' d' [] w post') (hM : MFS M' 0) (hl : Cond.methodLink M.1.cls idx M'.1 ∈ GG) (hd : decode M.2.1 pc = .ok (.invokestatic idx, 3)) (hdd : d' + 1 ≤ d) (hr : (rest.map fun v => v.category).sum ≤ 8) (kk : ∀ r w', post' r w' → Bd Λ l M d (pc + 3) L (r.toList ++ rest) w' post) : Bd Λ l M d pc L (rest) w post := b_callS (As := []) hC hM hl rfl hd hdd hr rfl kk
theorem b_callV1 {M' : MI} {k idx ci d' : Nat} {a1 : Value} {rest : List Value} {post' : Option Value → Wd → Prop} (hC : Does Λ l M' d' [.ref k, a1] w post') (hM : MFV M' 1) (hl : Cond.methodLink M.1.cls idx M'.1 ∈ GG) (hk : isO Λ k ci) (h7 : ci < 7) (hc : Rz ci = M'.1.cls) (hd : decode M.2.1 pc = .ok (.invokevirtual idx, 3)) (hdd : d' + 1 ≤ d) (hr : (rest.map fun v => v.category).sum ≤ 8) (kk : ∀ r w', post' r w' → Bd Λ l M d (pc + 3) L (r.toList ++ rest) w' post) : Bd Λ l M d pc L (a1 :: .ref k :: rest) w post := b_callV (As := [a1]) hC hM hl rfl hk h7 hc hd hdd hr rfl kk
theorem b_callS1 {M' : MI} {idx d' : Nat} {a1 : Value} {rest : List Value} {post' : Option Value → Wd → Prop} (hC : Does Λ l M' d' [a1] w post') (hM : MFS M' 1) (hl : Cond.methodLink M.1.cls idx M'.1 ∈ GG) (hd : decode M.2.1 pc = .ok (.invokestatic idx, 3)) (hdd : d' + 1 ≤ d) (hr : (rest.map fun v => v.category).sum ≤ 8) (kk : ∀ r w', post' r w' → Bd Λ l M d (pc + 3) L (r.toList ++ rest) w' post) : Bd Λ l M d pc L (a1 :: rest) w post := b_callS (As := [a1]) hC hM hl rfl hd hdd hr rfl kk
theorem b_callV2 {M' : MI} {k idx ci d' : Nat} {a1 a2 : Value} {rest : List Value} {post' : Option Value → Wd → Prop} (hC : Does Λ l M' d' [.ref k, a1, a2] w post') (hM : MFV M' 2) (hl : Cond.methodLink M.1.cls idx M'.1 ∈ GG) (hk : isO Λ k ci) (h7 : ci < 7) (hc : Rz ci = M'.1.cls) (hd : decode M.2.1 pc = .ok (.invokevirtual idx, 3)) (hdd : d' + 1 ≤ d) (hr : (rest.map fun v => v.category).sum ≤ 8) (kk : ∀ r w', post' r w' → Bd Λ l M d (pc + 3) L (r.toList ++ rest) w' post) : Bd Λ l M d pc L (a2 :: a1 :: .ref k :: rest) w post := b_callV (As := [a1, a2]) hC hM hl rfl hk h7 hc hd hdd hr rfl kk
theorem b_callS2 {M' : MI} {idx d' : Nat} {a1 a2 : Value} {rest : List Value} {post' : Option Value → Wd → Prop} (hC : Does Λ l M' d' [a1, a2] w post') (hM : MFS M' 2) (hl : Cond.methodLink M.1.cls idx M'.1 ∈ GG) (hd : decode M.2.1 pc = .ok (.invokestatic idx, 3)) (hdd : d' + 1 ≤ d) (hr : (rest.map fun v => v.category).sum ≤ 8) (kk : ∀ r w', post' r w' → Bd Λ l M d (pc + 3) L (r.toList ++ rest) w' post) : Bd Λ l M d pc L (a2 :: a1 :: rest) w post := b_callS (As := [a1, a2]) hC hM hl rfl hd hdd hr rfl kk
theorem b_callV3 {M' : MI} {k idx ci d' : Nat} {a1 a2 a3 : Value} {rest : List Value} {post' : Option Value → Wd → Prop} (hC : Does Λ l M' d' [.ref k, a1, a2, a3] w post') (hM : MFV M' 3) (hl : Cond.methodLink M.1.cls idx M'.1 ∈ GG) (hk : isO Λ k ci) (h7 : ci < 7) (hc : Rz ci = M'.1.cls) (hd : decode M.2.1 pc = .ok (.invokevirtual idx, 3)) (hdd : d' + 1 ≤ d) (hr : (rest.map fun v => v.category).sum ≤ 8) (kk : ∀ r w', post' r w' → Bd Λ l M d (pc + 3) L (r.toList ++ rest) w' post) : Bd Λ l M d pc L (a3 :: a2 :: a1 :: .ref k :: rest) w post := b_callV (As := [a1, a2, a3]) hC hM hl rfl hk h7 hc hd hdd hr rfl kk
theorem b_callS3 {M' : MI} {idx d' : Nat} {a1 a2 a3 : Value} {rest : List Value} {post' : Option Value → Wd → Prop} (hC : Does Λ l M' d' [a1, a2, a3] w post') (hM : MFS M' 3) (hl : Cond.methodLink M.1.cls idx M'.1 ∈ GG) (hd : decode M.2.1 pc = .ok (.invokestatic idx, 3)) (hdd : d' + 1 ≤ d) (hr : (rest.map fun v => v.category).sum ≤ 8) (kk : ∀ r w', post' r w' → Bd Λ l M d (pc + 3) L (r.toList ++ rest) w' post) : Bd Λ l M d pc L (a3 :: a2 :: a1 :: rest) w post := b_callS (As := [a1, a2, a3]) hC hM hl rfl hd hdd hr rfl kk
theorem b_callV4 {M' : MI} {k idx ci d' : Nat} {a1 a2 a3 a4 : Value} {rest : List Value} {post' : Option Value → Wd → Prop} (hC : Does Λ l M' d' [.ref k, a1, a2, a3, a4] w post') (hM : MFV M' 4) (hl : Cond.methodLink M.1.cls idx M'.1 ∈ GG) (hk : isO Λ k ci) (h7 : ci < 7) (hc : Rz ci = M'.1.cls) (hd : decode M.2.1 pc = .ok (.invokevirtual idx, 3)) (hdd : d' + 1 ≤ d) (hr : (rest.map fun v => v.category).sum ≤ 8) (kk : ∀ r w', post' r w' → Bd Λ l M d (pc + 3) L (r.toList ++ rest) w' post) : Bd Λ l M d pc L (a4 :: a3 :: a2 :: a1 :: .ref k :: rest) w post := b_callV (As := [a1, a2, a3, a4]) hC hM hl rfl hk h7 hc hd hdd hr rfl kk
theorem b_callS4 {M' : MI} {idx d' : Nat} {a1 a2 a3 a4 : Value} {rest : List Value} {post' : Option Value → Wd → Prop} (hC : Does Λ l M' d' [a1, a2, a3, a4] w post') (hM : MFS M' 4) (hl : Cond.methodLink M.1.cls idx M'.1 ∈ GG) (hd : decode M.2.1 pc = .ok (.invokestatic idx, 3)) (hdd : d' + 1 ≤ d) (hr : (rest.map fun v => v.category).sum ≤ 8) (kk : ∀ r w', post' r w' → Bd Λ l M d (pc + 3) L (r.toList ++ rest) w' post) : Bd Λ l M d pc L (a4 :: a3 :: a2 :: a1 :: rest) w post := b_callS (As := [a1, a2, a3, a4]) hC hM hl rfl hd hdd hr rfl kk
theorem b_callV5 {M' : MI} {k idx ci d' : Nat} {a1 a2 a3 a4 a5 : Value} {rest : List Value} {post' : Option Value → Wd → Prop} (hC : Does Λ l M' d' [.ref k, a1, a2, a3, a4, a5] w post') (hM : MFV M' 5) (hl : Cond.methodLink M.1.cls idx M'.1 ∈ GG) (hk : isO Λ k ci) (h7 : ci < 7) (hc : Rz ci = M'.1.cls) (hd : decode M.2.1 pc = .ok (.invokevirtual idx, 3)) (hdd : d' + 1 ≤ d) (hr : (rest.map fun v => v.category).sum ≤ 8) (kk : ∀ r w', post' r w' → Bd Λ l M d (pc + 3) L (r.toList ++ rest) w' post) : Bd Λ l M d pc L (a5 :: a4 :: a3 :: a2 :: a1 :: .ref k :: rest) w post := b_callV (As := [a1, a2, a3, a4, a5]) hC hM hl rfl hk h7 hc hd hdd hr rfl kk
theorem b_callS5 {M' : MI} {idx d' : Nat} {a1 a2 a3 a4 a5 : Value} {rest : List Value} {post' : Option Value → Wd → Prop} (hC : Does Λ l M' d' [a1, a2, a3, a4, a5] w post') (hM : MFS M' 5) (hl : Cond.methodLink M.1.cls idx M'.1 ∈ GG) (hd : decode M.2.1 pc = .ok (.invokestatic idx, 3)) (hdd : d' + 1 ≤ d) (hr : (rest.map fun v => v.category).sum ≤ 8) (kk : ∀ r w', post' r w' → Bd Λ l M d (pc + 3) L (r.toList ++ rest) w' post) : Bd Λ l M d pc L (a5 :: a4 :: a3 :: a2 :: a1 :: rest) w post := b_callS (As := [a1, a2, a3, a4, a5]) hC hM hl rfl hd hdd hr rfl kk
theorem b_max {idx : Nat} {x y : Int32} (hl : Cond.methodLink M.1.cls idx Lib.Math.max.name ∈ GG) (h1 : Cond.static Lib.Math.max.name ∈ GG) (h2 : Cond.initialized "java/lang/Math" ∈ GG) (h3 : Cond.code Lib.Math.max.name Lib.Math.max.code 2 (some .int) ∈ GG) (hd : decode M.2.1 pc = .ok (.invokestatic idx, 3)) (hdd : 1 ≤ d) (hr : (st.map fun v => v.category).sum ≤ 8) (kk : Bd Λ l M d (pc + 3) L (.int (if x < y then y else x) :: st) w post) : Bd Λ l M d pc L (.int y :: .int x :: st) w post := by
  intro E p e s m args below meth c H locs ls C X V
  refine va_mmax C.1 C.2.1 (C.2.2.2.1.trans V.1.symm) C.2.2.2.2.1 (C.get hl) (C.get h1) (C.get h2) (C.get h3) hdd ?_ (Nat.le_refl 0) (Nat.le_refl 0) hd (kk E p e s m args below meth c H locs ls C X V)
  have : ((fun v : Value => v.category) ∘ pe E.ad) = fun v : Value => v.category := by funext v; exact pe_cat E.ad v
  show ((st.map (pe E.ad)).map fun v => v.category).sum + 13 ≤ 40 * d
  rw [List.map_map, this]
  omega
theorem b_min {idx : Nat} {x y : Int32} (hl : Cond.methodLink M.1.cls idx Lib.Math.min.name ∈ GG) (h1 : Cond.static Lib.Math.min.name ∈ GG) (h2 : Cond.initialized "java/lang/Math" ∈ GG) (h3 : Cond.code Lib.Math.min.name Lib.Math.min.code 2 (some .int) ∈ GG) (hd : decode M.2.1 pc = .ok (.invokestatic idx, 3)) (hdd : 1 ≤ d) (hr : (st.map fun v => v.category).sum ≤ 8) (kk : Bd Λ l M d (pc + 3) L (.int (if x < y then x else y) :: st) w post) : Bd Λ l M d pc L (.int y :: .int x :: st) w post := by
  intro E p e s m args below meth c H locs ls C X V
  refine va_mmin C.1 C.2.1 (C.2.2.2.1.trans V.1.symm) C.2.2.2.2.1 (C.get hl) (C.get h1) (C.get h2) (C.get h3) hdd ?_ (Nat.le_refl 0) (Nat.le_refl 0) hd ?_
  · have : ((fun v : Value => v.category) ∘ pe E.ad) = fun v : Value => v.category := by funext v; exact pe_cat E.ad v
    show ((st.map (pe E.ad)).map fun v => v.category).sum + 13 ≤ 40 * d
    rw [List.map_map, this]
    omega
  · first
      | exact kk E p e s m args below meth c H locs ls C X V
      | (have h9 : (if y < x then y else x) = (if x < y then x else y) := by
          by_cases q : x < y
          · rw [if_pos q, if_neg (fun z => by rw [Int32.lt_iff_toInt_lt] at q z; omega)]
          · by_cases z : y < x
            · rw [if_neg q, if_pos z]
            · rw [if_neg q, if_neg z]
              exact Int32.toInt_inj.mp (by rw [Int32.lt_iff_toInt_lt] at q z; omega)
         rw [h9]
         exact kk E p e s m args below meth c H locs ls C X V)
/-- System.arraycopy of ints, of longs -/
theorem b_copyi {idx a b n0 n1 : Nat} {sp dp n : Int32} (sp' dp' n' : Nat) (hl : Cond.methodLink M.1.cls idx arraycopyName ∈ GG) (h1 : Cond.native arraycopyName ∈ GG) (h2 : Cond.static arraycopyName ∈ GG) (h3 : Cond.initialized "java/lang/System" ∈ GG) (ha : isA Λ a 0 n0) (hb : isA Λ b 0 n1) (hs : sp = nI sp') (hp : dp = nI dp') (hn : n = nI n') (h4 : sp' + n' ≤ n0) (h5 : dp' + n' ≤ n1) (hm : n0 < 2 ^ 31 ∧ n1 < 2 ^ 31) (hd : decode M.2.1 pc = .ok (.invokestatic idx, 3)) (hdd : 1 ≤ d) (hr : (st.map fun v => v.category).sum + (nativeFrameWords "java/lang/System" "arraycopy" 5 + 11) ≤ 40) (kk : Bd Λ l M d (pc + 3) L st (sR w b (va_cpy (w.2.2.1 a) (w.2.2.1 b) sp' dp' n')) post) : Bd Λ l M d pc L (.int n :: .int dp :: .ref b :: .int sp :: .ref a :: st) w post := by
  intro E p e s m args below meth c H locs ls C X V
  subst hs hp hn
  have e1 : (nI sp').toNatClampNeg = sp' := nI_clamp (by omega)
  have e2 : (nI dp').toNatClampNeg = dp' := nI_clamp (by omega)
  have e3 : (nI n').toNatClampNeg = n' := nI_clamp (by omega)
  have hc : ((fun v : Value => v.category) ∘ pe E.ad) = fun v : Value => v.category := by funext v; exact pe_cat E.ad v
  refine va_copyi (ty := .int) C.1 C.2.1 (C.2.2.2.1.trans V.1.symm) C.2.2.2.2.1 (C.get hl) (C.get h1) (C.get h2) (C.get h3) C.2.2.2.2.2.2.2.1 X.1 (C.2.2.2.2.2.2.2.2.1.d w s.heap.size) X.2 a b 0 0 (f := w.2.2.1 a) (g := w.2.2.1 b) (by rw [wl_get ha.1, cE_a ha]; rfl) (by rw [wl_get hb.1, cE_a hb]; rfl) rfl rfl rfl (nI_pos (by omega)) (nI_pos (by omega)) (nI_pos (by omega)) (by rw [e1, e3]; exact h4) (by rw [e2, e3]; exact h5) (fun _ _ => rfl) hdd (by
    show ((st.map (pe E.ad)).map fun v => v.category).sum + _ ≤ 40 * d
    rw [List.map_map, hc]
    omega) hd (fun H1 locs1 hP _ hS => ?_)
  rw [e1, e2, e3, wl_set (sR_eq hb (by decide) (by decide)) (fun b hb => sR_ne hb)] at hP
  exact kk E p e s m args below meth c H1 locs1 ls C ⟨hP, hS⟩ V
theorem b_copyl {idx a b n0 n1 : Nat} {sp dp n : Int32} (sp' dp' n' : Nat) (hl : Cond.methodLink M.1.cls idx arraycopyName ∈ GG) (h1 : Cond.native arraycopyName ∈ GG) (h2 : Cond.static arraycopyName ∈ GG) (h3 : Cond.initialized "java/lang/System" ∈ GG) (ha : isA Λ a 1 n0) (hb : isA Λ b 1 n1) (hs : sp = nI sp') (hp : dp = nI dp') (hn : n = nI n') (h4 : sp' + n' ≤ n0) (h5 : dp' + n' ≤ n1) (hm : n0 < 2 ^ 31 ∧ n1 < 2 ^ 31) (hd : decode M.2.1 pc = .ok (.invokestatic idx, 3)) (hdd : 1 ≤ d) (hr : (st.map fun v => v.category).sum + (nativeFrameWords "java/lang/System" "arraycopy" 5 + 11) ≤ 40) (kk : Bd Λ l M d (pc + 3) L st (sL w b (va_cpy (w.2.2.2.1 a) (w.2.2.2.1 b) sp' dp' n')) post) : Bd Λ l M d pc L (.int n :: .int dp :: .ref b :: .int sp :: .ref a :: st) w post := by
  intro E p e s m args below meth c H locs ls C X V
  subst hs hp hn
  have e1 : (nI sp').toNatClampNeg = sp' := nI_clamp (by omega)
  have e2 : (nI dp').toNatClampNeg = dp' := nI_clamp (by omega)
  have e3 : (nI n').toNatClampNeg = n' := nI_clamp (by omega)
  have hc : ((fun v : Value => v.category) ∘ pe E.ad) = fun v : Value => v.category := by funext v; exact pe_cat E.ad v
  refine va_copyl (ty := .long) C.1 C.2.1 (C.2.2.2.1.trans V.1.symm) C.2.2.2.2.1 (C.get hl) (C.get h1) (C.get h2) (C.get h3) C.2.2.2.2.2.2.2.1 X.1 (C.2.2.2.2.2.2.2.2.1.d w s.heap.size) X.2 a b 1 1 (f := w.2.2.2.1 a) (g := w.2.2.2.1 b) (by rw [wl_get ha.1, cE_a ha]; rfl) (by rw [wl_get hb.1, cE_a hb]; rfl) rfl rfl rfl (nI_pos (by omega)) (nI_pos (by omega)) (nI_pos (by omega)) (by rw [e1, e3]; exact h4) (by rw [e2, e3]; exact h5) (fun _ _ => rfl) hdd (by
    show ((st.map (pe E.ad)).map fun v => v.category).sum + _ ≤ 40 * d
    rw [List.map_map, hc]
    omega) hd (fun H1 locs1 hP _ hS => ?_)
  rw [e1, e2, e3, wl_set (sL_eq hb) (fun b hb => sL_ne hb)] at hP
  exact kk E p e s m args below meth c H1 locs1 ls C ⟨hP, hS⟩ V
end BR3
