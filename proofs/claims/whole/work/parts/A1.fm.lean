/-! ===== Math.floorMod: a contract of its own (java/lang/Math has rows of natives, none for it) ===== -/
theorem fd_0 : decode cJ9_floorMod_7cf53 0 = .ok (.iload_n 0, 1) := by decide +kernel
theorem fd_1 : decode cJ9_floorMod_7cf53 1 = .ok (.iload_n 1, 1) := by decide +kernel
theorem fd_2 : decode cJ9_floorMod_7cf53 2 = .ok (.irem, 1) := by decide +kernel
theorem fd_3 : decode cJ9_floorMod_7cf53 3 = .ok (.istore_n 2, 1) := by decide +kernel
theorem fd_4 : decode cJ9_floorMod_7cf53 4 = .ok (.iload_n 0, 1) := by decide +kernel
theorem fd_5 : decode cJ9_floorMod_7cf53 5 = .ok (.iload_n 1, 1) := by decide +kernel
theorem fd_6 : decode cJ9_floorMod_7cf53 6 = .ok (.ixor, 1) := by decide +kernel
theorem fd_7 : decode cJ9_floorMod_7cf53 7 = .ok (.ifCond .ge 11, 3) := by decide +kernel
theorem fd_10 : decode cJ9_floorMod_7cf53 10 = .ok (.iload_n 2, 1) := by decide +kernel
theorem fd_11 : decode cJ9_floorMod_7cf53 11 = .ok (.ifCond .eq 7, 3) := by decide +kernel
theorem fd_14 : decode cJ9_floorMod_7cf53 14 = .ok (.iload_n 2, 1) := by decide +kernel
theorem fd_15 : decode cJ9_floorMod_7cf53 15 = .ok (.iload_n 1, 1) := by decide +kernel
theorem fd_16 : decode cJ9_floorMod_7cf53 16 = .ok (.iadd, 1) := by decide +kernel
theorem fd_17 : decode cJ9_floorMod_7cf53 17 = .ok (.ireturn, 1) := by decide +kernel
theorem fd_18 : decode cJ9_floorMod_7cf53 18 = .ok (.iload_n 2, 1) := by decide +kernel
theorem fd_19 : decode cJ9_floorMod_7cf53 19 = .ok (.ireturn, 1) := by decide +kernel
theorem fm_row0 : (NativeRow.find? Jvm.natives yJ9_floorMod_7cf53.cls yJ9_floorMod_7cf53.name yJ9_floorMod_7cf53.desc).isNone = true := by decide +kernel
theorem fm_row (p : Program) : NativeRow.find? p.tables.natives yJ9_floorMod_7cf53.cls yJ9_floorMod_7cf53.name yJ9_floorMod_7cf53.desc = none := by
  cases p <;> exact Option.isNone_iff_eq_none.mp fm_row0
def fmS (x y : Int32) : Spec :=
  { pre := .and (.code yJ9_floorMod_7cf53 cJ9_floorMod_7cf53 3 (some .int)) (.and (.count 2) (.and (.isInt (.arg 0)) (.and (.isInt (.arg 1)) (.and (.eq (.arg 0) (.int x)) (.eq (.arg 1) (.int y))))))
    post := .and .returned (.eq .result (.int (fmI x y)))
    changes := some [] }
set_option maxHeartbeats 4000000 in
theorem fm_ml (l : Launch) {x y : Int32} (hy : ¬ y = 0) : MeetsLoose l yJ9_floorMod_7cf53 (fmS x y) := by
  refine MeetsLoose.of_body_ov (code := cJ9_floorMod_7cf53) (maxLocals := 3) (ret := some .int) fm_row ?_ ?_
  · intro args s h
    simp only [fmS, Cond.before_and, Bool.and_eq_true] at h
    exact h.1
  · intro p e s m args below meth c s₁ B
    have hpre := B.pre
    simp only [fmS, Cond.before_and, Bool.and_eq_true] at hpre
    obtain ⟨a, b, rfl⟩ := Cond.two_ints hpre.2.1 hpre.2.2.1 hpre.2.2.2.1
    have ha : a = x := by simpa [Cond.before, Cond.holds, Cond.value, Term.eval] using hpre.2.2.2.2.1
    have hb : b = y := by simpa [Cond.before, Cond.holds, Cond.value, Term.eval] using hpre.2.2.2.2.2
    subst ha
    subst hb
    have hloc : argsToLocals #[.int a, .int b] 3 = #[.val (.int a), .val (.int b), .unset] := rfl
    obtain ⟨fs, hfs⟩ := handOver_isSome (s := s₁) (some (.int (fmI a b))) B.hears₁
    refine ⟨s₁.setFrames fs, .returned (some (.int (fmI a b))), ?_, B.here.running, B.ended hfs (by intro h; cases h), ?_, State.sameBut_nil.mpr ?_⟩
    · unfold entryFrame
      rw [hloc]
      refine Steps.instrAtOv (c := _) (by simpa using B.here) ?_
      simp [jvm, wpRun, exec, B.here.top, B.exec, B.bytes, fd_0]
      refine Steps.instrAtOv (c := _) (by simpa using B.here) ?_
      simp [jvm, wpRun, exec, B.here.top, B.exec, B.bytes, fd_1]
      refine Steps.instrAtOv (c := _) (by simpa using B.here) ?_
      simp [jvm, wpRun, exec, B.here.top, B.exec, B.bytes, fd_2, hy]
      show Steps p.tables e below (s₁.setTop { method := m, pc := 3, locals := #[.val (.int a), .val (.int b), .unset], stack := [.int (a - a / b * b)], locked := none }) _
      have hfm : fmI a b = if (a ^^^ b) < 0 then (if a - a / b * b = 0 then a - a / b * b else a - a / b * b + b) else a - a / b * b := rfl
      rw [hfm] at hfs
      generalize a - a / b * b = r at hfs ⊢
      refine Steps.instrAtOv (c := _) (by simpa using B.here) ?_
      simp [jvm, wpRun, exec, B.here.top, B.exec, B.bytes, fd_3, show storeLocals #[.val (.int a), .val (.int b), .unset] 2 (.int r) = some #[.val (.int a), .val (.int b), .val (.int r)] from rfl]
      refine Steps.instrAtOv (c := _) (by simpa using B.here) ?_
      simp [jvm, wpRun, exec, B.here.top, B.exec, B.bytes, fd_4]
      refine Steps.instrAtOv (c := _) (by simpa using B.here) ?_
      simp [jvm, wpRun, exec, B.here.top, B.exec, B.bytes, fd_5]
      refine Steps.instrAtOv (c := _) (by simpa using B.here) ?_
      simp [jvm, wpRun, exec, B.here.top, B.exec, B.bytes, fd_6]
      refine Steps.instrAtOv (c := _) (by simpa using B.here) ?_
      by_cases hx : (a ^^^ b) < 0
      · rw [if_pos hx] at hfs
        have hx2 : ¬ 0 ≤ (a ^^^ b) := Int32.not_le.mpr hx
        simp [jvm, wpRun, exec, B.here.top, B.exec, B.bytes, fd_7, Op.ifCond.holds, hx2]
        refine Steps.instrAtOv (c := _) (by simpa using B.here) ?_
        simp [jvm, wpRun, exec, B.here.top, B.exec, B.bytes, fd_10]
        refine Steps.instrAtOv (c := _) (by simpa using B.here) ?_
        by_cases h0 : r = 0
        · rw [if_pos h0] at hfs
          simp [jvm, wpRun, exec, B.here.top, B.exec, B.bytes, fd_11, Op.ifCond.holds, h0]
          refine Steps.instrAtOv (c := _) (by simpa using B.here) ?_
          simp [jvm, wpRun, exec, B.here.top, B.exec, B.bytes, fd_18]
          refine Steps.instrAtOv (c := _) (by simpa using B.here) ?_
          rw [h0] at hfs
          simp [jvm, wpRun, exec, B.here.top, B.exec, B.bytes, fd_19, B.method₁, B.returns, narrow]
          intro acts
          rw [ret_to B.frames₁ B.method₁ B.notSynchronized rfl rfl hfs]
          exact Steps.refl _
        · rw [if_neg h0] at hfs
          simp [jvm, wpRun, exec, B.here.top, B.exec, B.bytes, fd_11, Op.ifCond.holds, h0]
          refine Steps.instrAtOv (c := _) (by simpa using B.here) ?_
          simp [jvm, wpRun, exec, B.here.top, B.exec, B.bytes, fd_14]
          refine Steps.instrAtOv (c := _) (by simpa using B.here) ?_
          simp [jvm, wpRun, exec, B.here.top, B.exec, B.bytes, fd_15]
          refine Steps.instrAtOv (c := _) (by simpa using B.here) ?_
          simp [jvm, wpRun, exec, B.here.top, B.exec, B.bytes, fd_16]
          refine Steps.instrAtOv (c := _) (by simpa using B.here) ?_
          simp [jvm, wpRun, exec, B.here.top, B.exec, B.bytes, fd_17, B.method₁, B.returns, narrow]
          intro acts
          rw [ret_to B.frames₁ B.method₁ B.notSynchronized rfl rfl hfs]
          exact Steps.refl _
      · rw [if_neg hx] at hfs
        have hx2 : 0 ≤ (a ^^^ b) := Int32.not_lt.mp hx
        simp [jvm, wpRun, exec, B.here.top, B.exec, B.bytes, fd_7, Op.ifCond.holds, hx2]
        refine Steps.instrAtOv (c := _) (by simpa using B.here) ?_
        simp [jvm, wpRun, exec, B.here.top, B.exec, B.bytes, fd_18]
        refine Steps.instrAtOv (c := _) (by simpa using B.here) ?_
        simp [jvm, wpRun, exec, B.here.top, B.exec, B.bytes, fd_19, B.method₁, B.returns, narrow]
        intro acts
        rw [ret_to B.frames₁ B.method₁ B.notSynchronized rfl rfl hfs]
        exact Steps.refl _
    · simp [fmS, Cond.after, Cond.holds, Cond.value, Term.eval]
    · rw [State.frames_setFrames _ B.cur₁, B.back]
theorem fmW_s : Cond.static yJ9_floorMod_7cf53 ∈ GG := GGi 481 (by decide +kernel) (by decide +kernel)
theorem fmW_c : Cond.code yJ9_floorMod_7cf53 cJ9_floorMod_7cf53 3 (some .int) ∈ GG := GGi 482 (by decide +kernel) (by decide +kernel)
theorem fmW_i : Cond.initialized yJ9_floorMod_7cf53.cls ∈ GG := GGi 111 (by decide +kernel) (by decide +kernel)
theorem fmS_ret {x y : Int32} {args' : Array Value} {first s₂ : State} {o : Outcome} (h : (fmS x y).post.after args' first o s₂ = true) : ∃ v, o = .returned v := by
  simp only [fmS, Cond.after_and, Bool.and_eq_true] at h
  cases o with
  | returned r => exact ⟨r, rfl⟩
  | threw y => simp [Cond.after, Cond.holds, Cond.value] at h
theorem fmS_val {x y : Int32} {args' : Array Value} {first t : State} {v : Option Value} (h : (fmS x y).post.after args' first (.returned v) t = true) : v = some (.int (fmI x y)) := by
  rcases v with _ | u
  · simp [fmS, Cond.after, Cond.holds, Cond.value, Term.eval] at h
  · cases u <;> simp [fmS, Cond.after, Cond.holds, Cond.value, Term.eval] at h
    rw [h]
theorem fmK_ok (l : Launch) : FmK l := by
  intro M d pc L st w post x y idx hy hd hct hdg hl kk
  intro E p e s m args below meth c H locs ls C X V
  intro T hT X0
  have hrr : ((st.map (pe E.ad)).map fun v => v.category).sum ≤ 8 := by
    have : ((fun v : Value => v.category) ∘ pe E.ad) = fun v : Value => v.category := by funext v; exact pe_cat E.ad v
    rw [List.map_map, this, ct_sum]
    exact hct
  have hcd := C.get fmW_c
  obtain ⟨v, vm', X', ⟨first, t, hpost⟩, hstep⟩ := X0.staticByContractV C.1 C.2.2.2.2.1 (C.get hl) (C.get fmW_s) (C.get fmW_i) hcd (by decide) (fm_ml l (x := x) hy) rfl rfl rfl rfl (fun _ _ _ _ h => fmS_ret h) (g := F0 m pc ls (.int y :: .int x :: st.map (pe E.ad))) rfl (V.1.trans C.2.2.2.1.symm) (argsL := [.int x, .int y]) (rest := st.map (pe E.ad))
    (fun sig hs => by
      have h : parseMethodDescriptor "(II)I" = some { parameters := [.int, .int], returnType := some .int } := by decide +kernel
      rw [show yJ9_floorMod_7cf53.desc = "(II)I" from rfl, h] at hs
      rw [← Option.some.inj hs]; rfl)
    rfl (by rw [C.2.1]; exact hdg)
    (fun vm' hW => by
      simp only [fmS, Cond.before_and, Bool.and_eq_true]
      refine ⟨?_, rfl, rfl, rfl, by simp [Cond.before, Cond.holds, Cond.value, Term.eval], by simp [Cond.before, Cond.holds, Cond.value, Term.eval]⟩
      have q := hcd
      rw [← Cond.code_setVm hW.alike] at q
      simp only [Cond.before, Cond.holds, Cond.value, State.methodNamed?, State.vm_setVm] at q ⊢
      exact q)
    (by show 0 + 1 ≤ d; omega) (by show 2 * 0 + _ + (3 + 11) + 0 ≤ 40 * d; omega) (Nat.le_refl 0) (Nat.le_refl 0)
  rw [fmS_val hpost] at hstep
  obtain ⟨t2, a1, b1⟩ := kk E p e s m args below meth c H locs ls C X V (T.setVm vm') hT X'
  exact ⟨t2, hstep t2 a1, b1⟩
