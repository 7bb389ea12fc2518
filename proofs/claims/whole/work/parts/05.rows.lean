section BR
variable {Λ : Ly} {l : Launch} {M : MI} {d pc : Nat} {L st : List Value} {w : Wd} {post : Option Value → Wd → Prop}
theorem b_iadd {x y : Int32} (hd : decode M.2.1 pc = .ok (.iadd, 1))  (k : Bd Λ l M d (pc + 1) L (.int (x + y) :: st) w post) : Bd Λ l M d pc L (.int y :: .int x :: st) w post := by
  intro E p e s m args below meth c H locs ls C X V
  exact lv_iadd C.1 C.2.1 hd (k E p e s m args below meth c H locs ls C X V)
theorem b_isub {x y : Int32} (hd : decode M.2.1 pc = .ok (.isub, 1))  (k : Bd Λ l M d (pc + 1) L (.int (x - y) :: st) w post) : Bd Λ l M d pc L (.int y :: .int x :: st) w post := by
  intro E p e s m args below meth c H locs ls C X V
  exact lv_isub C.1 C.2.1 hd (k E p e s m args below meth c H locs ls C X V)
theorem b_imul {x y : Int32} (hd : decode M.2.1 pc = .ok (.imul, 1))  (k : Bd Λ l M d (pc + 1) L (.int (x * y) :: st) w post) : Bd Λ l M d pc L (.int y :: .int x :: st) w post := by
  intro E p e s m args below meth c H locs ls C X V
  exact lv_imul C.1 C.2.1 hd (k E p e s m args below meth c H locs ls C X V)
theorem b_iand {x y : Int32} (hd : decode M.2.1 pc = .ok (.iand, 1))  (k : Bd Λ l M d (pc + 1) L (.int (x &&& y) :: st) w post) : Bd Λ l M d pc L (.int y :: .int x :: st) w post := by
  intro E p e s m args below meth c H locs ls C X V
  exact lv_iand C.1 C.2.1 hd (k E p e s m args below meth c H locs ls C X V)
theorem b_ior {x y : Int32} (hd : decode M.2.1 pc = .ok (.ior, 1))  (k : Bd Λ l M d (pc + 1) L (.int (x ||| y) :: st) w post) : Bd Λ l M d pc L (.int y :: .int x :: st) w post := by
  intro E p e s m args below meth c H locs ls C X V
  exact lv_ior C.1 C.2.1 hd (k E p e s m args below meth c H locs ls C X V)
theorem b_ixor {x y : Int32} (hd : decode M.2.1 pc = .ok (.ixor, 1))  (k : Bd Λ l M d (pc + 1) L (.int (x ^^^ y) :: st) w post) : Bd Λ l M d pc L (.int y :: .int x :: st) w post := by
  intro E p e s m args below meth c H locs ls C X V
  exact lv_ixor C.1 C.2.1 hd (k E p e s m args below meth c H locs ls C X V)
theorem b_ladd {x y : Int64} (hd : decode M.2.1 pc = .ok (.ladd, 1))  (k : Bd Λ l M d (pc + 1) L (.long (x + y) :: st) w post) : Bd Λ l M d pc L (.long y :: .long x :: st) w post := by
  intro E p e s m args below meth c H locs ls C X V
  exact lv_ladd C.1 C.2.1 hd (k E p e s m args below meth c H locs ls C X V)
theorem b_lsub {x y : Int64} (hd : decode M.2.1 pc = .ok (.lsub, 1))  (k : Bd Λ l M d (pc + 1) L (.long (x - y) :: st) w post) : Bd Λ l M d pc L (.long y :: .long x :: st) w post := by
  intro E p e s m args below meth c H locs ls C X V
  exact lv_lsub C.1 C.2.1 hd (k E p e s m args below meth c H locs ls C X V)
theorem b_lmul {x y : Int64} (hd : decode M.2.1 pc = .ok (.lmul, 1))  (k : Bd Λ l M d (pc + 1) L (.long (x * y) :: st) w post) : Bd Λ l M d pc L (.long y :: .long x :: st) w post := by
  intro E p e s m args below meth c H locs ls C X V
  exact lv_lmul C.1 C.2.1 hd (k E p e s m args below meth c H locs ls C X V)
theorem b_land {x y : Int64} (hd : decode M.2.1 pc = .ok (.land, 1))  (k : Bd Λ l M d (pc + 1) L (.long (x &&& y) :: st) w post) : Bd Λ l M d pc L (.long y :: .long x :: st) w post := by
  intro E p e s m args below meth c H locs ls C X V
  exact lv_land C.1 C.2.1 hd (k E p e s m args below meth c H locs ls C X V)
theorem b_lor {x y : Int64} (hd : decode M.2.1 pc = .ok (.lor, 1))  (k : Bd Λ l M d (pc + 1) L (.long (x ||| y) :: st) w post) : Bd Λ l M d pc L (.long y :: .long x :: st) w post := by
  intro E p e s m args below meth c H locs ls C X V
  exact lv_lor C.1 C.2.1 hd (k E p e s m args below meth c H locs ls C X V)
theorem b_idiv {x y : Int32} (hd : decode M.2.1 pc = .ok (.idiv, 1)) (hne : ¬ y = 0) (k : Bd Λ l M d (pc + 1) L (.int (x / y) :: st) w post) : Bd Λ l M d pc L (.int y :: .int x :: st) w post := by
  intro E p e s m args below meth c H locs ls C X V
  exact lv_idiv C.1 C.2.1 hd hne (k E p e s m args below meth c H locs ls C X V)
theorem b_irem {x y : Int32} (hd : decode M.2.1 pc = .ok (.irem, 1)) (hne : ¬ y = 0) (k : Bd Λ l M d (pc + 1) L (.int (x - x / y * y) :: st) w post) : Bd Λ l M d pc L (.int y :: .int x :: st) w post := by
  intro E p e s m args below meth c H locs ls C X V
  exact lv_irem C.1 C.2.1 hd hne (k E p e s m args below meth c H locs ls C X V)
theorem b_ldiv {x y : Int64} (hd : decode M.2.1 pc = .ok (.ldiv, 1)) (hne : ¬ y = 0) (k : Bd Λ l M d (pc + 1) L (.long (x / y) :: st) w post) : Bd Λ l M d pc L (.long y :: .long x :: st) w post := by
  intro E p e s m args below meth c H locs ls C X V
  exact lv_ldiv C.1 C.2.1 hd hne (k E p e s m args below meth c H locs ls C X V)
theorem b_lrem {x y : Int64} (hd : decode M.2.1 pc = .ok (.lrem, 1)) (hne : ¬ y = 0) (k : Bd Λ l M d (pc + 1) L (.long (x - x / y * y) :: st) w post) : Bd Λ l M d pc L (.long y :: .long x :: st) w post := by
  intro E p e s m args below meth c H locs ls C X V
  exact lv_lrem C.1 C.2.1 hd hne (k E p e s m args below meth c H locs ls C X V)
theorem b_ishl {x y : Int32} (hd : decode M.2.1 pc = .ok (.ishl, 1))  (k : Bd Λ l M d (pc + 1) L (.int (x <<< (y &&& 31)) :: st) w post) : Bd Λ l M d pc L (.int y :: .int x :: st) w post := by
  intro E p e s m args below meth c H locs ls C X V
  exact lv_ishl C.1 C.2.1 hd (k E p e s m args below meth c H locs ls C X V)
theorem b_ishr {x y : Int32} (hd : decode M.2.1 pc = .ok (.ishr, 1))  (k : Bd Λ l M d (pc + 1) L (.int (x >>> (y &&& 31)) :: st) w post) : Bd Λ l M d pc L (.int y :: .int x :: st) w post := by
  intro E p e s m args below meth c H locs ls C X V
  exact lv_ishr C.1 C.2.1 hd (k E p e s m args below meth c H locs ls C X V)
theorem b_iushr {x y : Int32} (hd : decode M.2.1 pc = .ok (.iushr, 1))  (k : Bd Λ l M d (pc + 1) L (.int (x.toUInt32 >>> (y.toUInt32 &&& Int32.toUInt32 31)).toInt32 :: st) w post) : Bd Λ l M d pc L (.int y :: .int x :: st) w post := by
  intro E p e s m args below meth c H locs ls C X V
  exact lv_iushr C.1 C.2.1 hd rfl (k E p e s m args below meth c H locs ls C X V)
theorem b_lshl {x : Int64} {y : Int32} (hd : decode M.2.1 pc = .ok (.lshl, 1))  (k : Bd Λ l M d (pc + 1) L (.long (x <<< (y.toInt64 &&& 63)) :: st) w post) : Bd Λ l M d pc L (.int y :: .long x :: st) w post := by
  intro E p e s m args below meth c H locs ls C X V
  exact lv_lshl C.1 C.2.1 hd rfl (k E p e s m args below meth c H locs ls C X V)
theorem b_i2l {x : Int32} (hd : decode M.2.1 pc = .ok (.i2l, 1))  (k : Bd Λ l M d (pc + 1) L (.long x.toInt64 :: st) w post) : Bd Λ l M d pc L (.int x :: st) w post := by
  intro E p e s m args below meth c H locs ls C X V
  exact lv_i2l C.1 C.2.1 hd rfl (k E p e s m args below meth c H locs ls C X V)
theorem b_l2i {x : Int64} (hd : decode M.2.1 pc = .ok (.l2i, 1))  (k : Bd Λ l M d (pc + 1) L (.int x.toInt32 :: st) w post) : Bd Λ l M d pc L (.long x :: st) w post := by
  intro E p e s m args below meth c H locs ls C X V
  exact lv_l2i C.1 C.2.1 hd rfl (k E p e s m args below meth c H locs ls C X V)
theorem b_i2b {x : Int32} (hd : decode M.2.1 pc = .ok (.i2b, 1))  (k : Bd Λ l M d (pc + 1) L (.int x.toInt8.toInt32 :: st) w post) : Bd Λ l M d pc L (.int x :: st) w post := by
  intro E p e s m args below meth c H locs ls C X V
  exact lv_i2b C.1 C.2.1 hd rfl (k E p e s m args below meth c H locs ls C X V)
theorem b_i2s {x : Int32} (hd : decode M.2.1 pc = .ok (.i2s, 1))  (k : Bd Λ l M d (pc + 1) L (.int x.toInt16.toInt32 :: st) w post) : Bd Λ l M d pc L (.int x :: st) w post := by
  intro E p e s m args below meth c H locs ls C X V
  exact lv_i2s C.1 C.2.1 hd rfl (k E p e s m args below meth c H locs ls C X V)
theorem b_i2c {x : Int32} (hd : decode M.2.1 pc = .ok (.i2c, 1))  (k : Bd Λ l M d (pc + 1) L (.int (x.toUInt32 % 65536).toInt32 :: st) w post) : Bd Λ l M d pc L (.int x :: st) w post := by
  intro E p e s m args below meth c H locs ls C X V
  exact lv_i2c C.1 C.2.1 hd rfl (k E p e s m args below meth c H locs ls C X V)
theorem b_iconst {n : Int} (v : Int32) (hd : decode M.2.1 pc = .ok (.iconst n, 1)) (hv : Int32.ofInt n = v) (k : Bd Λ l M d (pc + 1) L (.int v :: st) w post) : Bd Λ l M d pc L st w post := by
  intro E p e s m args below meth c H locs ls C X V
  exact lv_iconst C.1 C.2.1 hd hv (k E p e s m args below meth c H locs ls C X V)
theorem b_bipush {n : Int} (v : Int32) (hd : decode M.2.1 pc = .ok (.bipush n, 2)) (hv : (Int8.ofInt n).toInt32 = v) (k : Bd Λ l M d (pc + 2) L (.int v :: st) w post) : Bd Λ l M d pc L st w post := by
  intro E p e s m args below meth c H locs ls C X V
  exact lv_bipush C.1 C.2.1 hd hv (k E p e s m args below meth c H locs ls C X V)
theorem b_sipush {n : Int} (v : Int32) (hd : decode M.2.1 pc = .ok (.sipush n, 3)) (hv : (Int16.ofInt n).toInt32 = v) (k : Bd Λ l M d (pc + 3) L (.int v :: st) w post) : Bd Λ l M d pc L st w post := by
  intro E p e s m args below meth c H locs ls C X V
  exact lv_sipush C.1 C.2.1 hd hv (k E p e s m args below meth c H locs ls C X V)
theorem b_lconst {n : Fin 2} (v : Int64) (hd : decode M.2.1 pc = .ok (.lconst n, 1)) (hv : Int64.ofNat (n : Nat) = v) (k : Bd Λ l M d (pc + 1) L (.long v :: st) w post) : Bd Λ l M d pc L st w post := by
  intro E p e s m args below meth c H locs ls C X V
  exact lv_lconst C.1 C.2.1 hd hv (k E p e s m args below meth c H locs ls C X V)
theorem b_ldc {i : Nat} {v : Int32} (hw : Cond.constant M.1.cls i v ∈ GG) (hd : decode M.2.1 pc = .ok (.ldc i, 2)) (k : Bd Λ l M d (pc + 2) L (.int v :: st) w post) : Bd Λ l M d pc L st w post := by
  intro E p e s m args below meth c H locs ls C X V
  exact lv_ldc C.1 C.2.1 C.2.2.2.2.1 (C.2.2.2.2.2.1 _ (List.mem_cons_of_mem _ hw)) hd (k E p e s m args below meth c H locs ls C X V)
theorem b_ldcw {i : Nat} {v : Int32} (hw : Cond.constant M.1.cls i v ∈ GG) (hd : decode M.2.1 pc = .ok (.ldc_w i, 3)) (k : Bd Λ l M d (pc + 3) L (.int v :: st) w post) : Bd Λ l M d pc L st w post := by
  intro E p e s m args below meth c H locs ls C X V
  exact lv_ldcw C.1 C.2.1 C.2.2.2.2.1 (C.2.2.2.2.2.1 _ (List.mem_cons_of_mem _ hw)) hd (k E p e s m args below meth c H locs ls C X V)
theorem b_ldc2 {i : Nat} {v : Int64} (hw : Cond.constantLong M.1.cls i v ∈ GG) (hd : decode M.2.1 pc = .ok (.ldc2_w i, 3)) (k : Bd Λ l M d (pc + 3) L (.long v :: st) w post) : Bd Λ l M d pc L st w post := by
  intro E p e s m args below meth c H locs ls C X V
  exact lv_ldc2 C.1 C.2.1 C.2.2.2.2.1 (C.2.2.2.2.2.1 _ (List.mem_cons_of_mem _ hw)) hd (k E p e s m args below meth c H locs ls C X V)
theorem LV.at {E : En} {nL : Nat} {L : List Value} {ls : Array Slot} (V : LV E nL L ls) {i : Nat} {v : Value} (h : L[i]? = some v) (hv : v ≠ jk) : ls[i]? = some (.val (pe E.ad v)) := V.2.2 i v h hv
theorem b_iload_n {j : Fin 4} {x : Int32} (hd : decode M.2.1 pc = .ok (.iload_n j, 1)) (hl : L[(j : Nat)]? = some (.int x)) (k : Bd Λ l M d (pc + 1) L (.int x :: st) w post) : Bd Λ l M d pc L st w post := by
  intro E p e s m args below meth c H locs ls C X V
  exact lv_iload_n C.1 C.2.1 hd rfl (V.at hl (by intro h; cases h)) (k E p e s m args below meth c H locs ls C X V)
theorem b_iload {j : Nat} {x : Int32} (hd : decode M.2.1 pc = .ok (.iload j, 2)) (hl : L[j]? = some (.int x)) (k : Bd Λ l M d (pc + 2) L (.int x :: st) w post) : Bd Λ l M d pc L st w post := by
  intro E p e s m args below meth c H locs ls C X V
  exact lv_iload C.1 C.2.1 hd (V.at hl (by intro h; cases h)) (k E p e s m args below meth c H locs ls C X V)
theorem b_lload_n {j : Fin 4} {x : Int64} (hd : decode M.2.1 pc = .ok (.lload_n j, 1)) (hl : L[(j : Nat)]? = some (.long x)) (k : Bd Λ l M d (pc + 1) L (.long x :: st) w post) : Bd Λ l M d pc L st w post := by
  intro E p e s m args below meth c H locs ls C X V
  exact lv_lload_n C.1 C.2.1 hd rfl (V.at hl (by intro h; cases h)) (k E p e s m args below meth c H locs ls C X V)
theorem b_lload {j : Nat} {x : Int64} (hd : decode M.2.1 pc = .ok (.lload j, 2)) (hl : L[j]? = some (.long x)) (k : Bd Λ l M d (pc + 2) L (.long x :: st) w post) : Bd Λ l M d pc L st w post := by
  intro E p e s m args below meth c H locs ls C X V
  exact lv_lload C.1 C.2.1 hd (V.at hl (by intro h; cases h)) (k E p e s m args below meth c H locs ls C X V)
theorem b_aload_n {j : Fin 4} {x : Nat} (hd : decode M.2.1 pc = .ok (.aload_n j, 1)) (hl : L[(j : Nat)]? = some (.ref x)) (k : Bd Λ l M d (pc + 1) L (.ref x :: st) w post) : Bd Λ l M d pc L st w post := by
  intro E p e s m args below meth c H locs ls C X V
  exact lv_aload_n C.1 C.2.1 hd rfl (V.at hl (by intro h; cases h)) (k E p e s m args below meth c H locs ls C X V)
theorem b_aload {j : Nat} {x : Nat} (hd : decode M.2.1 pc = .ok (.aload j, 2)) (hl : L[j]? = some (.ref x)) (k : Bd Λ l M d (pc + 2) L (.ref x :: st) w post) : Bd Λ l M d pc L st w post := by
  intro E p e s m args below meth c H locs ls C X V
  exact lv_aload C.1 C.2.1 hd (V.at hl (by intro h; cases h)) (k E p e s m args below meth c H locs ls C X V)
def asL (ad : Nat → Nat) (L : List Value) : List (Nat × Value) := (List.range L.length).filterMap (fun i => match L[i]? with | some v => if v = jk then none else some (i, pe ad v) | none => none)
theorem asL_in {ad : Nat → Nat} {L : List Value} {i : Nat} {v : Value} (h : L[i]? = some v) (hv : v ≠ jk) : (i, pe ad v) ∈ asL ad L := by
  refine List.mem_filterMap.mpr ⟨i, List.mem_range.mpr (List.getElem?_eq_some_iff.mp h).1, ?_⟩
  simp only [h, if_neg hv]
theorem asL_inv {ad : Nat → Nat} {L : List Value} {q : Nat × Value} (h : q ∈ asL ad L) : ∃ v, L[q.1]? = some v ∧ v ≠ jk ∧ q.2 = pe ad v := by
  obtain ⟨i, -, h2⟩ := List.mem_filterMap.mp h
  cases hL : L[i]? with
  | none => simp [hL] at h2
  | some v =>
    simp only [hL] at h2
    by_cases hv : v = jk
    · simp [hv] at h2
    · rw [if_neg hv] at h2
      cases h2
      exact ⟨v, hL, hv, rfl⟩
theorem LV.has {E : En} {nL : Nat} {L : List Value} {ls : Array Slot} (V : LV E nL L ls) : lv_has ls nL (asL E.ad L) := by
  refine ⟨V.1, V.2.1, fun q hq => ?_⟩
  obtain ⟨v, h1, h2, h3⟩ := asL_inv hq
  rw [h3]
  exact V.2.2 _ _ h1 h2
/-- the local before isn't a long's first half -/
def okP (L : List Value) (i : Nat) : Bool := (List.range L.length).all (fun j => !(j + 1 == i) || (match L[j]? with | some u => !(u.category == 2) | none => true))
theorem okP_use {L : List Value} {i j : Nat} {u : Value} (h : okP L i = true) (hj : j + 1 = i) (hu : L[j]? = some u) : ¬ u.category = 2 := by
  have := List.all_eq_true.mp h j (List.mem_range.mpr (List.getElem?_eq_some_iff.mp hu).1)
  simp only [hu, hj] at this
  simpa using this
theorem LV.set1 {E : En} {nL : Nat} {L : List Value} {ls : Array Slot} {i : Nat} {v : Value} (ho : okP L i = true) (h : lv_has ls nL ((i, pe E.ad v) :: (asL E.ad L).filter (fun q => !(q.1 == i) && !(q.1 + 1 == i && q.2.category == 2)))) : LV E nL (L.set i v) ls := by
  refine ⟨h.1, h.2.1, fun j u hj hu => ?_⟩
  rw [List.getElem?_set] at hj
  by_cases e : i = j
  · subst e
    rw [if_pos rfl] at hj
    by_cases hl : i < L.length
    · rw [if_pos hl] at hj
      cases hj
      exact h.2.2 _ List.mem_cons_self
    · rw [if_neg hl] at hj
      cases hj
  · rw [if_neg e] at hj
    refine h.2.2 _ (List.mem_cons_of_mem _ (List.mem_filter.mpr ⟨asL_in hj hu, ?_⟩))
    have h1 : ¬ j = i := fun q => e q.symm
    by_cases h2 : j + 1 = i
    · have := okP_use ho h2 hj
      simp [h1, h2, pe_cat, this]
    · simp [h1, h2]
theorem LV.set2 {E : En} {nL : Nat} {L : List Value} {ls : Array Slot} {i : Nat} {v : Value} (ho : okP L i = true) (h : lv_has ls nL ((i, pe E.ad v) :: (asL E.ad L).filter (fun q => !(q.1 == i) && (!(q.1 == i + 1) && !(q.1 + 1 == i && q.2.category == 2))))) : LV E nL ((L.set i v).set (i + 1) jk) ls := by
  refine ⟨h.1, h.2.1, fun j u hj hu => ?_⟩
  rw [List.getElem?_set] at hj
  by_cases e2 : i + 1 = j
  · subst e2
    rw [if_pos rfl] at hj
    by_cases hl : i + 1 < (L.set i v).length
    · rw [if_pos hl] at hj
      cases hj
      exact absurd rfl hu
    · rw [if_neg hl] at hj
      cases hj
  · rw [if_neg e2, List.getElem?_set] at hj
    by_cases e : i = j
    · subst e
      rw [if_pos rfl] at hj
      by_cases hl : i < L.length
      · rw [if_pos hl] at hj
        cases hj
        exact h.2.2 _ List.mem_cons_self
      · rw [if_neg hl] at hj
        cases hj
    · rw [if_neg e] at hj
      refine h.2.2 _ (List.mem_cons_of_mem _ (List.mem_filter.mpr ⟨asL_in hj hu, ?_⟩))
      have h1 : ¬ j = i := fun q => e q.symm
      have h3 : ¬ j = i + 1 := fun q => e2 q.symm
      by_cases h2 : j + 1 = i
      · have := okP_use ho h2 hj
        simp [h1, h2, h3, pe_cat, this]
      · simp [h1, h2, h3]
theorem b_istore_n {j : Fin 4} {x : Int32} (L' : List Value) (hd : decode M.2.1 pc = .ok (.istore_n j, 1)) (hn : (j : Nat) < M.2.2.1) (ho : okP L j = true) (hL : L.set (j : Nat) (.int x) = L') (k : Bd Λ l M d (pc + 1) L' st w post) : Bd Λ l M d pc L (.int x :: st) w post := by
  subst hL
  intro E p e s m args below meth c H locs ls C X V
  exact lv_istore_n C.1 C.2.1 hd rfl V.has hn rfl (fun ls' hl => k E p e s m args below meth c H locs ls' C X (LV.set1 (v := .int x) ho hl))
theorem b_istore {j : Nat} {x : Int32} (L' : List Value) (hd : decode M.2.1 pc = .ok (.istore j, 2)) (hn : j < M.2.2.1) (ho : okP L j = true) (hL : L.set j (.int x) = L') (k : Bd Λ l M d (pc + 2) L' st w post) : Bd Λ l M d pc L (.int x :: st) w post := by
  subst hL
  intro E p e s m args below meth c H locs ls C X V
  exact lv_istore C.1 C.2.1 hd V.has hn rfl (fun ls' hl => k E p e s m args below meth c H locs ls' C X (LV.set1 (v := .int x) ho hl))
theorem b_astore_n {j : Fin 4} {x : Nat} (L' : List Value) (hd : decode M.2.1 pc = .ok (.astore_n j, 1)) (hn : (j : Nat) < M.2.2.1) (ho : okP L j = true) (hL : L.set (j : Nat) (.ref x) = L') (k : Bd Λ l M d (pc + 1) L' st w post) : Bd Λ l M d pc L (.ref x :: st) w post := by
  subst hL
  intro E p e s m args below meth c H locs ls C X V
  exact lv_astore_n C.1 C.2.1 hd rfl V.has hn rfl (fun ls' hl => k E p e s m args below meth c H locs ls' C X (LV.set1 (v := .ref x) ho hl))
theorem b_astore {j : Nat} {x : Nat} (L' : List Value) (hd : decode M.2.1 pc = .ok (.astore j, 2)) (hn : j < M.2.2.1) (ho : okP L j = true) (hL : L.set j (.ref x) = L') (k : Bd Λ l M d (pc + 2) L' st w post) : Bd Λ l M d pc L (.ref x :: st) w post := by
  subst hL
  intro E p e s m args below meth c H locs ls C X V
  exact lv_astore C.1 C.2.1 hd V.has hn rfl (fun ls' hl => k E p e s m args below meth c H locs ls' C X (LV.set1 (v := .ref x) ho hl))
theorem b_lstore_n {j : Fin 4} {x : Int64} (L' : List Value) (hd : decode M.2.1 pc = .ok (.lstore_n j, 1)) (hn : (j : Nat) + 1 < M.2.2.1) (ho : okP L j = true) (hL : (L.set (j : Nat) (.long x)).set ((j : Nat) + 1) jk = L') (k : Bd Λ l M d (pc + 1) L' st w post) : Bd Λ l M d pc L (.long x :: st) w post := by
  subst hL
  intro E p e s m args below meth c H locs ls C X V
  exact lv_lstore_n C.1 C.2.1 hd rfl V.has hn rfl (fun ls' hl => k E p e s m args below meth c H locs ls' C X (LV.set2 (v := .long x) ho hl))
theorem b_lstore {j : Nat} {x : Int64} (L' : List Value) (hd : decode M.2.1 pc = .ok (.lstore j, 2)) (hn : j + 1 < M.2.2.1) (ho : okP L j = true) (hL : (L.set j (.long x)).set (j + 1) jk = L') (k : Bd Λ l M d (pc + 2) L' st w post) : Bd Λ l M d pc L (.long x :: st) w post := by
  subst hL
  intro E p e s m args below meth c H locs ls C X V
  exact lv_lstore C.1 C.2.1 hd V.has hn rfl (fun ls' hl => k E p e s m args below meth c H locs ls' C X (LV.set2 (v := .long x) ho hl))
theorem b_iinc {j : Nat} {n : Int} {x : Int32} (v : Int32) (L' : List Value) (hd : decode M.2.1 pc = .ok (.iinc j n, 3)) (hn : j < M.2.2.1) (ho : okP L j = true) (hx : L[j]? = some (.int x)) (hv : x + Int32.ofInt n = v) (hL : L.set j (.int v) = L') (k : Bd Λ l M d (pc + 3) L' st w post) : Bd Λ l M d pc L st w post := by
  subst hL
  intro E p e s m args below meth c H locs ls C X V
  obtain ⟨q, hq⟩ := List.getElem?_of_mem (asL_in (ad := E.ad) hx (by intro h; cases h))
  exact lv_iinc C.1 C.2.1 hd V.has hq hv hn rfl (fun ls' hl => k E p e s m args below meth c H locs ls' C X (LV.set1 (v := .int v) ho hl))
/-- what is known of a local may be forgotten -/
theorem b_drop (L' : List Value) (h : ∀ (i : Nat) (v : Value), L'[i]? = some v → v ≠ jk → L[i]? = some v) (k : Bd Λ l M d pc L' st w post) : Bd Λ l M d pc L st w post := by
  intro E p e s m args below meth c H locs ls C X V
  exact k E p e s m args below meth c H locs ls C X ⟨V.1, V.2.1, fun i v hi hv => V.2.2 i v (h i v hi hv) hv⟩
theorem b_top {x y : Int32} (e : x = y) (k : Bd Λ l M d pc L (.int y :: st) w post) : Bd Λ l M d pc L (.int x :: st) w post := e ▸ k
theorem b_topl {x y : Int64} (e : x = y) (k : Bd Λ l M d pc L (.long y :: st) w post) : Bd Λ l M d pc L (.long x :: st) w post := e ▸ k
theorem b_wd {w' : Wd} (e : w = w') (k : Bd Λ l M d pc L st w' post) : Bd Λ l M d pc L st w post := e ▸ k
theorem b_dup_i {x : Int32} (hd : decode M.2.1 pc = .ok (.dup, 1))  (k : Bd Λ l M d (pc + 1) L (.int x :: .int x :: st) w post) : Bd Λ l M d pc L (.int x :: st) w post := by
  intro E p e s m args below meth c H locs ls C X V
  exact lv_dup C.1 C.2.1 hd rfl (k E p e s m args below meth c H locs ls C X V)
theorem b_dup_r {x : Nat} (hd : decode M.2.1 pc = .ok (.dup, 1))  (k : Bd Λ l M d (pc + 1) L (.ref x :: .ref x :: st) w post) : Bd Λ l M d pc L (.ref x :: st) w post := by
  intro E p e s m args below meth c H locs ls C X V
  exact lv_dup C.1 C.2.1 hd rfl (k E p e s m args below meth c H locs ls C X V)
theorem b_pop_i {x : Int32} (hd : decode M.2.1 pc = .ok (.pop, 1))  (k : Bd Λ l M d (pc + 1) L (st) w post) : Bd Λ l M d pc L (.int x :: st) w post := by
  intro E p e s m args below meth c H locs ls C X V
  exact lv_pop C.1 C.2.1 hd rfl (k E p e s m args below meth c H locs ls C X V)
theorem b_dup2_ri {x : Nat} {i : Int32} (hd : decode M.2.1 pc = .ok (.dup2, 1))  (k : Bd Λ l M d (pc + 1) L (.int i :: .ref x :: .int i :: .ref x :: st) w post) : Bd Λ l M d pc L (.int i :: .ref x :: st) w post := by
  intro E p e s m args below meth c H locs ls C X V
  exact lv_dup2_11 C.1 C.2.1 hd rfl rfl (k E p e s m args below meth c H locs ls C X V)
theorem b_dup2_l {x : Int64} (hd : decode M.2.1 pc = .ok (.dup2, 1))  (k : Bd Λ l M d (pc + 1) L (.long x :: .long x :: st) w post) : Bd Λ l M d pc L (.long x :: st) w post := by
  intro E p e s m args below meth c H locs ls C X V
  exact lv_dup2_2 C.1 C.2.1 hd rfl (k E p e s m args below meth c H locs ls C X V)
theorem b_lcmp {x y : Int64} (hd : decode M.2.1 pc = .ok (.lcmp, 1))  (k : Bd Λ l M d (pc + 1) L (.int (lg_cmp x y) :: st) w post) : Bd Λ l M d pc L (.long y :: .long x :: st) w post := by
  intro E p e s m args below meth c H locs ls C X V
  exact W.lcmp C.1 C.2.1 hd (k E p e s m args below meth c H locs ls C X V)
theorem b_if_eq {x : Int32} {off : Int} (tgt : Nat) (hd : decode M.2.1 pc = .ok (.ifCond .eq off, 3)) (ht : (pc : Int) + off = (tgt : Int)) (kt : x = 0 → Bd Λ l M d tgt L st w post) (kf : ¬ x = 0 → Bd Λ l M d (pc + 3) L st w post) : Bd Λ l M d pc L (.int x :: st) w post := by
  intro E p e s m args below meth c H locs ls C X V
  exact lv_if_eq C.1 C.2.1 hd ht (fun h => kt h E p e s m args below meth c H locs ls C X V) (fun h => kf h E p e s m args below meth c H locs ls C X V)
theorem b_icmp_eq {x y : Int32} {off : Int} (tgt : Nat) (hd : decode M.2.1 pc = .ok (.if_icmp .eq off, 3)) (ht : (pc : Int) + off = (tgt : Int)) (kt : x = y → Bd Λ l M d tgt L st w post) (kf : ¬ x = y → Bd Λ l M d (pc + 3) L st w post) : Bd Λ l M d pc L (.int y :: .int x :: st) w post := by
  intro E p e s m args below meth c H locs ls C X V
  exact lv_icmp_eq C.1 C.2.1 hd ht (fun h => kt h E p e s m args below meth c H locs ls C X V) (fun h => kf h E p e s m args below meth c H locs ls C X V)
theorem b_if_ne {x : Int32} {off : Int} (tgt : Nat) (hd : decode M.2.1 pc = .ok (.ifCond .ne off, 3)) (ht : (pc : Int) + off = (tgt : Int)) (kt : ¬ x = 0 → Bd Λ l M d tgt L st w post) (kf : x = 0 → Bd Λ l M d (pc + 3) L st w post) : Bd Λ l M d pc L (.int x :: st) w post := by
  intro E p e s m args below meth c H locs ls C X V
  exact lv_if_ne C.1 C.2.1 hd ht (fun h => kt h E p e s m args below meth c H locs ls C X V) (fun h => kf h E p e s m args below meth c H locs ls C X V)
theorem b_icmp_ne {x y : Int32} {off : Int} (tgt : Nat) (hd : decode M.2.1 pc = .ok (.if_icmp .ne off, 3)) (ht : (pc : Int) + off = (tgt : Int)) (kt : ¬ x = y → Bd Λ l M d tgt L st w post) (kf : x = y → Bd Λ l M d (pc + 3) L st w post) : Bd Λ l M d pc L (.int y :: .int x :: st) w post := by
  intro E p e s m args below meth c H locs ls C X V
  exact lv_icmp_ne C.1 C.2.1 hd ht (fun h => kt h E p e s m args below meth c H locs ls C X V) (fun h => kf h E p e s m args below meth c H locs ls C X V)
theorem b_if_lt {x : Int32} {off : Int} (tgt : Nat) (hd : decode M.2.1 pc = .ok (.ifCond .lt off, 3)) (ht : (pc : Int) + off = (tgt : Int)) (kt : x < 0 → Bd Λ l M d tgt L st w post) (kf : ¬ x < 0 → Bd Λ l M d (pc + 3) L st w post) : Bd Λ l M d pc L (.int x :: st) w post := by
  intro E p e s m args below meth c H locs ls C X V
  exact lv_if_lt C.1 C.2.1 hd ht (fun h => kt h E p e s m args below meth c H locs ls C X V) (fun h => kf h E p e s m args below meth c H locs ls C X V)
theorem b_icmp_lt {x y : Int32} {off : Int} (tgt : Nat) (hd : decode M.2.1 pc = .ok (.if_icmp .lt off, 3)) (ht : (pc : Int) + off = (tgt : Int)) (kt : x < y → Bd Λ l M d tgt L st w post) (kf : ¬ x < y → Bd Λ l M d (pc + 3) L st w post) : Bd Λ l M d pc L (.int y :: .int x :: st) w post := by
  intro E p e s m args below meth c H locs ls C X V
  exact lv_icmp_lt C.1 C.2.1 hd ht (fun h => kt h E p e s m args below meth c H locs ls C X V) (fun h => kf h E p e s m args below meth c H locs ls C X V)
theorem b_if_ge {x : Int32} {off : Int} (tgt : Nat) (hd : decode M.2.1 pc = .ok (.ifCond .ge off, 3)) (ht : (pc : Int) + off = (tgt : Int)) (kt : 0 ≤ x → Bd Λ l M d tgt L st w post) (kf : ¬ 0 ≤ x → Bd Λ l M d (pc + 3) L st w post) : Bd Λ l M d pc L (.int x :: st) w post := by
  intro E p e s m args below meth c H locs ls C X V
  exact lv_if_ge C.1 C.2.1 hd ht (fun h => kt h E p e s m args below meth c H locs ls C X V) (fun h => kf h E p e s m args below meth c H locs ls C X V)
theorem b_icmp_ge {x y : Int32} {off : Int} (tgt : Nat) (hd : decode M.2.1 pc = .ok (.if_icmp .ge off, 3)) (ht : (pc : Int) + off = (tgt : Int)) (kt : y ≤ x → Bd Λ l M d tgt L st w post) (kf : ¬ y ≤ x → Bd Λ l M d (pc + 3) L st w post) : Bd Λ l M d pc L (.int y :: .int x :: st) w post := by
  intro E p e s m args below meth c H locs ls C X V
  exact lv_icmp_ge C.1 C.2.1 hd ht (fun h => kt h E p e s m args below meth c H locs ls C X V) (fun h => kf h E p e s m args below meth c H locs ls C X V)
theorem b_if_gt {x : Int32} {off : Int} (tgt : Nat) (hd : decode M.2.1 pc = .ok (.ifCond .gt off, 3)) (ht : (pc : Int) + off = (tgt : Int)) (kt : 0 < x → Bd Λ l M d tgt L st w post) (kf : ¬ 0 < x → Bd Λ l M d (pc + 3) L st w post) : Bd Λ l M d pc L (.int x :: st) w post := by
  intro E p e s m args below meth c H locs ls C X V
  exact lv_if_gt C.1 C.2.1 hd ht (fun h => kt h E p e s m args below meth c H locs ls C X V) (fun h => kf h E p e s m args below meth c H locs ls C X V)
theorem b_icmp_gt {x y : Int32} {off : Int} (tgt : Nat) (hd : decode M.2.1 pc = .ok (.if_icmp .gt off, 3)) (ht : (pc : Int) + off = (tgt : Int)) (kt : y < x → Bd Λ l M d tgt L st w post) (kf : ¬ y < x → Bd Λ l M d (pc + 3) L st w post) : Bd Λ l M d pc L (.int y :: .int x :: st) w post := by
  intro E p e s m args below meth c H locs ls C X V
  exact lv_icmp_gt C.1 C.2.1 hd ht (fun h => kt h E p e s m args below meth c H locs ls C X V) (fun h => kf h E p e s m args below meth c H locs ls C X V)
theorem b_if_le {x : Int32} {off : Int} (tgt : Nat) (hd : decode M.2.1 pc = .ok (.ifCond .le off, 3)) (ht : (pc : Int) + off = (tgt : Int)) (kt : x ≤ 0 → Bd Λ l M d tgt L st w post) (kf : ¬ x ≤ 0 → Bd Λ l M d (pc + 3) L st w post) : Bd Λ l M d pc L (.int x :: st) w post := by
  intro E p e s m args below meth c H locs ls C X V
  exact lv_if_le C.1 C.2.1 hd ht (fun h => kt h E p e s m args below meth c H locs ls C X V) (fun h => kf h E p e s m args below meth c H locs ls C X V)
theorem b_icmp_le {x y : Int32} {off : Int} (tgt : Nat) (hd : decode M.2.1 pc = .ok (.if_icmp .le off, 3)) (ht : (pc : Int) + off = (tgt : Int)) (kt : x ≤ y → Bd Λ l M d tgt L st w post) (kf : ¬ x ≤ y → Bd Λ l M d (pc + 3) L st w post) : Bd Λ l M d pc L (.int y :: .int x :: st) w post := by
  intro E p e s m args below meth c H locs ls C X V
  exact lv_icmp_le C.1 C.2.1 hd ht (fun h => kt h E p e s m args below meth c H locs ls C X V) (fun h => kf h E p e s m args below meth c H locs ls C X V)
theorem b_goto {off : Int} (tgt : Nat) (hd : decode M.2.1 pc = .ok (.goto off, 3)) (ht : (pc : Int) + off = (tgt : Int)) (k : Bd Λ l M d tgt L st w post) : Bd Λ l M d pc L st w post := by
  intro E p e s m args below meth c H locs ls C X V
  exact lv_goto C.1 C.2.1 hd ht (k E p e s m args below meth c H locs ls C X V)
/-- a switch of places lo .. hi: one goal for the others, one for each place -/
theorem b_table {x : Int32} {dflt lo hi : Int} {offs : Array Int} {len : Nat} (hd : decode M.2.1 pc = .ok (.tableswitch dflt lo hi offs, len)) (kd : ∀ tgt : Nat, (pc : Int) + dflt = (tgt : Int) → (x.toInt < lo ∨ hi < x.toInt) → Bd Λ l M d tgt L st w post) (ki : ¬ x.toInt < lo → ¬ hi < x.toInt → ∃ (off : Int) (tgt : Nat), offs[(x.toInt - lo).toNat]? = some off ∧ (pc : Int) + off = (tgt : Int) ∧ Bd Λ l M d tgt L st w post) (hdn : ∃ tgt : Nat, (pc : Int) + dflt = (tgt : Int)) : Bd Λ l M d pc L (.int x :: st) w post := by
  intro E p e s m args below meth c H locs ls C X V
  by_cases h1 : x.toInt < lo ∨ hi < x.toInt
  · obtain ⟨tgt, ht⟩ := hdn
    exact lv_tableOut C.1 C.2.1 hd h1 ht (kd tgt ht h1 E p e s m args below meth c H locs ls C X V)
  · have h2 : ¬ x.toInt < lo := fun h => h1 (Or.inl h)
    have h3 : ¬ hi < x.toInt := fun h => h1 (Or.inr h)
    obtain ⟨off, tgt, ho, ht, k⟩ := ki h2 h3
    exact lv_tableIn C.1 C.2.1 hd h2 h3 ho ht (k E p e s m args below meth c H locs ls C X V)
theorem b_lookup {x : Int32} {dflt : Int} {ps : Array (Int × Int)} {len : Nat} {off : Int} (tgt : Nat) (hd : decode M.2.1 pc = .ok (.lookupswitch dflt ps, len)) (hp : (ps.toList.zip (ps.toList.drop 1)).all (fun (a, next) => a.1 < next.1) = true) (ho : Op.lookupswitch.offset ps.toList dflt x.toInt = off) (ht : (pc : Int) + off = (tgt : Int)) (k : Bd Λ l M d tgt L st w post) : Bd Λ l M d pc L (.int x :: st) w post := by
  intro E p e s m args below meth c H locs ls C X V
  exact lv_lookup C.1 C.2.1 hd hp ho ht (k E p e s m args below meth c H locs ls C X V)
theorem b_ireturn {x : Int32} (hr : M.2.2.2 = some .int) (hd : decode M.2.1 pc = .ok (.ireturn, 1)) (h : post (some (.int x)) w) : Bd Λ l M d pc L [.int x] w post := by
  intro E p e s m args below meth c H locs ls C X V
  exact W.iret C.1 C.2.1 (C.2.2.1.trans hr) (fun t ht hW => ⟨⟨some (.int x), w, rfl, h, by rw [ht]; exact X.1⟩, X.2.F ht⟩) X.2.2.2 hd C.2.2.2.2.2.2.1
theorem b_zreturn {x : Int32} {ty : FieldType} (hr : M.2.2.2 = some ty) (hn : narrow ty (.int x) = .int x) (hd : decode M.2.1 pc = .ok (.ireturn, 1)) (h : post (some (.int x)) w) : Bd Λ l M d pc L [.int x] w post := by
  intro E p e s m args below meth c H locs ls C X V
  exact W.zret C.1 C.2.1 (C.2.2.1.trans hr) hn (fun t ht hW => ⟨⟨some (.int x), w, rfl, h, by rw [ht]; exact X.1⟩, X.2.F ht⟩) X.2.2.2 hd C.2.2.2.2.2.2.1
theorem b_lreturn {x : Int64} (hr : M.2.2.2 = some .long) (hd : decode M.2.1 pc = .ok (.lreturn, 1)) (h : post (some (.long x)) w) : Bd Λ l M d pc L [.long x] w post := by
  intro E p e s m args below meth c H locs ls C X V
  exact W.lret C.1 C.2.1 (C.2.2.1.trans hr) (fun t ht hW => ⟨⟨some (.long x), w, rfl, h, by rw [ht]; exact X.1⟩, X.2.F ht⟩) X.2.2.2 hd C.2.2.2.2.2.2.1
theorem b_return (hr : M.2.2.2 = none) (hd : decode M.2.1 pc = .ok (.return_, 1)) (h : post none w) : Bd Λ l M d pc L [] w post := by
  intro E p e s m args below meth c H locs ls C X V
  exact W.vret C.1 C.2.1 (C.2.2.1.trans hr) (fun t ht hW => ⟨⟨none, w, rfl, h, by rw [ht]; exact X.1⟩, X.2.F ht⟩) X.2.2.2 hd C.2.2.2.2.2.2.1
theorem b_istore0 {a0 a1 : Value} {r : List Value} {x : Int32} (hd : decode M.2.1 pc = .ok (.istore_n 0, 1)) (hn : 0 < M.2.2.1) (ho : okP (a0 :: r) 0 = true) (k : Bd Λ l M d (pc + 1) (.int x :: r) st w post) : Bd Λ l M d pc (a0 :: r) (.int x :: st) w post := b_istore_n (.int x :: r) hd hn ho rfl k
theorem b_astore0 {a0 a1 : Value} {r : List Value} {x : Nat} (hd : decode M.2.1 pc = .ok (.astore_n 0, 1)) (hn : 0 < M.2.2.1) (ho : okP (a0 :: r) 0 = true) (k : Bd Λ l M d (pc + 1) (.ref x :: r) st w post) : Bd Λ l M d pc (a0 :: r) (.ref x :: st) w post := b_astore_n (.ref x :: r) hd hn ho rfl k
theorem b_lstore0 {a0 a1 : Value} {r : List Value} {x : Int64} (hd : decode M.2.1 pc = .ok (.lstore_n 0, 1)) (hn : 0 + 1 < M.2.2.1) (ho : okP (a0 :: a1 :: r) 0 = true) (k : Bd Λ l M d (pc + 1) (.long x :: jk :: r) st w post) : Bd Λ l M d pc (a0 :: a1 :: r) (.long x :: st) w post := b_lstore_n (.long x :: jk :: r) hd hn ho rfl k
theorem b_iinc0 {a0 a1 : Value} {r : List Value} {n : Int} {x : Int32} (hd : decode M.2.1 pc = .ok (.iinc 0 n, 3)) (hn : 0 < M.2.2.1) (ho : okP (.int x :: r) 0 = true) (v : Int32) (hv : Int32.ofInt n = v) (k : Bd Λ l M d (pc + 3) (.int (x + v) :: r) st w post) : Bd Λ l M d pc (.int x :: r) st w post := b_iinc (x + v) (.int (x + v) :: r) hd hn ho rfl (by rw [hv]) rfl k
theorem b_istore1 {a0 a1 a2 : Value} {r : List Value} {x : Int32} (hd : decode M.2.1 pc = .ok (.istore_n 1, 1)) (hn : 1 < M.2.2.1) (ho : okP (a0 :: a1 :: r) 1 = true) (k : Bd Λ l M d (pc + 1) (a0 :: .int x :: r) st w post) : Bd Λ l M d pc (a0 :: a1 :: r) (.int x :: st) w post := b_istore_n (a0 :: .int x :: r) hd hn ho rfl k
theorem b_astore1 {a0 a1 a2 : Value} {r : List Value} {x : Nat} (hd : decode M.2.1 pc = .ok (.astore_n 1, 1)) (hn : 1 < M.2.2.1) (ho : okP (a0 :: a1 :: r) 1 = true) (k : Bd Λ l M d (pc + 1) (a0 :: .ref x :: r) st w post) : Bd Λ l M d pc (a0 :: a1 :: r) (.ref x :: st) w post := b_astore_n (a0 :: .ref x :: r) hd hn ho rfl k
theorem b_lstore1 {a0 a1 a2 : Value} {r : List Value} {x : Int64} (hd : decode M.2.1 pc = .ok (.lstore_n 1, 1)) (hn : 1 + 1 < M.2.2.1) (ho : okP (a0 :: a1 :: a2 :: r) 1 = true) (k : Bd Λ l M d (pc + 1) (a0 :: .long x :: jk :: r) st w post) : Bd Λ l M d pc (a0 :: a1 :: a2 :: r) (.long x :: st) w post := b_lstore_n (a0 :: .long x :: jk :: r) hd hn ho rfl k
theorem b_iinc1 {a0 a1 a2 : Value} {r : List Value} {n : Int} {x : Int32} (hd : decode M.2.1 pc = .ok (.iinc 1 n, 3)) (hn : 1 < M.2.2.1) (ho : okP (a0 :: .int x :: r) 1 = true) (v : Int32) (hv : Int32.ofInt n = v) (k : Bd Λ l M d (pc + 3) (a0 :: .int (x + v) :: r) st w post) : Bd Λ l M d pc (a0 :: .int x :: r) st w post := b_iinc (x + v) (a0 :: .int (x + v) :: r) hd hn ho rfl (by rw [hv]) rfl k
theorem b_istore2 {a0 a1 a2 a3 : Value} {r : List Value} {x : Int32} (hd : decode M.2.1 pc = .ok (.istore_n 2, 1)) (hn : 2 < M.2.2.1) (ho : okP (a0 :: a1 :: a2 :: r) 2 = true) (k : Bd Λ l M d (pc + 1) (a0 :: a1 :: .int x :: r) st w post) : Bd Λ l M d pc (a0 :: a1 :: a2 :: r) (.int x :: st) w post := b_istore_n (a0 :: a1 :: .int x :: r) hd hn ho rfl k
theorem b_astore2 {a0 a1 a2 a3 : Value} {r : List Value} {x : Nat} (hd : decode M.2.1 pc = .ok (.astore_n 2, 1)) (hn : 2 < M.2.2.1) (ho : okP (a0 :: a1 :: a2 :: r) 2 = true) (k : Bd Λ l M d (pc + 1) (a0 :: a1 :: .ref x :: r) st w post) : Bd Λ l M d pc (a0 :: a1 :: a2 :: r) (.ref x :: st) w post := b_astore_n (a0 :: a1 :: .ref x :: r) hd hn ho rfl k
theorem b_lstore2 {a0 a1 a2 a3 : Value} {r : List Value} {x : Int64} (hd : decode M.2.1 pc = .ok (.lstore_n 2, 1)) (hn : 2 + 1 < M.2.2.1) (ho : okP (a0 :: a1 :: a2 :: a3 :: r) 2 = true) (k : Bd Λ l M d (pc + 1) (a0 :: a1 :: .long x :: jk :: r) st w post) : Bd Λ l M d pc (a0 :: a1 :: a2 :: a3 :: r) (.long x :: st) w post := b_lstore_n (a0 :: a1 :: .long x :: jk :: r) hd hn ho rfl k
theorem b_iinc2 {a0 a1 a2 a3 : Value} {r : List Value} {n : Int} {x : Int32} (hd : decode M.2.1 pc = .ok (.iinc 2 n, 3)) (hn : 2 < M.2.2.1) (ho : okP (a0 :: a1 :: .int x :: r) 2 = true) (v : Int32) (hv : Int32.ofInt n = v) (k : Bd Λ l M d (pc + 3) (a0 :: a1 :: .int (x + v) :: r) st w post) : Bd Λ l M d pc (a0 :: a1 :: .int x :: r) st w post := b_iinc (x + v) (a0 :: a1 :: .int (x + v) :: r) hd hn ho rfl (by rw [hv]) rfl k
theorem b_istore3 {a0 a1 a2 a3 a4 : Value} {r : List Value} {x : Int32} (hd : decode M.2.1 pc = .ok (.istore_n 3, 1)) (hn : 3 < M.2.2.1) (ho : okP (a0 :: a1 :: a2 :: a3 :: r) 3 = true) (k : Bd Λ l M d (pc + 1) (a0 :: a1 :: a2 :: .int x :: r) st w post) : Bd Λ l M d pc (a0 :: a1 :: a2 :: a3 :: r) (.int x :: st) w post := b_istore_n (a0 :: a1 :: a2 :: .int x :: r) hd hn ho rfl k
theorem b_astore3 {a0 a1 a2 a3 a4 : Value} {r : List Value} {x : Nat} (hd : decode M.2.1 pc = .ok (.astore_n 3, 1)) (hn : 3 < M.2.2.1) (ho : okP (a0 :: a1 :: a2 :: a3 :: r) 3 = true) (k : Bd Λ l M d (pc + 1) (a0 :: a1 :: a2 :: .ref x :: r) st w post) : Bd Λ l M d pc (a0 :: a1 :: a2 :: a3 :: r) (.ref x :: st) w post := b_astore_n (a0 :: a1 :: a2 :: .ref x :: r) hd hn ho rfl k
theorem b_lstore3 {a0 a1 a2 a3 a4 : Value} {r : List Value} {x : Int64} (hd : decode M.2.1 pc = .ok (.lstore_n 3, 1)) (hn : 3 + 1 < M.2.2.1) (ho : okP (a0 :: a1 :: a2 :: a3 :: a4 :: r) 3 = true) (k : Bd Λ l M d (pc + 1) (a0 :: a1 :: a2 :: .long x :: jk :: r) st w post) : Bd Λ l M d pc (a0 :: a1 :: a2 :: a3 :: a4 :: r) (.long x :: st) w post := b_lstore_n (a0 :: a1 :: a2 :: .long x :: jk :: r) hd hn ho rfl k
theorem b_iinc3 {a0 a1 a2 a3 a4 : Value} {r : List Value} {n : Int} {x : Int32} (hd : decode M.2.1 pc = .ok (.iinc 3 n, 3)) (hn : 3 < M.2.2.1) (ho : okP (a0 :: a1 :: a2 :: .int x :: r) 3 = true) (v : Int32) (hv : Int32.ofInt n = v) (k : Bd Λ l M d (pc + 3) (a0 :: a1 :: a2 :: .int (x + v) :: r) st w post) : Bd Λ l M d pc (a0 :: a1 :: a2 :: .int x :: r) st w post := b_iinc (x + v) (a0 :: a1 :: a2 :: .int (x + v) :: r) hd hn ho rfl (by rw [hv]) rfl k
theorem b_istore4 {a0 a1 a2 a3 a4 a5 : Value} {r : List Value} {x : Int32} (hd : decode M.2.1 pc = .ok (.istore 4, 2)) (hn : 4 < M.2.2.1) (ho : okP (a0 :: a1 :: a2 :: a3 :: a4 :: r) 4 = true) (k : Bd Λ l M d (pc + 2) (a0 :: a1 :: a2 :: a3 :: .int x :: r) st w post) : Bd Λ l M d pc (a0 :: a1 :: a2 :: a3 :: a4 :: r) (.int x :: st) w post := b_istore (a0 :: a1 :: a2 :: a3 :: .int x :: r) hd hn ho rfl k
theorem b_astore4 {a0 a1 a2 a3 a4 a5 : Value} {r : List Value} {x : Nat} (hd : decode M.2.1 pc = .ok (.astore 4, 2)) (hn : 4 < M.2.2.1) (ho : okP (a0 :: a1 :: a2 :: a3 :: a4 :: r) 4 = true) (k : Bd Λ l M d (pc + 2) (a0 :: a1 :: a2 :: a3 :: .ref x :: r) st w post) : Bd Λ l M d pc (a0 :: a1 :: a2 :: a3 :: a4 :: r) (.ref x :: st) w post := b_astore (a0 :: a1 :: a2 :: a3 :: .ref x :: r) hd hn ho rfl k
theorem b_lstore4 {a0 a1 a2 a3 a4 a5 : Value} {r : List Value} {x : Int64} (hd : decode M.2.1 pc = .ok (.lstore 4, 2)) (hn : 4 + 1 < M.2.2.1) (ho : okP (a0 :: a1 :: a2 :: a3 :: a4 :: a5 :: r) 4 = true) (k : Bd Λ l M d (pc + 2) (a0 :: a1 :: a2 :: a3 :: .long x :: jk :: r) st w post) : Bd Λ l M d pc (a0 :: a1 :: a2 :: a3 :: a4 :: a5 :: r) (.long x :: st) w post := b_lstore (a0 :: a1 :: a2 :: a3 :: .long x :: jk :: r) hd hn ho rfl k
theorem b_iinc4 {a0 a1 a2 a3 a4 a5 : Value} {r : List Value} {n : Int} {x : Int32} (hd : decode M.2.1 pc = .ok (.iinc 4 n, 3)) (hn : 4 < M.2.2.1) (ho : okP (a0 :: a1 :: a2 :: a3 :: .int x :: r) 4 = true) (v : Int32) (hv : Int32.ofInt n = v) (k : Bd Λ l M d (pc + 3) (a0 :: a1 :: a2 :: a3 :: .int (x + v) :: r) st w post) : Bd Λ l M d pc (a0 :: a1 :: a2 :: a3 :: .int x :: r) st w post := b_iinc (x + v) (a0 :: a1 :: a2 :: a3 :: .int (x + v) :: r) hd hn ho rfl (by rw [hv]) rfl k
theorem b_istore5 {a0 a1 a2 a3 a4 a5 a6 : Value} {r : List Value} {x : Int32} (hd : decode M.2.1 pc = .ok (.istore 5, 2)) (hn : 5 < M.2.2.1) (ho : okP (a0 :: a1 :: a2 :: a3 :: a4 :: a5 :: r) 5 = true) (k : Bd Λ l M d (pc + 2) (a0 :: a1 :: a2 :: a3 :: a4 :: .int x :: r) st w post) : Bd Λ l M d pc (a0 :: a1 :: a2 :: a3 :: a4 :: a5 :: r) (.int x :: st) w post := b_istore (a0 :: a1 :: a2 :: a3 :: a4 :: .int x :: r) hd hn ho rfl k
theorem b_astore5 {a0 a1 a2 a3 a4 a5 a6 : Value} {r : List Value} {x : Nat} (hd : decode M.2.1 pc = .ok (.astore 5, 2)) (hn : 5 < M.2.2.1) (ho : okP (a0 :: a1 :: a2 :: a3 :: a4 :: a5 :: r) 5 = true) (k : Bd Λ l M d (pc + 2) (a0 :: a1 :: a2 :: a3 :: a4 :: .ref x :: r) st w post) : Bd Λ l M d pc (a0 :: a1 :: a2 :: a3 :: a4 :: a5 :: r) (.ref x :: st) w post := b_astore (a0 :: a1 :: a2 :: a3 :: a4 :: .ref x :: r) hd hn ho rfl k
theorem b_lstore5 {a0 a1 a2 a3 a4 a5 a6 : Value} {r : List Value} {x : Int64} (hd : decode M.2.1 pc = .ok (.lstore 5, 2)) (hn : 5 + 1 < M.2.2.1) (ho : okP (a0 :: a1 :: a2 :: a3 :: a4 :: a5 :: a6 :: r) 5 = true) (k : Bd Λ l M d (pc + 2) (a0 :: a1 :: a2 :: a3 :: a4 :: .long x :: jk :: r) st w post) : Bd Λ l M d pc (a0 :: a1 :: a2 :: a3 :: a4 :: a5 :: a6 :: r) (.long x :: st) w post := b_lstore (a0 :: a1 :: a2 :: a3 :: a4 :: .long x :: jk :: r) hd hn ho rfl k
theorem b_iinc5 {a0 a1 a2 a3 a4 a5 a6 : Value} {r : List Value} {n : Int} {x : Int32} (hd : decode M.2.1 pc = .ok (.iinc 5 n, 3)) (hn : 5 < M.2.2.1) (ho : okP (a0 :: a1 :: a2 :: a3 :: a4 :: .int x :: r) 5 = true) (v : Int32) (hv : Int32.ofInt n = v) (k : Bd Λ l M d (pc + 3) (a0 :: a1 :: a2 :: a3 :: a4 :: .int (x + v) :: r) st w post) : Bd Λ l M d pc (a0 :: a1 :: a2 :: a3 :: a4 :: .int x :: r) st w post := b_iinc (x + v) (a0 :: a1 :: a2 :: a3 :: a4 :: .int (x + v) :: r) hd hn ho rfl (by rw [hv]) rfl k
theorem b_istore6 {a0 a1 a2 a3 a4 a5 a6 a7 : Value} {r : List Value} {x : Int32} (hd : decode M.2.1 pc = .ok (.istore 6, 2)) (hn : 6 < M.2.2.1) (ho : okP (a0 :: a1 :: a2 :: a3 :: a4 :: a5 :: a6 :: r) 6 = true) (k : Bd Λ l M d (pc + 2) (a0 :: a1 :: a2 :: a3 :: a4 :: a5 :: .int x :: r) st w post) : Bd Λ l M d pc (a0 :: a1 :: a2 :: a3 :: a4 :: a5 :: a6 :: r) (.int x :: st) w post := b_istore (a0 :: a1 :: a2 :: a3 :: a4 :: a5 :: .int x :: r) hd hn ho rfl k
theorem b_astore6 {a0 a1 a2 a3 a4 a5 a6 a7 : Value} {r : List Value} {x : Nat} (hd : decode M.2.1 pc = .ok (.astore 6, 2)) (hn : 6 < M.2.2.1) (ho : okP (a0 :: a1 :: a2 :: a3 :: a4 :: a5 :: a6 :: r) 6 = true) (k : Bd Λ l M d (pc + 2) (a0 :: a1 :: a2 :: a3 :: a4 :: a5 :: .ref x :: r) st w post) : Bd Λ l M d pc (a0 :: a1 :: a2 :: a3 :: a4 :: a5 :: a6 :: r) (.ref x :: st) w post := b_astore (a0 :: a1 :: a2 :: a3 :: a4 :: a5 :: .ref x :: r) hd hn ho rfl k
theorem b_lstore6 {a0 a1 a2 a3 a4 a5 a6 a7 : Value} {r : List Value} {x : Int64} (hd : decode M.2.1 pc = .ok (.lstore 6, 2)) (hn : 6 + 1 < M.2.2.1) (ho : okP (a0 :: a1 :: a2 :: a3 :: a4 :: a5 :: a6 :: a7 :: r) 6 = true) (k : Bd Λ l M d (pc + 2) (a0 :: a1 :: a2 :: a3 :: a4 :: a5 :: .long x :: jk :: r) st w post) : Bd Λ l M d pc (a0 :: a1 :: a2 :: a3 :: a4 :: a5 :: a6 :: a7 :: r) (.long x :: st) w post := b_lstore (a0 :: a1 :: a2 :: a3 :: a4 :: a5 :: .long x :: jk :: r) hd hn ho rfl k
theorem b_iinc6 {a0 a1 a2 a3 a4 a5 a6 a7 : Value} {r : List Value} {n : Int} {x : Int32} (hd : decode M.2.1 pc = .ok (.iinc 6 n, 3)) (hn : 6 < M.2.2.1) (ho : okP (a0 :: a1 :: a2 :: a3 :: a4 :: a5 :: .int x :: r) 6 = true) (v : Int32) (hv : Int32.ofInt n = v) (k : Bd Λ l M d (pc + 3) (a0 :: a1 :: a2 :: a3 :: a4 :: a5 :: .int (x + v) :: r) st w post) : Bd Λ l M d pc (a0 :: a1 :: a2 :: a3 :: a4 :: a5 :: .int x :: r) st w post := b_iinc (x + v) (a0 :: a1 :: a2 :: a3 :: a4 :: a5 :: .int (x + v) :: r) hd hn ho rfl (by rw [hv]) rfl k
theorem b_istore7 {a0 a1 a2 a3 a4 a5 a6 a7 a8 : Value} {r : List Value} {x : Int32} (hd : decode M.2.1 pc = .ok (.istore 7, 2)) (hn : 7 < M.2.2.1) (ho : okP (a0 :: a1 :: a2 :: a3 :: a4 :: a5 :: a6 :: a7 :: r) 7 = true) (k : Bd Λ l M d (pc + 2) (a0 :: a1 :: a2 :: a3 :: a4 :: a5 :: a6 :: .int x :: r) st w post) : Bd Λ l M d pc (a0 :: a1 :: a2 :: a3 :: a4 :: a5 :: a6 :: a7 :: r) (.int x :: st) w post := b_istore (a0 :: a1 :: a2 :: a3 :: a4 :: a5 :: a6 :: .int x :: r) hd hn ho rfl k
theorem b_astore7 {a0 a1 a2 a3 a4 a5 a6 a7 a8 : Value} {r : List Value} {x : Nat} (hd : decode M.2.1 pc = .ok (.astore 7, 2)) (hn : 7 < M.2.2.1) (ho : okP (a0 :: a1 :: a2 :: a3 :: a4 :: a5 :: a6 :: a7 :: r) 7 = true) (k : Bd Λ l M d (pc + 2) (a0 :: a1 :: a2 :: a3 :: a4 :: a5 :: a6 :: .ref x :: r) st w post) : Bd Λ l M d pc (a0 :: a1 :: a2 :: a3 :: a4 :: a5 :: a6 :: a7 :: r) (.ref x :: st) w post := b_astore (a0 :: a1 :: a2 :: a3 :: a4 :: a5 :: a6 :: .ref x :: r) hd hn ho rfl k
theorem b_lstore7 {a0 a1 a2 a3 a4 a5 a6 a7 a8 : Value} {r : List Value} {x : Int64} (hd : decode M.2.1 pc = .ok (.lstore 7, 2)) (hn : 7 + 1 < M.2.2.1) (ho : okP (a0 :: a1 :: a2 :: a3 :: a4 :: a5 :: a6 :: a7 :: a8 :: r) 7 = true) (k : Bd Λ l M d (pc + 2) (a0 :: a1 :: a2 :: a3 :: a4 :: a5 :: a6 :: .long x :: jk :: r) st w post) : Bd Λ l M d pc (a0 :: a1 :: a2 :: a3 :: a4 :: a5 :: a6 :: a7 :: a8 :: r) (.long x :: st) w post := b_lstore (a0 :: a1 :: a2 :: a3 :: a4 :: a5 :: a6 :: .long x :: jk :: r) hd hn ho rfl k
theorem b_iinc7 {a0 a1 a2 a3 a4 a5 a6 a7 a8 : Value} {r : List Value} {n : Int} {x : Int32} (hd : decode M.2.1 pc = .ok (.iinc 7 n, 3)) (hn : 7 < M.2.2.1) (ho : okP (a0 :: a1 :: a2 :: a3 :: a4 :: a5 :: a6 :: .int x :: r) 7 = true) (v : Int32) (hv : Int32.ofInt n = v) (k : Bd Λ l M d (pc + 3) (a0 :: a1 :: a2 :: a3 :: a4 :: a5 :: a6 :: .int (x + v) :: r) st w post) : Bd Λ l M d pc (a0 :: a1 :: a2 :: a3 :: a4 :: a5 :: a6 :: .int x :: r) st w post := b_iinc (x + v) (a0 :: a1 :: a2 :: a3 :: a4 :: a5 :: a6 :: .int (x + v) :: r) hd hn ho rfl (by rw [hv]) rfl k
theorem b_istore8 {a0 a1 a2 a3 a4 a5 a6 a7 a8 a9 : Value} {r : List Value} {x : Int32} (hd : decode M.2.1 pc = .ok (.istore 8, 2)) (hn : 8 < M.2.2.1) (ho : okP (a0 :: a1 :: a2 :: a3 :: a4 :: a5 :: a6 :: a7 :: a8 :: r) 8 = true) (k : Bd Λ l M d (pc + 2) (a0 :: a1 :: a2 :: a3 :: a4 :: a5 :: a6 :: a7 :: .int x :: r) st w post) : Bd Λ l M d pc (a0 :: a1 :: a2 :: a3 :: a4 :: a5 :: a6 :: a7 :: a8 :: r) (.int x :: st) w post := b_istore (a0 :: a1 :: a2 :: a3 :: a4 :: a5 :: a6 :: a7 :: .int x :: r) hd hn ho rfl k
theorem b_astore8 {a0 a1 a2 a3 a4 a5 a6 a7 a8 a9 : Value} {r : List Value} {x : Nat} (hd : decode M.2.1 pc = .ok (.astore 8, 2)) (hn : 8 < M.2.2.1) (ho : okP (a0 :: a1 :: a2 :: a3 :: a4 :: a5 :: a6 :: a7 :: a8 :: r) 8 = true) (k : Bd Λ l M d (pc + 2) (a0 :: a1 :: a2 :: a3 :: a4 :: a5 :: a6 :: a7 :: .ref x :: r) st w post) : Bd Λ l M d pc (a0 :: a1 :: a2 :: a3 :: a4 :: a5 :: a6 :: a7 :: a8 :: r) (.ref x :: st) w post := b_astore (a0 :: a1 :: a2 :: a3 :: a4 :: a5 :: a6 :: a7 :: .ref x :: r) hd hn ho rfl k
theorem b_lstore8 {a0 a1 a2 a3 a4 a5 a6 a7 a8 a9 : Value} {r : List Value} {x : Int64} (hd : decode M.2.1 pc = .ok (.lstore 8, 2)) (hn : 8 + 1 < M.2.2.1) (ho : okP (a0 :: a1 :: a2 :: a3 :: a4 :: a5 :: a6 :: a7 :: a8 :: a9 :: r) 8 = true) (k : Bd Λ l M d (pc + 2) (a0 :: a1 :: a2 :: a3 :: a4 :: a5 :: a6 :: a7 :: .long x :: jk :: r) st w post) : Bd Λ l M d pc (a0 :: a1 :: a2 :: a3 :: a4 :: a5 :: a6 :: a7 :: a8 :: a9 :: r) (.long x :: st) w post := b_lstore (a0 :: a1 :: a2 :: a3 :: a4 :: a5 :: a6 :: a7 :: .long x :: jk :: r) hd hn ho rfl k
theorem b_iinc8 {a0 a1 a2 a3 a4 a5 a6 a7 a8 a9 : Value} {r : List Value} {n : Int} {x : Int32} (hd : decode M.2.1 pc = .ok (.iinc 8 n, 3)) (hn : 8 < M.2.2.1) (ho : okP (a0 :: a1 :: a2 :: a3 :: a4 :: a5 :: a6 :: a7 :: .int x :: r) 8 = true) (v : Int32) (hv : Int32.ofInt n = v) (k : Bd Λ l M d (pc + 3) (a0 :: a1 :: a2 :: a3 :: a4 :: a5 :: a6 :: a7 :: .int (x + v) :: r) st w post) : Bd Λ l M d pc (a0 :: a1 :: a2 :: a3 :: a4 :: a5 :: a6 :: a7 :: .int x :: r) st w post := b_iinc (x + v) (a0 :: a1 :: a2 :: a3 :: a4 :: a5 :: a6 :: a7 :: .int (x + v) :: r) hd hn ho rfl (by rw [hv]) rfl k
theorem b_istore9 {a0 a1 a2 a3 a4 a5 a6 a7 a8 a9 a10 : Value} {r : List Value} {x : Int32} (hd : decode M.2.1 pc = .ok (.istore 9, 2)) (hn : 9 < M.2.2.1) (ho : okP (a0 :: a1 :: a2 :: a3 :: a4 :: a5 :: a6 :: a7 :: a8 :: a9 :: r) 9 = true) (k : Bd Λ l M d (pc + 2) (a0 :: a1 :: a2 :: a3 :: a4 :: a5 :: a6 :: a7 :: a8 :: .int x :: r) st w post) : Bd Λ l M d pc (a0 :: a1 :: a2 :: a3 :: a4 :: a5 :: a6 :: a7 :: a8 :: a9 :: r) (.int x :: st) w post := b_istore (a0 :: a1 :: a2 :: a3 :: a4 :: a5 :: a6 :: a7 :: a8 :: .int x :: r) hd hn ho rfl k
theorem b_astore9 {a0 a1 a2 a3 a4 a5 a6 a7 a8 a9 a10 : Value} {r : List Value} {x : Nat} (hd : decode M.2.1 pc = .ok (.astore 9, 2)) (hn : 9 < M.2.2.1) (ho : okP (a0 :: a1 :: a2 :: a3 :: a4 :: a5 :: a6 :: a7 :: a8 :: a9 :: r) 9 = true) (k : Bd Λ l M d (pc + 2) (a0 :: a1 :: a2 :: a3 :: a4 :: a5 :: a6 :: a7 :: a8 :: .ref x :: r) st w post) : Bd Λ l M d pc (a0 :: a1 :: a2 :: a3 :: a4 :: a5 :: a6 :: a7 :: a8 :: a9 :: r) (.ref x :: st) w post := b_astore (a0 :: a1 :: a2 :: a3 :: a4 :: a5 :: a6 :: a7 :: a8 :: .ref x :: r) hd hn ho rfl k
theorem b_lstore9 {a0 a1 a2 a3 a4 a5 a6 a7 a8 a9 a10 : Value} {r : List Value} {x : Int64} (hd : decode M.2.1 pc = .ok (.lstore 9, 2)) (hn : 9 + 1 < M.2.2.1) (ho : okP (a0 :: a1 :: a2 :: a3 :: a4 :: a5 :: a6 :: a7 :: a8 :: a9 :: a10 :: r) 9 = true) (k : Bd Λ l M d (pc + 2) (a0 :: a1 :: a2 :: a3 :: a4 :: a5 :: a6 :: a7 :: a8 :: .long x :: jk :: r) st w post) : Bd Λ l M d pc (a0 :: a1 :: a2 :: a3 :: a4 :: a5 :: a6 :: a7 :: a8 :: a9 :: a10 :: r) (.long x :: st) w post := b_lstore (a0 :: a1 :: a2 :: a3 :: a4 :: a5 :: a6 :: a7 :: a8 :: .long x :: jk :: r) hd hn ho rfl k
theorem b_iinc9 {a0 a1 a2 a3 a4 a5 a6 a7 a8 a9 a10 : Value} {r : List Value} {n : Int} {x : Int32} (hd : decode M.2.1 pc = .ok (.iinc 9 n, 3)) (hn : 9 < M.2.2.1) (ho : okP (a0 :: a1 :: a2 :: a3 :: a4 :: a5 :: a6 :: a7 :: a8 :: .int x :: r) 9 = true) (v : Int32) (hv : Int32.ofInt n = v) (k : Bd Λ l M d (pc + 3) (a0 :: a1 :: a2 :: a3 :: a4 :: a5 :: a6 :: a7 :: a8 :: .int (x + v) :: r) st w post) : Bd Λ l M d pc (a0 :: a1 :: a2 :: a3 :: a4 :: a5 :: a6 :: a7 :: a8 :: .int x :: r) st w post := b_iinc (x + v) (a0 :: a1 :: a2 :: a3 :: a4 :: a5 :: a6 :: a7 :: a8 :: .int (x + v) :: r) hd hn ho rfl (by rw [hv]) rfl k
theorem b_istore10 {a0 a1 a2 a3 a4 a5 a6 a7 a8 a9 a10 a11 : Value} {r : List Value} {x : Int32} (hd : decode M.2.1 pc = .ok (.istore 10, 2)) (hn : 10 < M.2.2.1) (ho : okP (a0 :: a1 :: a2 :: a3 :: a4 :: a5 :: a6 :: a7 :: a8 :: a9 :: a10 :: r) 10 = true) (k : Bd Λ l M d (pc + 2) (a0 :: a1 :: a2 :: a3 :: a4 :: a5 :: a6 :: a7 :: a8 :: a9 :: .int x :: r) st w post) : Bd Λ l M d pc (a0 :: a1 :: a2 :: a3 :: a4 :: a5 :: a6 :: a7 :: a8 :: a9 :: a10 :: r) (.int x :: st) w post := b_istore (a0 :: a1 :: a2 :: a3 :: a4 :: a5 :: a6 :: a7 :: a8 :: a9 :: .int x :: r) hd hn ho rfl k
theorem b_astore10 {a0 a1 a2 a3 a4 a5 a6 a7 a8 a9 a10 a11 : Value} {r : List Value} {x : Nat} (hd : decode M.2.1 pc = .ok (.astore 10, 2)) (hn : 10 < M.2.2.1) (ho : okP (a0 :: a1 :: a2 :: a3 :: a4 :: a5 :: a6 :: a7 :: a8 :: a9 :: a10 :: r) 10 = true) (k : Bd Λ l M d (pc + 2) (a0 :: a1 :: a2 :: a3 :: a4 :: a5 :: a6 :: a7 :: a8 :: a9 :: .ref x :: r) st w post) : Bd Λ l M d pc (a0 :: a1 :: a2 :: a3 :: a4 :: a5 :: a6 :: a7 :: a8 :: a9 :: a10 :: r) (.ref x :: st) w post := b_astore (a0 :: a1 :: a2 :: a3 :: a4 :: a5 :: a6 :: a7 :: a8 :: a9 :: .ref x :: r) hd hn ho rfl k
theorem b_lstore10 {a0 a1 a2 a3 a4 a5 a6 a7 a8 a9 a10 a11 : Value} {r : List Value} {x : Int64} (hd : decode M.2.1 pc = .ok (.lstore 10, 2)) (hn : 10 + 1 < M.2.2.1) (ho : okP (a0 :: a1 :: a2 :: a3 :: a4 :: a5 :: a6 :: a7 :: a8 :: a9 :: a10 :: a11 :: r) 10 = true) (k : Bd Λ l M d (pc + 2) (a0 :: a1 :: a2 :: a3 :: a4 :: a5 :: a6 :: a7 :: a8 :: a9 :: .long x :: jk :: r) st w post) : Bd Λ l M d pc (a0 :: a1 :: a2 :: a3 :: a4 :: a5 :: a6 :: a7 :: a8 :: a9 :: a10 :: a11 :: r) (.long x :: st) w post := b_lstore (a0 :: a1 :: a2 :: a3 :: a4 :: a5 :: a6 :: a7 :: a8 :: a9 :: .long x :: jk :: r) hd hn ho rfl k
theorem b_iinc10 {a0 a1 a2 a3 a4 a5 a6 a7 a8 a9 a10 a11 : Value} {r : List Value} {n : Int} {x : Int32} (hd : decode M.2.1 pc = .ok (.iinc 10 n, 3)) (hn : 10 < M.2.2.1) (ho : okP (a0 :: a1 :: a2 :: a3 :: a4 :: a5 :: a6 :: a7 :: a8 :: a9 :: .int x :: r) 10 = true) (v : Int32) (hv : Int32.ofInt n = v) (k : Bd Λ l M d (pc + 3) (a0 :: a1 :: a2 :: a3 :: a4 :: a5 :: a6 :: a7 :: a8 :: a9 :: .int (x + v) :: r) st w post) : Bd Λ l M d pc (a0 :: a1 :: a2 :: a3 :: a4 :: a5 :: a6 :: a7 :: a8 :: a9 :: .int x :: r) st w post := b_iinc (x + v) (a0 :: a1 :: a2 :: a3 :: a4 :: a5 :: a6 :: a7 :: a8 :: a9 :: .int (x + v) :: r) hd hn ho rfl (by rw [hv]) rfl k
theorem b_istore11 {a0 a1 a2 a3 a4 a5 a6 a7 a8 a9 a10 a11 a12 : Value} {r : List Value} {x : Int32} (hd : decode M.2.1 pc = .ok (.istore 11, 2)) (hn : 11 < M.2.2.1) (ho : okP (a0 :: a1 :: a2 :: a3 :: a4 :: a5 :: a6 :: a7 :: a8 :: a9 :: a10 :: a11 :: r) 11 = true) (k : Bd Λ l M d (pc + 2) (a0 :: a1 :: a2 :: a3 :: a4 :: a5 :: a6 :: a7 :: a8 :: a9 :: a10 :: .int x :: r) st w post) : Bd Λ l M d pc (a0 :: a1 :: a2 :: a3 :: a4 :: a5 :: a6 :: a7 :: a8 :: a9 :: a10 :: a11 :: r) (.int x :: st) w post := b_istore (a0 :: a1 :: a2 :: a3 :: a4 :: a5 :: a6 :: a7 :: a8 :: a9 :: a10 :: .int x :: r) hd hn ho rfl k
theorem b_astore11 {a0 a1 a2 a3 a4 a5 a6 a7 a8 a9 a10 a11 a12 : Value} {r : List Value} {x : Nat} (hd : decode M.2.1 pc = .ok (.astore 11, 2)) (hn : 11 < M.2.2.1) (ho : okP (a0 :: a1 :: a2 :: a3 :: a4 :: a5 :: a6 :: a7 :: a8 :: a9 :: a10 :: a11 :: r) 11 = true) (k : Bd Λ l M d (pc + 2) (a0 :: a1 :: a2 :: a3 :: a4 :: a5 :: a6 :: a7 :: a8 :: a9 :: a10 :: .ref x :: r) st w post) : Bd Λ l M d pc (a0 :: a1 :: a2 :: a3 :: a4 :: a5 :: a6 :: a7 :: a8 :: a9 :: a10 :: a11 :: r) (.ref x :: st) w post := b_astore (a0 :: a1 :: a2 :: a3 :: a4 :: a5 :: a6 :: a7 :: a8 :: a9 :: a10 :: .ref x :: r) hd hn ho rfl k
theorem b_lstore11 {a0 a1 a2 a3 a4 a5 a6 a7 a8 a9 a10 a11 a12 : Value} {r : List Value} {x : Int64} (hd : decode M.2.1 pc = .ok (.lstore 11, 2)) (hn : 11 + 1 < M.2.2.1) (ho : okP (a0 :: a1 :: a2 :: a3 :: a4 :: a5 :: a6 :: a7 :: a8 :: a9 :: a10 :: a11 :: a12 :: r) 11 = true) (k : Bd Λ l M d (pc + 2) (a0 :: a1 :: a2 :: a3 :: a4 :: a5 :: a6 :: a7 :: a8 :: a9 :: a10 :: .long x :: jk :: r) st w post) : Bd Λ l M d pc (a0 :: a1 :: a2 :: a3 :: a4 :: a5 :: a6 :: a7 :: a8 :: a9 :: a10 :: a11 :: a12 :: r) (.long x :: st) w post := b_lstore (a0 :: a1 :: a2 :: a3 :: a4 :: a5 :: a6 :: a7 :: a8 :: a9 :: a10 :: .long x :: jk :: r) hd hn ho rfl k
theorem b_iinc11 {a0 a1 a2 a3 a4 a5 a6 a7 a8 a9 a10 a11 a12 : Value} {r : List Value} {n : Int} {x : Int32} (hd : decode M.2.1 pc = .ok (.iinc 11 n, 3)) (hn : 11 < M.2.2.1) (ho : okP (a0 :: a1 :: a2 :: a3 :: a4 :: a5 :: a6 :: a7 :: a8 :: a9 :: a10 :: .int x :: r) 11 = true) (v : Int32) (hv : Int32.ofInt n = v) (k : Bd Λ l M d (pc + 3) (a0 :: a1 :: a2 :: a3 :: a4 :: a5 :: a6 :: a7 :: a8 :: a9 :: a10 :: .int (x + v) :: r) st w post) : Bd Λ l M d pc (a0 :: a1 :: a2 :: a3 :: a4 :: a5 :: a6 :: a7 :: a8 :: a9 :: a10 :: .int x :: r) st w post := b_iinc (x + v) (a0 :: a1 :: a2 :: a3 :: a4 :: a5 :: a6 :: a7 :: a8 :: a9 :: a10 :: .int (x + v) :: r) hd hn ho rfl (by rw [hv]) rfl k
theorem b_istore12 {a0 a1 a2 a3 a4 a5 a6 a7 a8 a9 a10 a11 a12 a13 : Value} {r : List Value} {x : Int32} (hd : decode M.2.1 pc = .ok (.istore 12, 2)) (hn : 12 < M.2.2.1) (ho : okP (a0 :: a1 :: a2 :: a3 :: a4 :: a5 :: a6 :: a7 :: a8 :: a9 :: a10 :: a11 :: a12 :: r) 12 = true) (k : Bd Λ l M d (pc + 2) (a0 :: a1 :: a2 :: a3 :: a4 :: a5 :: a6 :: a7 :: a8 :: a9 :: a10 :: a11 :: .int x :: r) st w post) : Bd Λ l M d pc (a0 :: a1 :: a2 :: a3 :: a4 :: a5 :: a6 :: a7 :: a8 :: a9 :: a10 :: a11 :: a12 :: r) (.int x :: st) w post := b_istore (a0 :: a1 :: a2 :: a3 :: a4 :: a5 :: a6 :: a7 :: a8 :: a9 :: a10 :: a11 :: .int x :: r) hd hn ho rfl k
theorem b_astore12 {a0 a1 a2 a3 a4 a5 a6 a7 a8 a9 a10 a11 a12 a13 : Value} {r : List Value} {x : Nat} (hd : decode M.2.1 pc = .ok (.astore 12, 2)) (hn : 12 < M.2.2.1) (ho : okP (a0 :: a1 :: a2 :: a3 :: a4 :: a5 :: a6 :: a7 :: a8 :: a9 :: a10 :: a11 :: a12 :: r) 12 = true) (k : Bd Λ l M d (pc + 2) (a0 :: a1 :: a2 :: a3 :: a4 :: a5 :: a6 :: a7 :: a8 :: a9 :: a10 :: a11 :: .ref x :: r) st w post) : Bd Λ l M d pc (a0 :: a1 :: a2 :: a3 :: a4 :: a5 :: a6 :: a7 :: a8 :: a9 :: a10 :: a11 :: a12 :: r) (.ref x :: st) w post := b_astore (a0 :: a1 :: a2 :: a3 :: a4 :: a5 :: a6 :: a7 :: a8 :: a9 :: a10 :: a11 :: .ref x :: r) hd hn ho rfl k
theorem b_lstore12 {a0 a1 a2 a3 a4 a5 a6 a7 a8 a9 a10 a11 a12 a13 : Value} {r : List Value} {x : Int64} (hd : decode M.2.1 pc = .ok (.lstore 12, 2)) (hn : 12 + 1 < M.2.2.1) (ho : okP (a0 :: a1 :: a2 :: a3 :: a4 :: a5 :: a6 :: a7 :: a8 :: a9 :: a10 :: a11 :: a12 :: a13 :: r) 12 = true) (k : Bd Λ l M d (pc + 2) (a0 :: a1 :: a2 :: a3 :: a4 :: a5 :: a6 :: a7 :: a8 :: a9 :: a10 :: a11 :: .long x :: jk :: r) st w post) : Bd Λ l M d pc (a0 :: a1 :: a2 :: a3 :: a4 :: a5 :: a6 :: a7 :: a8 :: a9 :: a10 :: a11 :: a12 :: a13 :: r) (.long x :: st) w post := b_lstore (a0 :: a1 :: a2 :: a3 :: a4 :: a5 :: a6 :: a7 :: a8 :: a9 :: a10 :: a11 :: .long x :: jk :: r) hd hn ho rfl k
theorem b_iinc12 {a0 a1 a2 a3 a4 a5 a6 a7 a8 a9 a10 a11 a12 a13 : Value} {r : List Value} {n : Int} {x : Int32} (hd : decode M.2.1 pc = .ok (.iinc 12 n, 3)) (hn : 12 < M.2.2.1) (ho : okP (a0 :: a1 :: a2 :: a3 :: a4 :: a5 :: a6 :: a7 :: a8 :: a9 :: a10 :: a11 :: .int x :: r) 12 = true) (v : Int32) (hv : Int32.ofInt n = v) (k : Bd Λ l M d (pc + 3) (a0 :: a1 :: a2 :: a3 :: a4 :: a5 :: a6 :: a7 :: a8 :: a9 :: a10 :: a11 :: .int (x + v) :: r) st w post) : Bd Λ l M d pc (a0 :: a1 :: a2 :: a3 :: a4 :: a5 :: a6 :: a7 :: a8 :: a9 :: a10 :: a11 :: .int x :: r) st w post := b_iinc (x + v) (a0 :: a1 :: a2 :: a3 :: a4 :: a5 :: a6 :: a7 :: a8 :: a9 :: a10 :: a11 :: .int (x + v) :: r) hd hn ho rfl (by rw [hv]) rfl k
end BR
