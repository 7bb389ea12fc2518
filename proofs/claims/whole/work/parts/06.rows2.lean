def Rz (ci : Nat) : String := match ci with
  | 0 => RX0
  | 1 => RX1
  | 2 => RX2
  | 3 => RX3
  | 4 => RX4
  | 5 => RX5
  | _ => RX6
def Tz (ci : Nat) : u_T := match ci with
  | 0 => TX0
  | 1 => TX1
  | 2 => TX2
  | 3 => TX3
  | 4 => TX4
  | 5 => TX5
  | _ => TX6
theorem cz_at {ci : Nat} (h : ci < 7) : clz[ci]? = some (Rz ci, Tz ci, nfZ ci) := by
  match ci, h with
  | 0, _ => rfl
  | 1, _ => rfl
  | 2, _ => rfl
  | 3, _ => rfl
  | 4, _ => rfl
  | 5, _ => rfl
  | 6, _ => rfl
theorem GGi {w : Cond} (i : Nat) (h : lw_tbl[i]? = some w) (hg : goodWord w = true) : w ∈ GG := List.mem_filter.mpr ⟨List.mem_of_getElem? h, hg⟩
theorem cz_in0 : ∀ w ∈ u_ws RX0 TX0 3, w ∈ lw_tbl ∧ goodWord w = true := by decide +kernel
theorem cz_in1 : ∀ w ∈ u_ws RX1 TX1 7, w ∈ lw_tbl ∧ goodWord w = true := by decide +kernel
theorem cz_in2 : ∀ w ∈ u_ws RX2 TX2 14, w ∈ lw_tbl ∧ goodWord w = true := by decide +kernel
theorem cz_in3 : ∀ w ∈ u_ws RX3 TX3 9, w ∈ lw_tbl ∧ goodWord w = true := by decide +kernel
theorem cz_in4 : ∀ w ∈ u_ws RX4 TX4 3, w ∈ lw_tbl ∧ goodWord w = true := by decide +kernel
theorem cz_in5 : ∀ w ∈ u_ws RX5 TX5 12, w ∈ lw_tbl ∧ goodWord w = true := by decide +kernel
theorem cz_in6 : ∀ w ∈ u_ws RX6 TX6 40, w ∈ lw_tbl ∧ goodWord w = true := by decide +kernel
theorem cz_in {ci : Nat} (h : ci < 7) : ∀ w ∈ u_ws (Rz ci) (Tz ci) (nfZ ci), w ∈ GG := by
  intro w hw
  refine List.mem_filter.mpr ?_
  match ci, h with
  | 0, _ => exact cz_in0 w hw
  | 1, _ => exact cz_in1 w hw
  | 2, _ => exact cz_in2 w hw
  | 3, _ => exact cz_in3 w hw
  | 4, _ => exact cz_in4 w hw
  | 5, _ => exact cz_in5 w hw
  | 6, _ => exact cz_in6 w hw
theorem cz_ty {ci : Nat} (h : ci < 7) : ∀ k, k < nfZ ci → parseFieldDescriptor (Tz ci k).2.2.1 = some (tyZ ci k) := by
  match ci, h with
  | 0, _ => exact tyX0_ok
  | 1, _ => exact tyX1_ok
  | 2, _ => exact tyX2_ok
  | 3, _ => exact tyX3_ok
  | 4, _ => exact tyX4_ok
  | 5, _ => exact tyX5_ok
  | 6, _ => exact tyX6_ok
theorem cz_nm {ci : Nat} (h : ci < 7) : ∀ a, a < nfZ ci → ∀ b, b < nfZ ci → a ≠ b → (Tz ci a).2.1 ≠ (Tz ci b).2.1 := by
  match ci, h with
  | 0, _ => exact nmX0
  | 1, _ => exact nmX1
  | 2, _ => exact nmX2
  | 3, _ => exact nmX3
  | 4, _ => exact nmX4
  | 5, _ => exact nmX5
  | 6, _ => exact nmX6
/-- an entry of a class's pool is the field j of the class ci -/
def FL (own : String) (idx ci j : Nat) : Prop := ci < 7 ∧ j < nfZ ci ∧ Cond.fieldLink own idx (Tz ci j).1 (Tz ci j).2.1 (Tz ci j).2.2.1 ∈ GG
theorem mr_set {α : Type} {n j : Nat} {f g : Nat → α} {v : α} (hj : j < n) (h1 : ∀ i, i ≠ j → g i = f i) (h2 : g j = v) : ((List.range n).map f).set j v = (List.range n).map g := by
  apply List.ext_getElem?
  intro i
  rw [List.getElem?_set]
  by_cases hi : j = i
  · subst hi
    simp [hj, h2]
  · rw [if_neg hi]
    by_cases hl : i < n
    · simp [hl, h1 i (fun q => hi q.symm)]
    · simp [hl]
theorem cE_ne {Λ : Ly} {E : En} {w w' : Wd} {a : Nat} (hF : w'.1 a = w.1 a) (hG : w'.2.1 a = w.2.1 a) (hI : w'.2.2.1 a = w.2.2.1 a) (hJ : w'.2.2.2.1 a = w.2.2.2.1 a) (hP : ∀ j, Λ.2.2 w'.2.2.2.2 a j = Λ.2.2 w.2.2.2.2 a j) : cE Λ E w' a = cE Λ E w a := by
  unfold cE
  cases Λ.2.1 a with
  | inl ci =>
    have : fvZ Λ E w' ci a = fvZ Λ E w ci a := by
      funext j
      simp only [fvZ, hF, hG, hP]
    simp only [this]
  | inr q =>
    have : cnZ Λ E w' a q.1 = cnZ Λ E w a q.1 := by
      simp only [cnZ, hI, hJ, hP]
    simp only [this]
theorem sF_ne {Λ : Ly} {E : En} {w : Wd} {k j : Nat} {x : Int32} {a : Nat} (h : a ≠ k) : cE Λ E (sF w k j x) a = cE Λ E w a := cE_ne (by funext b; simp [sF, h]) rfl rfl rfl (fun _ => rfl)
theorem sG_ne {Λ : Ly} {E : En} {w : Wd} {k j : Nat} {x : Int64} {a : Nat} (h : a ≠ k) : cE Λ E (sG w k j x) a = cE Λ E w a := cE_ne rfl (by funext b; simp [sG, h]) rfl rfl (fun _ => rfl)
theorem sI_ne {Λ : Ly} {E : En} {w : Wd} {k j : Nat} {x : Int32} {a : Nat} (h : a ≠ k) : cE Λ E (sI w k j x) a = cE Λ E w a := cE_ne rfl rfl (by funext b; simp [sI, h]) rfl (fun _ => rfl)
theorem sJ_ne {Λ : Ly} {E : En} {w : Wd} {k j : Nat} {x : Int64} {a : Nat} (h : a ≠ k) : cE Λ E (sJ w k j x) a = cE Λ E w a := cE_ne rfl rfl rfl (by funext b; simp [sJ, h]) (fun _ => rfl)
theorem sR_ne {Λ : Ly} {E : En} {w : Wd} {k : Nat} {x : Nat → Int32} {a : Nat} (h : a ≠ k) : cE Λ E (sR w k x) a = cE Λ E w a := cE_ne rfl rfl (by simp [sR, h]) rfl (fun _ => rfl)
theorem sL_ne {Λ : Ly} {E : En} {w : Wd} {k : Nat} {x : Nat → Int64} {a : Nat} (h : a ≠ k) : cE Λ E (sL w k x) a = cE Λ E w a := cE_ne rfl rfl rfl (by simp [sL, h]) (fun _ => rfl)
theorem sF_eq {Λ : Ly} {E : En} {w : Wd} {k j ci : Nat} {x : Int32} (hk : isO Λ k ci) (hj : j < nfZ ci) (hf : fkZ ci j = 0) : cE Λ E (sF w k j x) k = .inr (ci, ((List.range (nfZ ci)).map (fvZ Λ E w ci k)).set j (.int x)) := by
  rw [cE_o hk, mr_set hj (g := fvZ Λ E (sF w k j x) ci k)]
  · intro i hi
    simp [fvZ, sF, hi]
  · simp [fvZ, sF, hf]
theorem sG_eq {Λ : Ly} {E : En} {w : Wd} {k j ci : Nat} {x : Int64} (hk : isO Λ k ci) (hj : j < nfZ ci) (hf : fkZ ci j = 1) : cE Λ E (sG w k j x) k = .inr (ci, ((List.range (nfZ ci)).map (fvZ Λ E w ci k)).set j (.long x)) := by
  rw [cE_o hk, mr_set hj (g := fvZ Λ E (sG w k j x) ci k)]
  · intro i hi
    simp [fvZ, sG, hi]
  · simp [fvZ, sG, hf]
theorem sI_eq {Λ : Ly} {E : En} {w : Wd} {k t n i : Nat} {x : Int32} (ha : isA Λ k t n) (h1 : ¬ t = 1) (h4 : t < 4) : cE Λ E (sI w k i x) k = .inl (E.tc t, n, .inl (upd (w.2.2.1 k) i x)) := by
  rw [cE_a ha]
  simp only [cnZ, if_neg h1, if_pos h4, sI]
  congr 3
  congr 1
  funext b
  simp [upd]
theorem sR_eq {Λ : Ly} {E : En} {w : Wd} {k t n : Nat} {x : Nat → Int32} (ha : isA Λ k t n) (h1 : ¬ t = 1) (h4 : t < 4) : cE Λ E (sR w k x) k = .inl (E.tc t, n, .inl x) := by
  rw [cE_a ha]
  simp only [cnZ, if_neg h1, if_pos h4, sR, if_true]
theorem sJ_eq {Λ : Ly} {E : En} {w : Wd} {k n i : Nat} {x : Int64} (ha : isA Λ k 1 n) : cE Λ E (sJ w k i x) k = .inl (E.tc 1, n, .inr (.inl (vp_updL (w.2.2.2.1 k) i x))) := by
  rw [cE_a ha]
  simp only [cnZ, if_true, sJ]
  congr 4
  congr 1
  funext b
  simp [vp_updL]
theorem sL_eq {Λ : Ly} {E : En} {w : Wd} {k n : Nat} {x : Nat → Int64} (ha : isA Λ k 1 n) : cE Λ E (sL w k x) k = .inl (E.tc 1, n, .inr (.inl x)) := by
  rw [cE_a ha]
  simp only [cnZ, if_true, sL]
section BR2
variable {Λ : Ly} {l : Launch} {M : MI} {d pc : Nat} {L st : List Value} {w : Wd} {post : Option Value → Wd → Prop}
theorem CX.get {E : En} {p : Program} {s : State} {m : MethodId} {args : Array Value} {meth : Method} {c : Code} {W0 : Cond} (C : CX Λ M E p s m args meth c) (h : W0 ∈ GG) : W0.before args s = true := C.2.2.2.2.2.1 _ (List.mem_cons_of_mem _ h)
theorem b_getG {k idx ci j : Nat} {v : Value} (h : FL M.1.cls idx ci j) (hk : isO Λ k ci) (hd : decode M.2.1 pc = .ok (.getfield idx, 3)) (hv : ∀ E : En, fvZ Λ E w ci k j = pe E.ad v) (kk : Bd Λ l M d (pc + 3) L (v :: st) w post) : Bd Λ l M d pc L (.ref k :: st) w post := by
  intro E p e s m args below meth c H locs ls C X V
  obtain ⟨h7, hj, hw⟩ := h
  exact va_get (D := E.D) (ci := ci) (v := pe E.ad v) (C := Rz ci) (T := Tz ci) (N := nfZ ci) C.1 C.2.1 C.2.2.2.2.2.1 (fun w h => List.mem_cons_of_mem _ (cz_in h7 w h)) C.2.2.2.2.1 C.2.2.2.2.2.2.2.1 X.1 k (by rw [wl_get hk.1, cE_o hk]) (cz_at h7) j hj (C.get hw) (fun _ h => h) (by simp [hj, hv E]) hd (kk E p e s m args below meth c H locs ls C X V)
theorem b_getI {k idx ci j : Nat} (h : FL M.1.cls idx ci j) (hk : isO Λ k ci) (hf : fkZ ci j = 0) (hd : decode M.2.1 pc = .ok (.getfield idx, 3)) (kk : Bd Λ l M d (pc + 3) L (.int (w.1 k j) :: st) w post) : Bd Λ l M d pc L (.ref k :: st) w post := b_getG h hk hd (fun E => by simp [fvZ, hf, pe]) kk
theorem b_getL {k idx ci j : Nat} (h : FL M.1.cls idx ci j) (hk : isO Λ k ci) (hf : fkZ ci j = 1) (hd : decode M.2.1 pc = .ok (.getfield idx, 3)) (kk : Bd Λ l M d (pc + 3) L (.long (w.2.1 k j) :: st) w post) : Bd Λ l M d pc L (.ref k :: st) w post := b_getG h hk hd (fun E => by simp [fvZ, hf, pe]) kk
theorem b_getR {k idx ci j : Nat} (r : Nat) (h : FL M.1.cls idx ci j) (hk : isO Λ k ci) (hf : fkZ ci j = 2) (hr : Λ.2.2 w.2.2.2.2 k j = r) (hd : decode M.2.1 pc = .ok (.getfield idx, 3)) (kk : Bd Λ l M d (pc + 3) L (.ref r :: st) w post) : Bd Λ l M d pc L (.ref k :: st) w post := b_getG h hk hd (fun E => by simp [fvZ, hf, pe, hr]) kk
theorem fk_int {ci j : Nat} (h : fkZ ci j = 0) : tyZ ci j = .int := by
  unfold fkZ at h
  cases ht : tyZ ci j <;> simp_all
theorem fk_long {ci j : Nat} (h : fkZ ci j = 1) : tyZ ci j = .long := by
  unfold fkZ at h
  cases ht : tyZ ci j <;> simp_all
theorem b_putI {k idx ci j : Nat} {x : Int32} (h : FL M.1.cls idx ci j) (hnf : (Tz ci j).2.2.2 = false) (hk : isO Λ k ci) (hf : fkZ ci j = 0) (hd : decode M.2.1 pc = .ok (.putfield idx, 3)) (kk : Bd Λ l M d (pc + 3) L st (sF w k j x) post) : Bd Λ l M d pc L (.int x :: .ref k :: st) w post := by
  intro E p e s m args below meth c H locs ls C X V
  obtain ⟨h7, hj, hw⟩ := h
  refine va_put (D := E.D) (ci := ci) (v := .int x) (ty := .int) (C := Rz ci) (T := Tz ci) (N := nfZ ci) C.1 C.2.1 C.2.2.2.2.2.1 (fun w h => List.mem_cons_of_mem _ (cz_in h7 w h)) (tyZ ci) (cz_ty h7) (cz_nm h7) C.2.2.2.2.1 C.2.2.2.2.2.2.2.1 X.1 (C.2.2.2.2.2.2.2.2.1.d w s.heap.size) X.2 k (by rw [wl_get hk.1, cE_o hk]) (cz_at h7) j hj (C.get hw) (fun _ h => h) hnf (by rw [cz_ty h7 j hj, fk_int hf]) rfl rfl (by simpa using hj) hd (fun H1 locs1 hP _ hS => ?_)
  rw [wl_set (sF_eq hk hj hf) (fun a ha => sF_ne ha)] at hP
  exact kk E p e s m args below meth c H1 locs1 ls C ⟨hP, hS⟩ V
theorem b_putL {k idx ci j : Nat} {x : Int64} (h : FL M.1.cls idx ci j) (hnf : (Tz ci j).2.2.2 = false) (hk : isO Λ k ci) (hf : fkZ ci j = 1) (hd : decode M.2.1 pc = .ok (.putfield idx, 3)) (kk : Bd Λ l M d (pc + 3) L st (sG w k j x) post) : Bd Λ l M d pc L (.long x :: .ref k :: st) w post := by
  intro E p e s m args below meth c H locs ls C X V
  obtain ⟨h7, hj, hw⟩ := h
  refine va_put (D := E.D) (ci := ci) (v := .long x) (ty := .long) (C := Rz ci) (T := Tz ci) (N := nfZ ci) C.1 C.2.1 C.2.2.2.2.2.1 (fun w h => List.mem_cons_of_mem _ (cz_in h7 w h)) (tyZ ci) (cz_ty h7) (cz_nm h7) C.2.2.2.2.1 C.2.2.2.2.2.2.2.1 X.1 (C.2.2.2.2.2.2.2.2.1.d w s.heap.size) X.2 k (by rw [wl_get hk.1, cE_o hk]) (cz_at h7) j hj (C.get hw) (fun _ h => h) hnf (by rw [cz_ty h7 j hj, fk_long hf]) rfl rfl (by simpa using hj) hd (fun H1 locs1 hP _ hS => ?_)
  rw [wl_set (sG_eq hk hj hf) (fun a ha => sG_ne ha)] at hP
  exact kk E p e s m args below meth c H1 locs1 ls C ⟨hP, hS⟩ V
/-- a reference that moves: the field j of the cell k, said by the place j of the world's references -/
theorem b_putR {k idx ci j r : Nat} {ty : FieldType} (h : FL M.1.cls idx ci j) (hnf : (Tz ci j).2.2.2 = false) (hk : isO Λ k ci) (hf : fkZ ci j = 2) (hty : tyZ ci j = ty) (hn : ∀ a : Nat, narrow ty (.ref a) = .ref a ∧ fits ty (.ref a) = true) (hr : ∀ P : Nat → Nat, Λ.2.2 (fun b => if b = j then r else P b) k j = r) (hne : ∀ (P : Nat → Nat) (k' j' : Nat), ¬ (k' = k ∧ j' = j) → Λ.2.2 (fun b => if b = j then r else P b) k' j' = Λ.2.2 P k' j') (hd : decode M.2.1 pc = .ok (.putfield idx, 3)) (kk : Bd Λ l M d (pc + 3) L st (sP w j r) post) : Bd Λ l M d pc L (.ref r :: .ref k :: st) w post := by
  intro E p e s m args below meth c H locs ls C X V
  obtain ⟨h7, hj, hw⟩ := h
  refine va_put (D := E.D) (ci := ci) (v := .ref (E.ad r)) (ty := ty) (C := Rz ci) (T := Tz ci) (N := nfZ ci) C.1 C.2.1 C.2.2.2.2.2.1 (fun w h => List.mem_cons_of_mem _ (cz_in h7 w h)) (tyZ ci) (cz_ty h7) (cz_nm h7) C.2.2.2.2.1 C.2.2.2.2.2.2.2.1 X.1 (C.2.2.2.2.2.2.2.2.1.d w s.heap.size) X.2 k (by rw [wl_get hk.1, cE_o hk]) (cz_at h7) j hj (C.get hw) (fun _ h => h) hnf (by rw [cz_ty h7 j hj, hty]) (hn _).1 (hn _).2 (by simpa using hj) hd (fun H1 locs1 hP _ hS => ?_)
  have hE : cE Λ E (sP w j r) k = .inr (ci, ((List.range (nfZ ci)).map (fvZ Λ E w ci k)).set j (.ref (E.ad r))) := ?_
  have hO : ∀ a, a ≠ k → cE Λ E (sP w j r) a = cE Λ E w a := fun a ha => cE_ne rfl rfl rfl rfl (fun j' => hne _ _ _ (fun q => ha q.1))
  rw [wl_set hE hO] at hP
  · exact kk E p e s m args below meth c H1 locs1 ls C ⟨hP, hS⟩ V
  · rw [cE_o hk, mr_set hj (g := fvZ Λ E (sP w j r) ci k)]
    · intro i hi
      show (if fkZ ci i = 0 then _ else if fkZ ci i = 1 then _ else Value.ref (E.ad (Λ.2.2 (fun b => if b = j then r else w.2.2.2.2 b) k i))) = _
      rw [hne _ _ _ (fun q => hi q.2)]
      rfl
    · show (if fkZ ci j = 0 then _ else if fkZ ci j = 1 then _ else Value.ref (E.ad (Λ.2.2 (fun b => if b = j then r else w.2.2.2.2 b) k j))) = _
      rw [hf, hr]
      rfl
/-! rows of numbers; the place as a natural number -/
theorem ix_in {i : Int32} {ii n : Nat} (hi : i = nI ii) (hlt : ii < n) (hn : n < 2 ^ 31) : vp_in i n := by rw [hi]; exact vp_in_nI hlt hn
theorem ix_cl {i : Int32} {ii n : Nat} (hi : i = nI ii) (hlt : ii < n) (hn : n < 2 ^ 31) : i.toNatClampNeg = ii := by rw [hi]; exact nI_clamp (by omega)
theorem b_iaload {a n ii : Nat} {i : Int32} (ha : isA Λ a 0 n) (hi : i = nI ii) (hlt : ii < n) (hn : n < 2 ^ 31) (hd : decode M.2.1 pc = .ok (.iaload, 1)) (kk : Bd Λ l M d (pc + 1) L (.int (w.2.2.1 a ii) :: st) w post) : Bd Λ l M d pc L (.int i :: .ref a :: st) w post := by
  intro E p e s m args below meth c H locs ls C X V
  refine va_iald C.1 C.2.1 C.2.2.2.2.2.2.2.1 X.1 a 0 (f := w.2.2.1 a) (by rw [wl_get ha.1, cE_a ha]; rfl) rfl (ix_in hi hlt hn) hd ?_
  rw [ix_cl hi hlt hn]
  exact kk E p e s m args below meth c H locs ls C X V
theorem b_baload {a n ii : Nat} {i : Int32} (ha : isA Λ a 2 n) (hi : i = nI ii) (hlt : ii < n) (hn : n < 2 ^ 31) (hd : decode M.2.1 pc = .ok (.baload, 1)) (kk : Bd Λ l M d (pc + 1) L (.int (w.2.2.1 a ii) :: st) w post) : Bd Λ l M d pc L (.int i :: .ref a :: st) w post := by
  intro E p e s m args below meth c H locs ls C X V
  refine va_bald C.1 C.2.1 C.2.2.2.2.2.2.2.1 X.1 a 2 (f := w.2.2.1 a) (by rw [wl_get ha.1, cE_a ha]; rfl) rfl (ix_in hi hlt hn) hd ?_
  rw [ix_cl hi hlt hn]
  exact kk E p e s m args below meth c H locs ls C X V
theorem b_zaload {a n ii : Nat} {i : Int32} (ha : isA Λ a 3 n) (hi : i = nI ii) (hlt : ii < n) (hn : n < 2 ^ 31) (hd : decode M.2.1 pc = .ok (.baload, 1)) (kk : Bd Λ l M d (pc + 1) L (.int (w.2.2.1 a ii) :: st) w post) : Bd Λ l M d pc L (.int i :: .ref a :: st) w post := by
  intro E p e s m args below meth c H locs ls C X V
  refine va_zald C.1 C.2.1 C.2.2.2.2.2.2.2.1 X.1 a 3 (f := w.2.2.1 a) (by rw [wl_get ha.1, cE_a ha]; rfl) rfl (ix_in hi hlt hn) hd ?_
  rw [ix_cl hi hlt hn]
  exact kk E p e s m args below meth c H locs ls C X V
theorem b_laload {a n ii : Nat} {i : Int32} (ha : isA Λ a 1 n) (hi : i = nI ii) (hlt : ii < n) (hn : n < 2 ^ 31) (hd : decode M.2.1 pc = .ok (.laload, 1)) (kk : Bd Λ l M d (pc + 1) L (.long (w.2.2.2.1 a ii) :: st) w post) : Bd Λ l M d pc L (.int i :: .ref a :: st) w post := by
  intro E p e s m args below meth c H locs ls C X V
  refine va_lald C.1 C.2.1 C.2.2.2.2.2.2.2.1 X.1 a 1 (f := w.2.2.2.1 a) (by rw [wl_get ha.1, cE_a ha]; rfl) rfl (ix_in hi hlt hn) hd ?_
  rw [ix_cl hi hlt hn]
  exact kk E p e s m args below meth c H locs ls C X V
theorem b_aaload4 {a n ii : Nat} {i : Int32} (r : Nat) (ha : isA Λ a 4 n) (hi : i = nI ii) (hlt : ii < n) (hn : n < 2 ^ 31) (hr : Λ.2.2 w.2.2.2.2 a ii = r) (hd : decode M.2.1 pc = .ok (.aaload, 1)) (kk : Bd Λ l M d (pc + 1) L (.ref r :: st) w post) : Bd Λ l M d pc L (.int i :: .ref a :: st) w post := by
  intro E p e s m args below meth c H locs ls C X V
  have hK := C.2.2.2.2.2.2.2.1
  have he : (wl Λ E w)[a]? = some (E.ad a, .inl (E.tc 4, n, .inr (.inr (.inr (.inr (fun i => some (E.ad (Λ.2.2 w.2.2.2.2 a i)))))))) := by rw [wl_get ha.1, cE_a ha]; rfl
  have hin := ix_in hi hlt hn
  have hcl := ix_cl hi hlt hn
  refine W.aald (v := .ref (E.ad r)) (ty := .array .long) C.1 C.2.1 (X.1 a _ he) ((hK.2 4 (E.tc 4, .array .long) rfl).1 n (fun j => va_rf (some (E.ad (Λ.2.2 w.2.2.2.2 a j))))) rfl (fun q => by cases q) (by show ¬ (i < 0 ∨ (arrV _ _ _).slots.size ≤ _); rw [arrV_size]; exact hin) (by show (arrV _ _ _).slots[_]? = _; rw [arrV_read _ _ (by rw [hcl]; exact hlt), hcl]; show some (Value.ref (E.ad (Λ.2.2 w.2.2.2.2 a ii))) = _; rw [hr]) rfl rfl hd ?_
  exact kk E p e s m args below meth c H locs ls C X V
theorem b_aaload5 {a n ii : Nat} {i : Int32} (r : Nat) (ha : isA Λ a 5 n) (hi : i = nI ii) (hlt : ii < n) (hn : n < 2 ^ 31) (hr : Λ.2.2 w.2.2.2.2 a ii = r) (hd : decode M.2.1 pc = .ok (.aaload, 1)) (kk : Bd Λ l M d (pc + 1) L (.ref r :: st) w post) : Bd Λ l M d pc L (.int i :: .ref a :: st) w post := by
  intro E p e s m args below meth c H locs ls C X V
  refine va_aldq (C := "SlatePlay$School") C.1 C.2.1 C.2.2.2.2.2.2.2.1 X.1 a 5 (f := fun i => some (E.ad (Λ.2.2 w.2.2.2.2 a i))) (by rw [wl_get ha.1, cE_a ha]; rfl) rfl (ix_in hi hlt hn) hd ?_
  rw [ix_cl hi hlt hn]
  simp only [hr]
  exact kk E p e s m args below meth c H locs ls C X V
theorem b_iastore {a n ii : Nat} {i x : Int32} (ha : isA Λ a 0 n) (hi : i = nI ii) (hlt : ii < n) (hn : n < 2 ^ 31) (hd : decode M.2.1 pc = .ok (.iastore, 1)) (kk : Bd Λ l M d (pc + 1) L st (sI w a ii x) post) : Bd Λ l M d pc L (.int x :: .int i :: .ref a :: st) w post := by
  intro E p e s m args below meth c H locs ls C X V
  refine va_iast C.1 C.2.1 C.2.2.2.2.2.2.2.1 X.1 (C.2.2.2.2.2.2.2.2.1.d w s.heap.size) X.2 a 0 (f := w.2.2.1 a) (by rw [wl_get ha.1, cE_a ha]; rfl) rfl (ix_in hi hlt hn) hd (fun H1 locs1 hP _ hS => ?_)
  rw [ix_cl hi hlt hn, wl_set (sI_eq ha (by decide) (by decide)) (fun b hb => sI_ne hb)] at hP
  exact kk E p e s m args below meth c H1 locs1 ls C ⟨hP, hS⟩ V
theorem b_bastore {a n ii : Nat} {i x : Int32} (ha : isA Λ a 2 n) (hi : i = nI ii) (hlt : ii < n) (hn : n < 2 ^ 31) (hd : decode M.2.1 pc = .ok (.bastore, 1)) (kk : Bd Λ l M d (pc + 1) L st (sI w a ii x.toInt8.toInt32) post) : Bd Λ l M d pc L (.int x :: .int i :: .ref a :: st) w post := by
  intro E p e s m args below meth c H locs ls C X V
  refine va_bast C.1 C.2.1 C.2.2.2.2.2.2.2.1 X.1 (C.2.2.2.2.2.2.2.2.1.d w s.heap.size) X.2 a 2 (f := w.2.2.1 a) (by rw [wl_get ha.1, cE_a ha]; rfl) rfl (ix_in hi hlt hn) hd (fun H1 locs1 hP _ hS => ?_)
  rw [ix_cl hi hlt hn, vp_nar_byte, wl_set (sI_eq ha (by decide) (by decide)) (fun b hb => sI_ne hb)] at hP
  exact kk E p e s m args below meth c H1 locs1 ls C ⟨hP, hS⟩ V
theorem b_zastore {a n ii : Nat} {i x : Int32} (ha : isA Λ a 3 n) (hx : vp_nar .boolean x = x) (hi : i = nI ii) (hlt : ii < n) (hn : n < 2 ^ 31) (hd : decode M.2.1 pc = .ok (.bastore, 1)) (kk : Bd Λ l M d (pc + 1) L st (sI w a ii x) post) : Bd Λ l M d pc L (.int x :: .int i :: .ref a :: st) w post := by
  intro E p e s m args below meth c H locs ls C X V
  refine va_zast C.1 C.2.1 C.2.2.2.2.2.2.2.1 X.1 (C.2.2.2.2.2.2.2.2.1.d w s.heap.size) X.2 a 3 (f := w.2.2.1 a) (by rw [wl_get ha.1, cE_a ha]; rfl) rfl (ix_in hi hlt hn) hd (fun H1 locs1 hP _ hS => ?_)
  rw [ix_cl hi hlt hn, hx, wl_set (sI_eq ha (by decide) (by decide)) (fun b hb => sI_ne hb)] at hP
  exact kk E p e s m args below meth c H1 locs1 ls C ⟨hP, hS⟩ V
theorem b_lastore {a n ii : Nat} {i : Int32} {x : Int64} (ha : isA Λ a 1 n) (hi : i = nI ii) (hlt : ii < n) (hn : n < 2 ^ 31) (hd : decode M.2.1 pc = .ok (.lastore, 1)) (kk : Bd Λ l M d (pc + 1) L st (sJ w a ii x) post) : Bd Λ l M d pc L (.long x :: .int i :: .ref a :: st) w post := by
  intro E p e s m args below meth c H locs ls C X V
  refine va_last C.1 C.2.1 C.2.2.2.2.2.2.2.1 X.1 (C.2.2.2.2.2.2.2.2.1.d w s.heap.size) X.2 a 1 (f := w.2.2.2.1 a) (by rw [wl_get ha.1, cE_a ha]; rfl) rfl (ix_in hi hlt hn) hd (fun H1 locs1 hP _ hS => ?_)
  rw [ix_cl hi hlt hn, wl_set (sJ_eq ha) (fun b hb => sJ_ne hb)] at hP
  exact kk E p e s m args below meth c H1 locs1 ls C ⟨hP, hS⟩ V
theorem b_alen {a n t : Nat} {ty : FieldType} (ha : isA Λ a t n) (ht : ∀ E : En, (tyE E)[t]? = some (E.tc t, ty)) (hd : decode M.2.1 pc = .ok (.arraylength, 1)) (kk : Bd Λ l M d (pc + 1) L (.int (nI n) :: st) w post) : Bd Λ l M d pc L (.ref a :: st) w post := by
  intro E p e s m args below meth c H locs ls C X V
  exact va_alen (x := (n, cnZ Λ E w a t)) (v := nI n) C.1 C.2.1 C.2.2.2.2.2.2.2.1 X.1 a t (by rw [wl_get ha.1, cE_a ha]) (ht E) rfl hd (kk E p e s m args below meth c H locs ls C X V)
end BR2
