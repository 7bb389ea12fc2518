/-! ===== the machine does what the pure semantics says ===== -/
theorem nth_get {v : Value} (hv : v ≠ jk) : ∀ {L : List Value} {a : Nat}, nth L a = v → L[a]? = some v := by
  intro L
  induction L with
  | nil => intro a h; exact absurd h.symm hv
  | cons u r ih =>
    intro a h
    cases a with
    | zero => simpa [nth] using h
    | succ a => simpa using ih (show nth r a = v from h)
theorem stL_eq : ∀ (L : List Value) (a : Nat) (v : Value), L.set a v = stL L a v := by
  intro L
  induction L with
  | nil => intro a v; rfl
  | cons u r ih =>
    intro a v
    cases a with
    | zero => rfl
    | succ a => simp [stL, ih]
theorem okL_get : ∀ (L : List Value) (i : Nat), okL L (i + 1) = true → ∀ u, L[i]? = some u → ¬ u.category = 2 := by
  intro L
  induction L with
  | nil => intro i _ u h; simp at h
  | cons v r ih =>
    intro i h u hu
    cases i with
    | zero =>
      simp at hu
      subst hu
      have h' : nlg v = true := h
      cases v <;> simp_all [nlg, Value.category]
    | succ i => exact ih i (show okL r (i + 1) = true from h) u (by simpa using hu)
theorem okL_ok {L : List Value} {i : Nat} (h : okL L i = true) : okP L i = true := by
  refine List.all_eq_true.mpr (fun j _ => ?_)
  by_cases e : j + 1 = i
  · subst e
    cases hL : L[j]? with
    | none => simp
    | some u =>
      have := okL_get L j h u hL
      simp [this]
  · simp [e]
theorem ctv_cat (v : Value) : v.category = ctv v := by cases v <;> rfl
theorem ct_sum (L : List Value) : (L.map fun v => v.category).sum = ct L := by
  induction L with
  | nil => rfl
  | cons v r ih => simp [ct, ctv_cat, ← ih]
theorem eL_ct (L : List Value) : (eL L).length = ct L := by
  induction L with
  | nil => rfl
  | cons v r ih =>
    unfold eL ct
    rw [← ctv_cat]
    by_cases h : v.category = 2
    · rw [if_pos h, h]
      simp only [List.length_cons, ih]
      omega
    · rw [if_neg h]
      have h1 : v.category = 1 := by cases v <;> simp_all [Value.category]
      rw [h1]
      simp only [List.length_cons, ih]
      omega
theorem pad_eq : ∀ (n : Nat) (l : List Value), l.length ≤ n → l ++ List.replicate (n - l.length) jk = pad n l := by
  intro n
  induction n with
  | zero =>
    intro l h
    cases l with
    | nil => rfl
    | cons v r => simp at h
  | succ n ih =>
    intro l h
    cases l with
    | nil =>
      have := ih [] (by simp)
      simp [pad] at this ⊢
      rw [← this]
      rfl
    | cons v r =>
      have := ih r (by simpa using h)
      simp only [pad, List.cons_append, List.length_cons, Nat.add_sub_add_right, this]
theorem isOb_isO {k ci : Nat} (h : isOb k ci = true) : isO ΛZ k ci := by
  unfold isOb at h
  rw [Bool.and_eq_true] at h
  refine ⟨of_decide_eq_true h.1, ?_⟩
  have h2 := h.2
  show kd k = .inl ci
  cases hk : kd k with
  | inl c => rw [hk] at h2; simp at h2; rw [h2]
  | inr q => rw [hk] at h2; cases h2
theorem lnA_isA {a t n : Nat} (h : lnA a t = some n) : isA ΛZ a t n := by
  unfold lnA at h
  by_cases hl : a < 290
  · rw [if_pos hl] at h
    refine ⟨hl, ?_⟩
    show kd a = .inr (t, n)
    cases hk : kd a with
    | inl c => rw [hk] at h; cases h
    | inr q =>
      obtain ⟨t', n'⟩ := q
      rw [hk] at h
      by_cases e : t' = t
      · subst e
        simp at h
        rw [h]
      · simp [e] at h
  · rw [if_neg hl] at h
    cases h
theorem kd_sz {a t n : Nat} (h : kd a = .inr (t, n)) : n ≤ 16384 := by
  unfold kd at h
  split at h
  · split at h
    · cases h
    · cases h; decide
  · split at h <;> first | (cases h; done) | (cases h; decide)
theorem lnA_sz {a t n : Nat} (h : lnA a t = some n) : n < 2 ^ 31 := by
  have := kd_sz (lnA_isA h).2
  omega
theorem iX_of {i : Int32} (h : ¬ i < 0) : i = nI (iX i) := by
  obtain ⟨j, hj, rfl⟩ := nI_of h
  unfold iX
  rw [nI_clamp hj]
theorem inB_of {i : Int32} {n : Nat} (h : inB i n = true) : i = nI (iX i) ∧ iX i < n := by
  unfold inB at h
  rw [Bool.and_eq_true] at h
  exact ⟨iX_of (by simpa using h.1), of_decide_eq_true h.2⟩
theorem inC_of {i m : Int32} {n : Nat} (h : inC i m n = true) : i = nI (iX i) ∧ m = nI (iX m) ∧ iX i + iX m ≤ n := by
  unfold inC at h
  rw [Bool.and_eq_true, Bool.and_eq_true] at h
  exact ⟨iX_of (by simpa using h.1), iX_of (by simpa using h.2.1), of_decide_eq_true h.2.2⟩
theorem tkC_of : ∀ (n : Nat) (acc st As r : List Value), tkC n acc st = some (As, r) → ∃ xs : List Value, xs.length = n ∧ st = xs ++ r ∧ As = xs.reverse ++ acc := by
  intro n
  induction n with
  | zero =>
    intro acc st As r h
    cases h
    exact ⟨[], rfl, rfl, rfl⟩
  | succ n ih =>
    intro acc st As r h
    cases st with
    | nil => cases h
    | cons v st =>
      obtain ⟨xs, h1, h2, h3⟩ := ih (v :: acc) st As r h
      exact ⟨v :: xs, by simp [h1], by simp [h2], by simp [h3]⟩
theorem tkC_st {n : Nat} {st As r : List Value} (h : tkC n [] st = some (As, r)) : As.length = n ∧ st = As.reverse ++ r := by
  obtain ⟨xs, h1, h2, h3⟩ := tkC_of _ _ _ _ _ h
  simp at h3
  subst h3
  simp [h1, h2]
theorem nI_0' : nI 0 = 0 := nI_0
def Snd (l : Launch) (M : MI) (d : Nat) (post : Option Value → Wd → Prop) : Nx → Prop
  | .inl none => False
  | .inl (some (r, w)) => post r w
  | .inr (.inl (pc, L, st, w)) => Bd ΛZ l M d pc L st w post
  | .inr (.inr (m', As, pc, L, rest, w)) => ∃ (r : Option Value) (w2 : Wd), Bd ΛZ l (MT m') (rkM m') 0 (iniL m' As) [] w (is2 r w2) ∧ Bd ΛZ l M d pc L (pu r rest) w2 post
theorem pu_app (r : Option Value) (rest : List Value) : r.toList ++ rest = pu r rest := by cases r <;> rfl
theorem bz_bool {x : Int32} (h : bz x 1 = true) : x = 0 ∨ x = 1 := by
  simp [bz] at h
  rcases h with h | h
  · exact Or.inl (h.trans nI_0)
  · exact Or.inr (h.trans (by decide +kernel))
theorem nI_inj {x : Int32} {k : Nat} (hk : k < 1000) : x = nI k ↔ x.toInt = (k : Int) := by
  constructor
  · rintro rfl
    exact nI_toInt (by omega)
  · intro h
    exact Int32.toInt_inj.mp (by rw [h, nI_toInt (by omega)])
theorem swK_at {l : Launch} {M : MI} {d : Nat} {post : Option Value → Wd → Prop} {x : Int32} {L st : List Value} {w : Wd} {df : Nat} : ∀ (ks : List Nat), Snd l M d post (swK x L st w df ks) → (∃ i k t : Nat, (evens ks)[i]? = some k ∧ (odds ks)[i]? = some t ∧ x = nI k ∧ Bd ΛZ l M d t L st w post) ∨ ((∀ k ∈ evens ks, ¬ x = nI k) ∧ Bd ΛZ l M d df L st w post)
  | [], h => Or.inr ⟨fun k hk => by simp [evens] at hk, h⟩
  | [_], h => Or.inr ⟨fun k hk => by simp [evens] at hk, h⟩
  | k :: t :: r, h => by
    unfold swK at h
    by_cases e : x = nI k
    · rw [if_pos e] at h
      exact Or.inl ⟨0, k, t, rfl, rfl, e, h⟩
    · rw [if_neg e] at h
      rcases swK_at r h with ⟨i, k', t', h1, h2, h3, h4⟩ | ⟨h1, h2⟩
      · exact Or.inl ⟨i + 1, k', t', h1, h2, h3, h4⟩
      · refine Or.inr ⟨fun k' hk' => ?_, h2⟩
        rcases List.mem_cons.mp (show k' ∈ k :: evens r from hk') with rfl | q
        · exact e
        · exact h1 k' q
theorem swK_look {l : Launch} {M : MI} {d : Nat} {post : Option Value → Wd → Prop} {x : Int32} {L st : List Value} {w : Wd} {df pc : Nat} {dflt : Int} (hdf : (pc : Int) + dflt = (df : Int)) : ∀ (ks : List Nat) (ps : List (Int × Int)), (evens ks).all (fun k => decide (k < 1000)) = true → (evens ks).map (fun t => ((t : Nat) : Int)) = ps.map (fun q => q.1) → (odds ks).map (fun t => ((t : Nat) : Int)) = ps.map (fun q => (pc : Int) + q.2) → Snd l M d post (swK x L st w df ks) → ∃ tgt : Nat, (pc : Int) + Op.lookupswitch.offset ps dflt x.toInt = (tgt : Int) ∧ Bd ΛZ l M d tgt L st w post
  | [], ps, _, h1, _, h => by
    cases ps with
    | nil => exact ⟨df, hdf, h⟩
    | cons q r => simp [evens] at h1
  | [_], ps, _, h1, _, h => by
    cases ps with
    | nil => exact ⟨df, hdf, h⟩
    | cons q r => simp [evens] at h1
  | k :: t :: r, ps, h0, h1, h2, h => by
    cases ps with
    | nil => simp [evens] at h1
    | cons q ps =>
      obtain ⟨a, o⟩ := q
      simp [evens] at h1 h0
      simp [odds] at h2
      unfold swK at h
      have hk : x = nI k ↔ x.toInt = (k : Int) := nI_inj h0.1
      rw [Op.lookupswitch.offset_cons]
      by_cases e : x = nI k
      · rw [if_pos e] at h
        rw [if_pos (by rw [← h1.1, hk.mp e])]
        exact ⟨t, h2.1.symm, h⟩
      · rw [if_neg e] at h
        rw [if_neg (fun q => e (hk.mpr (by rw [← q, h1.1])))]
        exact swK_look hdf r ps (by simpa using h0.2) h1.2 h2.2 h
theorem Does.ofI {l : Launch} {m : Nat} {As : List Value} {w : Wd} {post : Option Value → Wd → Prop} (hm : m < nM) (hct : ct As ≤ mxL m) (h : Bd ΛZ l (MT m) (rkM m) 0 (iniL m As) [] w post) : Does ΛZ l (MT m) (rkM m) As w post := by
  have hc := cm_all m hm
  have hB : chkB m = true := by
    unfold chkM chkS chkV at hc
    split at hc
    · exact (Bool.and_eq_true _ _ ▸ hc).1
    · exact (Bool.and_eq_true _ _ ▸ hc).1
  unfold chkB at hB
  simp only [Bool.and_eq_true, decide_eq_true_eq] at hB
  have e := hB.2.2.2.2.2.2.1
  refine Does.of (iniL m As) hB.2.2.2.2.2.2.2 (by rw [eL_ct, ← e]; exact hct) ?_ h
  unfold iniL
  rw [e]
  exact pad_eq _ _ (by rw [eL_ct, ← e]; exact hct)
theorem MFB_of {m : Nat} (h : chkB m = true) : MFB (MT m) (wdM m).2.2.2.2 := by
  unfold chkB at h
  simp only [Bool.and_eq_true, decide_eq_true_eq] at h
  exact ⟨wdIs_in h.1, wdIs_in h.2.1, ⟨h.2.2.1, h.2.2.2.1, h.2.2.2.2.1⟩, h.2.2.2.2.2.1⟩
theorem MFV_of {m : Nat} (h : isV m = true) : MFV (MT m) (wdM m).2.2.2.2 ∧ m < nM := by
  unfold isV at h
  simp only [Bool.and_eq_true, decide_eq_true_eq, Bool.not_eq_true'] at h
  have hc := cm_all m h.1
  unfold chkM at hc
  rw [if_neg (by simpa using h.2)] at hc
  unfold chkV at hc
  simp only [Bool.and_eq_true] at hc
  exact ⟨⟨MFB_of hc.1, wdIs_in hc.2.1, wdIs_in hc.2.2⟩, h.1⟩
theorem MFS_of {m : Nat} (h : isS m = true) : MFS (MT m) (wdM m).2.2.2.2 ∧ m < nM := by
  unfold isS at h
  simp only [Bool.and_eq_true, decide_eq_true_eq] at h
  have hc := cm_all m h.1
  unfold chkM at hc
  rw [if_pos h.2] at hc
  unfold chkS at hc
  simp only [Bool.and_eq_true] at hc
  exact ⟨⟨MFB_of hc.1, wdIs_in hc.2⟩, h.1⟩
/-- the two String methods: their rows are proved elsewhere -/
def StrK (l : Launch) : Prop := ∀ (M : MI) (d pc : Nat) (L st : List Value) (w : Wd) (post : Option Value → Wd → Prop) (i idx : Nat), i < 8 → 7 ≤ d → ct st ≤ 8 → decode M.2.1 pc = .ok (.invokevirtual idx, 3) →
  (Cond.methodLink M.1.cls idx nmLen ∈ GG → Bd ΛZ l M d (pc + 3) L (.int (nI (skN.getD i 0)) :: st) w post → Bd ΛZ l M d pc L (.ref (1000 + i) :: st) w post) ∧
  (∀ x : Int32, Cond.methodLink M.1.cls idx nmChr ∈ GG → inB x (skN.getD i 0) = true → Bd ΛZ l M d (pc + 3) L (.int ((skB.getD i []).getD (iX x) 0) :: st) w post → Bd ΛZ l M d pc L (.int x :: .ref (1000 + i) :: st) w post)
/-- Math.floorMod: likewise -/
def FmK (l : Launch) : Prop := ∀ (M : MI) (d pc : Nat) (L st : List Value) (w : Wd) (post : Option Value → Wd → Prop) (x y : Int32) (idx : Nat), ¬ y = 0 → 1 ≤ d → ct st ≤ 8 → decode M.2.1 pc = .ok (.invokestatic idx, 3) → Cond.methodLink M.1.cls idx yJ9_floorMod_7cf53 ∈ GG → Bd ΛZ l M d (pc + 3) L (.int (fmI x y) :: st) w post → Bd ΛZ l M d pc L (.int y :: .int x :: st) w post
def StrOK (l : Launch) : Prop := StrK l ∧ FmK l
theorem b_ldcS {l : Launch} {M : MI} {d pc i idx : Nat} {L st : List Value} {w : Wd} {post : Option Value → Wd → Prop} (hi : i < 8) (hx : skI.getD i 0 = idx) (hM : M.1.cls = RX1) (hd : decode M.2.1 pc = .ok (.ldc idx, 2)) (kk : Bd ΛZ l M d (pc + 2) L (.ref (1000 + i) :: st) w post) : Bd ΛZ l M d pc L st w post := by
  intro E p e s m args below meth c H locs ls C X V
  subst hx
  have h := C.2.2.2.2.2.2.2.2.2.2.2.1 i hi
  exact va_ldcS C.1 C.2.1 (hM ▸ C.2.2.2.2.1) h hd (kk E p e s m args below meth c H locs ls C X V)
theorem rf_58e (P : Nat → Nat) (j : Nat) : rf P 58 j = if j = 3 then P 3 else if j = 4 then P 4 else if j = 7 then P 7 else if j = 8 then P 8 else 0 := by
  show (match j with | 3 => P 3 | 4 => P 4 | 7 => P 7 | 8 => P 8 | _ => 0) = _
  split <;> simp_all
theorem k_1000 {k : Nat} (h1 : 1000 ≤ k) (h2 : k < 1008) : ∃ i : Nat, i < 8 ∧ k = 1000 + i := ⟨k - 1000, by omega, by omega⟩
theorem nst_ok {E : En} {U : State} {H : Heap} {M M' : MI} {i : Nat} (hM : M.1.cls = RX5) (h : nst i = some M'.1) (hx : XF ΛZ E U H) : va_Nw (.methodLinkNest M.1.cls i M'.1 "SlatePlay") U := by
  unfold nst at h
  split at h
  · rename_i e
    subst e
    rw [← Option.some.inj h, hM]
    exact hx.1
  · split at h
    · rename_i e
      subst e
      rw [← Option.some.inj h, hM]
      exact hx.2.1
    · cases h

theorem acN : Cond.native arraycopyName ∈ GG := GGi 490 (by decide +kernel) (by decide +kernel)
theorem acS : Cond.static arraycopyName ∈ GG := GGi 489 (by decide +kernel) (by decide +kernel)
theorem acI : Cond.initialized "java/lang/System" ∈ GG := GGi 116 (by decide +kernel) (by decide +kernel)
theorem mlX2_55 : Cond.methodLink RX2 55 arraycopyName ∈ GG := GGi 488 (by decide +kernel) (by decide +kernel)
theorem mlX5_372 : Cond.methodLink RX5 372 arraycopyName ∈ GG := GGi 1063 (by decide +kernel) (by decide +kernel)
theorem maMaxS : Cond.static Lib.Math.max.name ∈ GG := GGi 473 (by decide +kernel) (by decide +kernel)
theorem maMaxC : Cond.code Lib.Math.max.name Lib.Math.max.code 2 (some .int) ∈ GG := GGi 474 (by decide +kernel) (by decide +kernel)
theorem maMinS : Cond.static Lib.Math.min.name ∈ GG := GGi 365 (by decide +kernel) (by decide +kernel)
theorem maMinC : Cond.code Lib.Math.min.name Lib.Math.min.code 2 (some .int) ∈ GG := GGi 366 (by decide +kernel) (by decide +kernel)
theorem maI : Cond.initialized "java/lang/Math" ∈ GG := GGi 111 (by decide +kernel) (by decide +kernel)
set_option maxHeartbeats 8000000 in
theorem step_ok {l : Launch} (hS : StrOK l) {M : MI} {d pc : Nat} {L st : List Value} {w : Wd} {post : Option Value → Wd → Prop} (o : Op) (hc : chk M d pc o = true) (h : Snd l M d post (zop o pc L st w)) : Bd ΛZ l M d pc L st w post := by
  obtain ⟨ins, a, b, c, ks⟩ := o
  unfold chk at hc
  rw [Bool.or_eq_true] at hc
  rcases hc with hc | hc
  · have e : ins = .nop := of_decide_eq_true hc
    subst e
    exact False.elim h
  revert hc
  cases hdd : decode M.2.1 pc with
  | error _ => intro hc; cases hc
  | ok q =>
  obtain ⟨i0, n⟩ := q
  intro hc
  rw [Bool.and_eq_true] at hc
  have e : i0 = ins := of_decide_eq_true hc.1
  subst e
  have hk := hc.2
  have hd := hdd
  clear hc hdd
  change Snd l M d post (zst i0 a b c ks pc L st w) at h
  cases i0 with
  | iadd  =>
    unfold chk2 at hk; simp only [Bool.and_eq_true, decide_eq_true_eq, Bool.or_eq_true] at hk
    unfold zst at h; dsimp only at h
    subst hk; split at h <;> first | exact False.elim h | exact b_iadd hd h
  | isub  =>
    unfold chk2 at hk; simp only [Bool.and_eq_true, decide_eq_true_eq, Bool.or_eq_true] at hk
    unfold zst at h; dsimp only at h
    subst hk; split at h <;> first | exact False.elim h | exact b_isub hd h
  | imul  =>
    unfold chk2 at hk; simp only [Bool.and_eq_true, decide_eq_true_eq, Bool.or_eq_true] at hk
    unfold zst at h; dsimp only at h
    subst hk; split at h <;> first | exact False.elim h | exact b_imul hd h
  | iand  =>
    unfold chk2 at hk; simp only [Bool.and_eq_true, decide_eq_true_eq, Bool.or_eq_true] at hk
    unfold zst at h; dsimp only at h
    subst hk; split at h <;> first | exact False.elim h | exact b_iand hd h
  | ior  =>
    unfold chk2 at hk; simp only [Bool.and_eq_true, decide_eq_true_eq, Bool.or_eq_true] at hk
    unfold zst at h; dsimp only at h
    subst hk; split at h <;> first | exact False.elim h | exact b_ior hd h
  | ixor  =>
    unfold chk2 at hk; simp only [Bool.and_eq_true, decide_eq_true_eq, Bool.or_eq_true] at hk
    unfold zst at h; dsimp only at h
    subst hk; split at h <;> first | exact False.elim h | exact b_ixor hd h
  | ishl  =>
    unfold chk2 at hk; simp only [Bool.and_eq_true, decide_eq_true_eq, Bool.or_eq_true] at hk
    unfold zst at h; dsimp only at h
    subst hk; split at h <;> first | exact False.elim h | exact b_ishl hd h
  | ishr  =>
    unfold chk2 at hk; simp only [Bool.and_eq_true, decide_eq_true_eq, Bool.or_eq_true] at hk
    unfold zst at h; dsimp only at h
    subst hk; split at h <;> first | exact False.elim h | exact b_ishr hd h
  | iushr  =>
    unfold chk2 at hk; simp only [Bool.and_eq_true, decide_eq_true_eq, Bool.or_eq_true] at hk
    unfold zst at h; dsimp only at h
    subst hk; split at h <;> first | exact False.elim h | exact b_iushr hd h
  | ladd  =>
    unfold chk2 at hk; simp only [Bool.and_eq_true, decide_eq_true_eq, Bool.or_eq_true] at hk
    unfold zst at h; dsimp only at h
    subst hk; split at h <;> first | exact False.elim h | exact b_ladd hd h
  | lsub  =>
    unfold chk2 at hk; simp only [Bool.and_eq_true, decide_eq_true_eq, Bool.or_eq_true] at hk
    unfold zst at h; dsimp only at h
    subst hk; split at h <;> first | exact False.elim h | exact b_lsub hd h
  | lmul  =>
    unfold chk2 at hk; simp only [Bool.and_eq_true, decide_eq_true_eq, Bool.or_eq_true] at hk
    unfold zst at h; dsimp only at h
    subst hk; split at h <;> first | exact False.elim h | exact b_lmul hd h
  | lcmp  =>
    unfold chk2 at hk; simp only [Bool.and_eq_true, decide_eq_true_eq, Bool.or_eq_true] at hk
    unfold zst at h; dsimp only at h
    subst hk; split at h <;> first | exact False.elim h | exact b_lcmp hd h
  | i2l  =>
    unfold chk2 at hk; simp only [Bool.and_eq_true, decide_eq_true_eq, Bool.or_eq_true] at hk
    unfold zst at h; dsimp only at h
    subst hk; split at h <;> first | exact False.elim h | exact b_i2l hd h
  | l2i  =>
    unfold chk2 at hk; simp only [Bool.and_eq_true, decide_eq_true_eq, Bool.or_eq_true] at hk
    unfold zst at h; dsimp only at h
    subst hk; split at h <;> first | exact False.elim h | exact b_l2i hd h
  | i2b  =>
    unfold chk2 at hk; simp only [Bool.and_eq_true, decide_eq_true_eq, Bool.or_eq_true] at hk
    unfold zst at h; dsimp only at h
    subst hk; split at h <;> first | exact False.elim h | exact b_i2b hd h
  | i2s  =>
    unfold chk2 at hk; simp only [Bool.and_eq_true, decide_eq_true_eq, Bool.or_eq_true] at hk
    unfold zst at h; dsimp only at h
    subst hk; split at h <;> first | exact False.elim h | exact b_i2s hd h
  | idiv  =>
    unfold chk2 at hk; simp only [Bool.and_eq_true, decide_eq_true_eq, Bool.or_eq_true] at hk
    unfold zst at h; dsimp only at h
    subst hk; split at h
    · split at h
      · exact False.elim h
      · rename_i hz; exact b_idiv hd hz h
    · exact False.elim h
  | irem  =>
    unfold chk2 at hk; simp only [Bool.and_eq_true, decide_eq_true_eq, Bool.or_eq_true] at hk
    unfold zst at h; dsimp only at h
    subst hk; split at h
    · split at h
      · exact False.elim h
      · rename_i hz; exact b_irem hd hz h
    · exact False.elim h
  | ldiv  =>
    unfold chk2 at hk; simp only [Bool.and_eq_true, decide_eq_true_eq, Bool.or_eq_true] at hk
    unfold zst at h; dsimp only at h
    subst hk; split at h
    · split at h
      · exact False.elim h
      · rename_i hz; exact b_ldiv hd hz h
    · exact False.elim h
  | lrem  =>
    unfold chk2 at hk; simp only [Bool.and_eq_true, decide_eq_true_eq, Bool.or_eq_true] at hk
    unfold zst at h; dsimp only at h
    subst hk; split at h
    · split at h
      · exact False.elim h
      · rename_i hz; exact b_lrem hd hz h
    · exact False.elim h
  | iconst v =>
    unfold chk2 at hk; simp only [Bool.and_eq_true, decide_eq_true_eq, Bool.or_eq_true] at hk
    unfold zst at h; dsimp only at h
    obtain ⟨rfl, hv⟩ := hk; exact b_iconst (cI a b) hd hv h
  | bipush v =>
    unfold chk2 at hk; simp only [Bool.and_eq_true, decide_eq_true_eq, Bool.or_eq_true] at hk
    unfold zst at h; dsimp only at h
    obtain ⟨rfl, hv⟩ := hk; exact b_bipush (cI a b) hd hv h
  | sipush v =>
    unfold chk2 at hk; simp only [Bool.and_eq_true, decide_eq_true_eq, Bool.or_eq_true] at hk
    unfold zst at h; dsimp only at h
    obtain ⟨rfl, hv⟩ := hk; exact b_sipush (cI a b) hd hv h
  | lconst v =>
    unfold chk2 at hk; simp only [Bool.and_eq_true, decide_eq_true_eq, Bool.or_eq_true] at hk
    unfold zst at h; dsimp only at h
    obtain ⟨rfl, hv⟩ := hk; exact b_lconst (cL a b) hd hv h
  | ldc_w i =>
    unfold chk2 at hk; simp only [Bool.and_eq_true, decide_eq_true_eq, Bool.or_eq_true] at hk
    unfold zst at h; dsimp only at h
    obtain ⟨rfl, hv⟩ := hk; exact b_ldcw (wdIs_in hv) hd h
  | ldc2_w i =>
    unfold chk2 at hk; simp only [Bool.and_eq_true, decide_eq_true_eq, Bool.or_eq_true] at hk
    unfold zst at h; dsimp only at h
    obtain ⟨rfl, hv⟩ := hk; exact b_ldc2 (wdIs_in hv) hd h
  | ldc i =>
    unfold chk2 at hk; rw [Bool.and_eq_true] at hk
    obtain ⟨hn, hv⟩ := hk
    have hn := of_decide_eq_true hn
    subst hn
    unfold zst at h; dsimp only at h
    match c, hv, h with
    | 0, hv, h => exact b_ldc (wdIs_in hv) hd h
    | _ + 1, hv, h =>
      simp only [Bool.and_eq_true, decide_eq_true_eq] at hv
      exact b_ldcS hv.1 hv.2.1 hv.2.2 hd h
  | iload_n j =>
    unfold chk2 at hk; simp only [Bool.and_eq_true, decide_eq_true_eq, Bool.or_eq_true] at hk
    unfold zst at h; dsimp only at h
    obtain ⟨rfl, rfl⟩ := hk; split at h
    · rename_i hx; exact b_iload_n hd (nth_get (by intro q; cases q) hx) h
    · exact False.elim h
  | iload j =>
    unfold chk2 at hk; simp only [Bool.and_eq_true, decide_eq_true_eq, Bool.or_eq_true] at hk
    unfold zst at h; dsimp only at h
    obtain ⟨rfl, rfl⟩ := hk; split at h
    · rename_i hx; exact b_iload hd (nth_get (by intro q; cases q) hx) h
    · exact False.elim h
  | lload_n j =>
    unfold chk2 at hk; simp only [Bool.and_eq_true, decide_eq_true_eq, Bool.or_eq_true] at hk
    unfold zst at h; dsimp only at h
    obtain ⟨rfl, rfl⟩ := hk; split at h
    · rename_i hx; exact b_lload_n hd (nth_get (by intro q; cases q) hx) h
    · exact False.elim h
  | lload j =>
    unfold chk2 at hk; simp only [Bool.and_eq_true, decide_eq_true_eq, Bool.or_eq_true] at hk
    unfold zst at h; dsimp only at h
    obtain ⟨rfl, rfl⟩ := hk; split at h
    · rename_i hx; exact b_lload hd (nth_get (by intro q; cases q) hx) h
    · exact False.elim h
  | aload_n j =>
    unfold chk2 at hk; simp only [Bool.and_eq_true, decide_eq_true_eq, Bool.or_eq_true] at hk
    unfold zst at h; dsimp only at h
    obtain ⟨rfl, rfl⟩ := hk; split at h
    · rename_i hx; exact b_aload_n hd (nth_get (by intro q; cases q) hx) h
    · exact False.elim h
  | aload j =>
    unfold chk2 at hk; simp only [Bool.and_eq_true, decide_eq_true_eq, Bool.or_eq_true] at hk
    unfold zst at h; dsimp only at h
    obtain ⟨rfl, rfl⟩ := hk; split at h
    · rename_i hx; exact b_aload hd (nth_get (by intro q; cases q) hx) h
    · exact False.elim h
  | istore_n j =>
    unfold chk2 at hk; simp only [Bool.and_eq_true, decide_eq_true_eq, Bool.or_eq_true] at hk
    unfold zst at h; dsimp only at h
    obtain ⟨rfl, rfl, hb⟩ := hk; split at h
    · split at h
      · rename_i ho; exact b_istore_n _ hd hb (okL_ok ho) (stL_eq _ _ _) h
      · exact False.elim h
    · exact False.elim h
  | istore j =>
    unfold chk2 at hk; simp only [Bool.and_eq_true, decide_eq_true_eq, Bool.or_eq_true] at hk
    unfold zst at h; dsimp only at h
    obtain ⟨rfl, rfl, hb⟩ := hk; split at h
    · split at h
      · rename_i ho; exact b_istore _ hd hb (okL_ok ho) (stL_eq _ _ _) h
      · exact False.elim h
    · exact False.elim h
  | astore_n j =>
    unfold chk2 at hk; simp only [Bool.and_eq_true, decide_eq_true_eq, Bool.or_eq_true] at hk
    unfold zst at h; dsimp only at h
    obtain ⟨rfl, rfl, hb⟩ := hk; split at h
    · split at h
      · rename_i ho; exact b_astore_n _ hd hb (okL_ok ho) (stL_eq _ _ _) h
      · exact False.elim h
    · exact False.elim h
  | astore j =>
    unfold chk2 at hk; simp only [Bool.and_eq_true, decide_eq_true_eq, Bool.or_eq_true] at hk
    unfold zst at h; dsimp only at h
    obtain ⟨rfl, rfl, hb⟩ := hk; split at h
    · split at h
      · rename_i ho; exact b_astore _ hd hb (okL_ok ho) (stL_eq _ _ _) h
      · exact False.elim h
    · exact False.elim h
  | lstore_n j =>
    unfold chk2 at hk; simp only [Bool.and_eq_true, decide_eq_true_eq, Bool.or_eq_true] at hk
    unfold zst at h; dsimp only at h
    obtain ⟨rfl, rfl, hb⟩ := hk; split at h
    · split at h
      · rename_i ho; exact b_lstore_n _ hd hb (okL_ok ho) (by rw [stL_eq, stL_eq]) h
      · exact False.elim h
    · exact False.elim h
  | lstore j =>
    unfold chk2 at hk; simp only [Bool.and_eq_true, decide_eq_true_eq, Bool.or_eq_true] at hk
    unfold zst at h; dsimp only at h
    obtain ⟨rfl, rfl, hb⟩ := hk; split at h
    · split at h
      · rename_i ho; exact b_lstore _ hd hb (okL_ok ho) (by rw [stL_eq, stL_eq]) h
      · exact False.elim h
    · exact False.elim h
  | iinc j v =>
    unfold chk2 at hk; simp only [Bool.and_eq_true, decide_eq_true_eq, Bool.or_eq_true] at hk
    unfold zst at h; dsimp only at h
    obtain ⟨rfl, rfl, hb, hv⟩ := hk; split at h
    · rename_i hx; split at h
      · rename_i ho; exact b_iinc _ _ hd hb (okL_ok ho) (nth_get (by intro q; cases q) hx) (by rw [hv]) (stL_eq _ _ _) h
      · exact False.elim h
    · exact False.elim h
  | dup  =>
    unfold chk2 at hk; simp only [Bool.and_eq_true, decide_eq_true_eq, Bool.or_eq_true] at hk
    unfold zst at h; dsimp only at h
    subst hk; split at h <;> first | exact False.elim h | exact b_dup_i hd h | exact b_dup_r hd h
  | dup2  =>
    unfold chk2 at hk; simp only [Bool.and_eq_true, decide_eq_true_eq, Bool.or_eq_true] at hk
    unfold zst at h; dsimp only at h
    subst hk; split at h <;> first | exact False.elim h | exact b_dup2_ri hd h | exact b_dup2_l hd h
  | pop  =>
    unfold chk2 at hk; simp only [Bool.and_eq_true, decide_eq_true_eq, Bool.or_eq_true] at hk
    unfold zst at h; dsimp only at h
    subst hk; split at h <;> first | exact False.elim h | exact b_pop_i hd h
  | goto off =>
    unfold chk2 at hk; simp only [Bool.and_eq_true, decide_eq_true_eq, Bool.or_eq_true] at hk
    unfold zst at h; dsimp only at h
    obtain ⟨rfl, ht⟩ := hk; exact b_goto a hd ht h
  | ifCond cd off =>
    unfold chk2 at hk; simp only [Bool.and_eq_true, decide_eq_true_eq] at hk
    obtain ⟨rfl, ht⟩ := hk
    unfold zst at h; dsimp only at h
    split at h
    · rw [nI_0'] at h
      cases cd with
      | eq => dsimp only at h; exact b_if_eq a hd ht (fun q => by rw [if_pos q] at h; exact h) (fun q => by rw [if_neg q] at h; exact h)
      | ne => dsimp only at h; exact b_if_ne a hd ht (fun q => by rw [if_neg q] at h; exact h) (fun q => by rw [if_pos q] at h; exact h)
      | lt => dsimp only at h; exact b_if_lt a hd ht (fun q => by rw [if_pos q] at h; exact h) (fun q => by rw [if_neg q] at h; exact h)
      | ge => dsimp only at h; exact b_if_ge a hd ht (fun q => by rw [if_neg (Int32.not_lt.mpr q)] at h; exact h) (fun q => by rw [if_pos (Int32.not_le.mp q)] at h; exact h)
      | gt => dsimp only at h; exact b_if_gt a hd ht (fun q => by rw [if_pos q] at h; exact h) (fun q => by rw [if_neg q] at h; exact h)
      | le => dsimp only at h; exact b_if_le a hd ht (fun q => by rw [if_neg (Int32.not_lt.mpr q)] at h; exact h) (fun q => by rw [if_pos (Int32.not_le.mp q)] at h; exact h)
    · exact False.elim h
  | if_icmp cd off =>
    unfold chk2 at hk; simp only [Bool.and_eq_true, decide_eq_true_eq] at hk
    obtain ⟨rfl, ht⟩ := hk
    unfold zst at h; dsimp only at h
    split at h
    · cases cd with
      | eq => dsimp only at h; exact b_icmp_eq a hd ht (fun q => by rw [if_pos q] at h; exact h) (fun q => by rw [if_neg q] at h; exact h)
      | ne => dsimp only at h; exact b_icmp_ne a hd ht (fun q => by rw [if_neg q] at h; exact h) (fun q => by rw [if_pos q] at h; exact h)
      | lt => dsimp only at h; exact b_icmp_lt a hd ht (fun q => by rw [if_pos q] at h; exact h) (fun q => by rw [if_neg q] at h; exact h)
      | ge => dsimp only at h; exact b_icmp_ge a hd ht (fun q => by rw [if_neg (Int32.not_lt.mpr q)] at h; exact h) (fun q => by rw [if_pos (Int32.not_le.mp q)] at h; exact h)
      | gt => dsimp only at h; exact b_icmp_gt a hd ht (fun q => by rw [if_pos q] at h; exact h) (fun q => by rw [if_neg q] at h; exact h)
      | le => dsimp only at h; exact b_icmp_le a hd ht (fun q => by rw [if_neg (Int32.not_lt.mpr q)] at h; exact h) (fun q => by rw [if_pos (Int32.not_le.mp q)] at h; exact h)
    · exact False.elim h
  | tableswitch df lo hi offs =>
    unfold chk2 at hk; simp only [Bool.and_eq_true, decide_eq_true_eq] at hk
    obtain ⟨h1, h2, h3, h4, h5, h6⟩ := hk
    unfold zst at h; dsimp only at h
    split at h
    · rename_i x r
      rcases swK_at ks h with ⟨i, k, t, e1, e2, e3, e4⟩ | ⟨e1, e2⟩
      · rw [h4] at e1
        have hi : i < offs.size := by
          by_cases q : i < offs.size
          · exact q
          · simp [q] at e1
        simp [hi] at e1
        have ho : (offs.toList.map (fun o => (pc : Int) + o))[i]? = some (t : Int) := by rw [← h5]; simp [e2]
        simp [hi] at ho
        have hx : x.toInt = (k : Int) := (nI_inj (by omega)).mp e3
        refine b_table hd (fun tgt ht q => by exfalso; omega) (fun q1 q2 => ⟨offs[i], t, ?_, ho, e4⟩) ⟨a, h1⟩
        rw [show (x.toInt - lo).toNat = i by omega]
        simp [hi]
      · refine b_table hd (fun tgt ht q => ?_) (fun q1 q2 => ?_) ⟨a, h1⟩
        · have : tgt = a := by omega
          subst this
          exact e2
        · exfalso
          refine e1 x.toInt.toNat ?_ ((nI_inj (by omega)).mpr (by omega))
          rw [h4]
          refine List.mem_map.mpr ⟨x.toInt.toNat - lo.toNat, List.mem_range.mpr (by omega), by omega⟩
    · exact False.elim h
  | lookupswitch df ps =>
    unfold chk2 at hk; simp only [Bool.and_eq_true, decide_eq_true_eq] at hk
    obtain ⟨h1, h2, h3, h4, h5, h6⟩ := hk
    unfold zst at h; dsimp only at h
    split at h
    · obtain ⟨tgt, ht, hb⟩ := swK_look h1 ks ps.toList h3 h5 h6 h
      exact b_lookup tgt hd h4 rfl ht hb
    · exact False.elim h
  | getfield idx =>
    unfold chk2 at hk; simp only [Bool.and_eq_true, decide_eq_true_eq] at hk
    obtain ⟨rfl, h1, h2, h3, h4⟩ := hk
    unfold zst at h; dsimp only at h
    split at h
    · split at h
      · rename_i k r hob
        have hO := isOb_isO hob
        have hF : FL M.1.cls idx a b := ⟨h1, h2, wdIs_in h4⟩
        have hc2 : c = 0 ∨ c = 1 ∨ c = 2 := by
          rw [← h3]; unfold fkZ; split <;> simp
        rcases hc2 with rfl | rfl | rfl
        · exact b_getI hF hO h3 hd h
        · exact b_getL hF hO h3 hd h
        · exact b_getR _ hF hO h3 rfl hd h
      · exact False.elim h
    · exact False.elim h
  | putfield idx =>
    unfold chk2 at hk; simp only [Bool.and_eq_true, decide_eq_true_eq, Bool.or_eq_true] at hk
    obtain ⟨rfl, h1, h2, h3, h4, h5, h6⟩ := hk
    have hF : FL M.1.cls idx a b := ⟨h1, h2, wdIs_in h4⟩
    have hc2 : c = 0 ∨ c = 1 ∨ c = 2 := by
      rw [← h3]; unfold fkZ; split <;> simp
    rcases hc2 with rfl | rfl | rfl
    · simp only [zst] at h
      split at h
      · split at h
        · rename_i hob
          exact b_putI hF h5 (isOb_isO hob) h3 hd h
        · exact False.elim h
      · exact False.elim h
    · simp only [zst] at h
      split at h
      · split at h
        · rename_i hob
          exact b_putL hF h5 (isOb_isO hob) h3 hd h
        · exact False.elim h
      · exact False.elim h
    · simp only [zst] at h
      split at h
      · split at h
        · rename_i x k r hob
          simp only [Bool.and_eq_true, beq_iff_eq, Bool.or_eq_true] at hob
          have hty : tyZ a b = .array .int := by rcases h6 with q | q; exact absurd q (by decide); exact q
          obtain ⟨hob, rfl, hb⟩ := hob
          refine b_putR hF h5 (isOb_isO hob) h3 hty (fun a => ⟨rfl, rfl⟩) (fun P => ?_) (fun P k' j' hne => ?_) hd h
          · rcases hb with rfl | rfl | rfl | rfl <;> rfl
          · show rf (fun b' => if b' = b then x else P b') k' j' = rf P k' j'
            by_cases hk' : k' = 58
            · subst hk'
              have hj : j' ≠ b := fun q => hne ⟨rfl, q⟩
              rw [rf_58e, rf_58e]
              have e : ∀ q, (q ≠ j' ∨ q ≠ b) → q = j' → (if q = b then x else P q) = P q := fun q h1 h2 => if_neg (by subst h2; exact hj)
              by_cases h3 : j' = 3
              · subst h3; simp [Ne.symm (Ne.symm hj)]
              · by_cases h4 : j' = 4
                · subst h4; simp [hj]
                · by_cases h7 : j' = 7
                  · subst h7; simp [hj]
                  · by_cases h8 : j' = 8
                    · subst h8; simp [hj]
                    · simp [h3, h4, h7, h8]
            · unfold rf
              split
              · rfl
              · split <;> first | rfl | (exact absurd rfl hk')
        · exact False.elim h
      · exact False.elim h
  | iaload  =>
    unfold chk2 at hk; simp only [Bool.and_eq_true, decide_eq_true_eq, Bool.or_eq_true] at hk
    unfold zst at h; dsimp only at h
    subst hk; split at h
    · split at h
      · split at h
        · rename_i hl hi; exact b_iaload (lnA_isA hl) (inB_of hi).1 (inB_of hi).2 (lnA_sz hl) hd h
        · exact False.elim h
      · exact False.elim h
    · exact False.elim h
  | laload  =>
    unfold chk2 at hk; simp only [Bool.and_eq_true, decide_eq_true_eq, Bool.or_eq_true] at hk
    unfold zst at h; dsimp only at h
    subst hk; split at h
    · split at h
      · split at h
        · rename_i hl hi; exact b_laload (lnA_isA hl) (inB_of hi).1 (inB_of hi).2 (lnA_sz hl) hd h
        · exact False.elim h
      · exact False.elim h
    · exact False.elim h
  | baload  =>
    unfold chk2 at hk; simp only [Bool.and_eq_true, decide_eq_true_eq, Bool.or_eq_true] at hk
    unfold zst at h; dsimp only at h
    subst hk; split at h
    · split at h
      · split at h
        · rename_i hl hi; exact b_baload (lnA_isA hl) (inB_of hi).1 (inB_of hi).2 (lnA_sz hl) hd h
        · exact False.elim h
      · split at h
        · split at h
          · rename_i hl hi; exact b_zaload (lnA_isA hl) (inB_of hi).1 (inB_of hi).2 (lnA_sz hl) hd h
          · exact False.elim h
        · exact False.elim h
    · exact False.elim h
  | aaload  =>
    unfold chk2 at hk; simp only [Bool.and_eq_true, decide_eq_true_eq, Bool.or_eq_true] at hk
    unfold zst at h; dsimp only at h
    subst hk; split at h
    · split at h
      · split at h
        · rename_i hl hi; exact b_aaload4 _ (lnA_isA hl) (inB_of hi).1 (inB_of hi).2 (lnA_sz hl) rfl hd h
        · exact False.elim h
      · split at h
        · split at h
          · rename_i hl hi; exact b_aaload5 _ (lnA_isA hl) (inB_of hi).1 (inB_of hi).2 (lnA_sz hl) rfl hd h
          · exact False.elim h
        · exact False.elim h
    · exact False.elim h
  | iastore  =>
    unfold chk2 at hk; simp only [Bool.and_eq_true, decide_eq_true_eq, Bool.or_eq_true] at hk
    unfold zst at h; dsimp only at h
    subst hk; split at h
    · split at h
      · split at h
        · rename_i hl hi; exact b_iastore (lnA_isA hl) (inB_of hi).1 (inB_of hi).2 (lnA_sz hl) hd h
        · exact False.elim h
      · exact False.elim h
    · exact False.elim h
  | lastore  =>
    unfold chk2 at hk; simp only [Bool.and_eq_true, decide_eq_true_eq, Bool.or_eq_true] at hk
    unfold zst at h; dsimp only at h
    subst hk; split at h
    · split at h
      · split at h
        · rename_i hl hi; exact b_lastore (lnA_isA hl) (inB_of hi).1 (inB_of hi).2 (lnA_sz hl) hd h
        · exact False.elim h
      · exact False.elim h
    · exact False.elim h
  | bastore  =>
    unfold chk2 at hk; simp only [Bool.and_eq_true, decide_eq_true_eq, Bool.or_eq_true] at hk
    unfold zst at h; dsimp only at h
    subst hk; split at h
    · split at h
      · split at h
        · rename_i hl hi; exact b_bastore (lnA_isA hl) (inB_of hi).1 (inB_of hi).2 (lnA_sz hl) hd h
        · exact False.elim h
      · split at h
        · split at h
          · rename_i hl hi
            rw [Bool.and_eq_true] at hi
            refine b_zastore (lnA_isA hl) ?_ (inB_of hi.1).1 (inB_of hi.1).2 (lnA_sz hl) hd h
            rcases bz_bool hi.2 with rfl | rfl <;> rfl
          · exact False.elim h
        · exact False.elim h
    · exact False.elim h
  | arraylength  =>
    unfold chk2 at hk; simp only [Bool.and_eq_true, decide_eq_true_eq, Bool.or_eq_true] at hk
    unfold zst at h; dsimp only at h
    subst hk; split at h
    · split at h
      · rename_i hl; exact b_alen (ty := .int) (lnA_isA hl) (fun E => rfl) hd h
      · split at h
        · rename_i hl; exact b_alen (ty := .long) (lnA_isA hl) (fun E => rfl) hd h
        · split at h
          · rename_i hl; exact b_alen (ty := .byte) (lnA_isA hl) (fun E => rfl) hd h
          · exact False.elim h
    · exact False.elim h
  | ireturn =>
    unfold chk2 at hk; rw [Bool.and_eq_true] at hk
    obtain ⟨hn, hv⟩ := hk
    have hn := of_decide_eq_true hn
    subst hn
    unfold zst at h; dsimp only at h
    split at h
    · split at h
      · rename_i x hz
        match c, hv, hz with
        | 0, hv, hz => exact b_ireturn (of_decide_eq_true hv) hd h
        | 1, hv, hz => exact b_zreturn (of_decide_eq_true hv) (by rcases bz_bool hz with rfl | rfl <;> rfl) hd h
        | 2, hv, hz =>
          refine b_zreturn (of_decide_eq_true hv) ?_ hd h
          have : i2bI x = x := by simpa [bz] using hz
          exact congrArg Value.int this
        | c + 3, hv, hz =>
          refine b_zreturn (of_decide_eq_true hv) ?_ hd h
          have : i2cI x = x := by simpa [bz] using hz
          show Value.int x.toUInt32.toUInt16.toUInt32.toInt32 = .int x
          rw [UInt32.toUInt32_toUInt16]
          exact congrArg Value.int this
      · exact False.elim h
    · exact False.elim h
  | lreturn =>
    unfold chk2 at hk; simp only [Bool.and_eq_true, decide_eq_true_eq] at hk
    obtain ⟨rfl, hr⟩ := hk
    unfold zst at h; dsimp only at h
    split at h <;> first | exact False.elim h | exact b_lreturn hr hd h
  | return_ =>
    unfold chk2 at hk; simp only [Bool.and_eq_true, decide_eq_true_eq] at hk
    obtain ⟨rfl, hr⟩ := hk
    unfold zst at h; dsimp only at h
    split at h <;> first | exact False.elim h | exact b_return hr hd h
  | invokestatic idx =>
    unfold chk2 at hk; rw [Bool.and_eq_true] at hk
    obtain ⟨hn, hv⟩ := hk
    have hn := of_decide_eq_true hn
    subst hn
    revert hv h
    match c with
    | 0 =>
      intro h hv
      simp only [Bool.and_eq_true, decide_eq_true_eq] at hv
      obtain ⟨h1, h2, h3, h4, h5⟩ := hv
      obtain ⟨hM, hlt⟩ := MFS_of h5
      simp only [zst] at h
      split at h
      · rename_i As r htk
        split at h
        · rename_i hq
          simp only [Bool.and_eq_true, decide_eq_true_eq] at hq
          obtain ⟨rr, w2, hB, hK⟩ := h
          obtain ⟨hl, hst⟩ := tkC_st htk
          refine b_callS (Does.ofI hlt (by rw [← h4]; exact hq.2) hB) hM (wdIs_in h2) (by rw [hl, h3]) hd h1 (by rw [ct_sum]; exact hq.1) hst (fun r1 w1 e => ?_)
          obtain ⟨rfl, rfl⟩ := e
          rw [pu_app]
          exact hK
        · exact False.elim h
      · exact False.elim h
    | 1 =>
      intro h hv
      simp only [Bool.and_eq_true, decide_eq_true_eq] at hv
      obtain ⟨h1, h2, h2', h3, h4, h5⟩ := hv
      obtain ⟨hM, hlt⟩ := MFS_of h5
      simp only [zst] at h
      split at h
      · rename_i As r htk
        split at h
        · rename_i hq
          simp only [Bool.and_eq_true, decide_eq_true_eq] at hq
          obtain ⟨rr, w2, hB, hK⟩ := h
          obtain ⟨hl, hst⟩ := tkC_st htk
          refine b_callN (Does.ofI hlt (by rw [← h4]; exact hq.2) hB) hM (fun E U H hx => nst_ok h2 h2' hx) (by rw [hl, h3]) hd h1 (by rw [ct_sum]; exact hq.1) hst (fun r1 w1 e => ?_)
          obtain ⟨rfl, rfl⟩ := e
          rw [pu_app]
          exact hK
        · exact False.elim h
      · exact False.elim h
    | 2 =>
      intro h hv
      simp only [Bool.and_eq_true, decide_eq_true_eq] at hv
      simp only [zst] at h
      split at h
      · split at h
        · rename_i hq; exact b_max (wdIs_in hv.2) maMaxS maI maMaxC hd hv.1 (by rw [ct_sum]; exact hq) h
        · exact False.elim h
      · exact False.elim h
    | 3 =>
      intro h hv
      simp only [Bool.and_eq_true, decide_eq_true_eq] at hv
      simp only [zst] at h
      split at h
      · split at h
        · rename_i hq; exact b_min (wdIs_in hv.2) maMinS maI maMinC hd hv.1 (by rw [ct_sum]; exact hq) h
        · exact False.elim h
      · exact False.elim h
    | 4 =>
      intro h hv
      simp only [Bool.and_eq_true, decide_eq_true_eq] at hv
      simp only [zst] at h
      split at h
      · split at h
        · rename_i r hq
          unfold arC at h
          have hr : (List.map (fun v : Value => v.category) r).sum + (nativeFrameWords "java/lang/System" "arraycopy" 5 + 11) ≤ 40 := by
            rw [ct_sum]
            exact Nat.le_trans (Nat.add_le_add_right hq _) (by decide +kernel)
          split at h
          · rename_i n0 n1 hl0 hl1
            split at h
            · rename_i hi
              rw [Bool.and_eq_true] at hi
              exact b_copyi _ _ _ (wdIs_in hv.2) acN acS acI (lnA_isA hl0) (lnA_isA hl1) (inC_of hi.1).1 (inC_of hi.2).1 (inC_of hi.1).2.1 (inC_of hi.1).2.2 (inC_of hi.2).2.2 ⟨lnA_sz hl0, lnA_sz hl1⟩ hd hv.1 hr h
            · exact False.elim h
          · split at h
            · rename_i n0 n1 hl0 hl1
              split at h
              · rename_i hi
                rw [Bool.and_eq_true] at hi
                exact b_copyl _ _ _ (wdIs_in hv.2) acN acS acI (lnA_isA hl0) (lnA_isA hl1) (inC_of hi.1).1 (inC_of hi.2).1 (inC_of hi.1).2.1 (inC_of hi.1).2.2 (inC_of hi.2).2.2 ⟨lnA_sz hl0, lnA_sz hl1⟩ hd hv.1 hr h
              · exact False.elim h
            · exact False.elim h
        · exact False.elim h
      · exact False.elim h
    | 5 =>
      intro h hv
      simp only [Bool.and_eq_true, decide_eq_true_eq] at hv
      simp only [zst] at h
      split at h
      · rename_i y x r
        split at h
        · exact False.elim h
        · rename_i hq
          simp only [Bool.or_eq_true, decide_eq_true_eq, Bool.not_eq_true', decide_eq_false_iff_not] at hq
          exact hS.2 M d pc L r w post x y idx (fun q => hq (Or.inl q)) hv.1 (by by_cases z : ct r ≤ 8; exact z; exact absurd (Or.inr z) hq) hd (wdIs_in hv.2) h
      · exact False.elim h
    | c + 6 => intro h hv; cases hv
  | invokevirtual idx =>
    unfold chk2 at hk; rw [Bool.and_eq_true] at hk
    obtain ⟨hn, hv⟩ := hk
    have hn := of_decide_eq_true hn
    subst hn
    by_cases hc0 : c = 100
    · subst hc0
      simp only [zst] at h
      simp only [Bool.and_eq_true, decide_eq_true_eq] at hv
      split at h
      · split at h
        · rename_i k r hq
          simp only [Bool.and_eq_true, decide_eq_true_eq] at hq
          obtain ⟨i, hi8, rfl⟩ := k_1000 hq.1 hq.2.1
          rw [Nat.add_sub_cancel_left] at h
          exact (hS.1 M d pc L r w post i idx hi8 hv.1 hq.2.2 hd).1 (wdIs_in hv.2) h
        · exact False.elim h
      · exact False.elim h
    · by_cases hc1 : c = 101
      · subst hc1
        simp only [zst] at h
        simp only [Bool.and_eq_true, decide_eq_true_eq] at hv
        split at h
        · split at h
          · rename_i x k r hq
            simp only [Bool.and_eq_true, decide_eq_true_eq] at hq
            obtain ⟨i, hi8, rfl⟩ := k_1000 hq.1 hq.2.1
            rw [Nat.add_sub_cancel_left] at h hq
            exact (hS.1 M d pc L r w post i idx hi8 hv.1 hq.2.2.2 hd).2 x (wdIs_in hv.2) hq.2.2.1 h
          · exact False.elim h
        · exact False.elim h
      · have hv' : (decide (rkM a + 1 ≤ d) && (decide (c < 7) && (decide (Rz c = (MT a).1.cls) && (wdIs (wi1 ks) (Cond.methodLink M.1.cls idx (MT a).1) && (decide ((wdM a).2.2.2.2 + 1 = b) && (decide (ks.headD 0 = mxL a) && isV a)))))) = true := by
          match c, hc0, hc1, hv with
          | 100, q, _, _ => exact absurd rfl q
          | 101, _, q, _ => exact absurd rfl q
          | c, _, _, hv =>
            split at hv
            · rename_i q1 q2 _ _ q; exact absurd q (by assumption)
            · rename_i q1 q2 _ _ q; exact absurd q (by assumption)
            · exact hv
        simp only [Bool.and_eq_true, decide_eq_true_eq] at hv'
        obtain ⟨h1, h7, h7', h2, h3, h4, h5⟩ := hv'
        obtain ⟨hM, hlt⟩ := MFV_of h5
        unfold zst at h
        dsimp only at h
        split at h
        · exact absurd rfl hc0
        · exact absurd rfl hc1
        · split at h
          · rename_i k As r htk
            split at h
            · rename_i hq
              simp only [Bool.and_eq_true, decide_eq_true_eq] at hq
              obtain ⟨rr, w2, hB, hK⟩ := h
              obtain ⟨hl, hst⟩ := tkC_st htk
              refine b_callV (Does.ofI hlt (by rw [← h4]; exact hq.2.2) hB) hM (wdIs_in h2) (by simp at hl; omega) (isOb_isO hq.1) h7 h7' hd h1 (by rw [ct_sum]; exact hq.2.1) (by rw [hst]; simp) (fun r1 w1 e => ?_)
              obtain ⟨rfl, rfl⟩ := e
              rw [pu_app]
              exact hK
            · exact False.elim h
          · exact False.elim h
  | _ => exact False.elim h
theorem run_ok {l : Launch} (hS : StrOK l) : ∀ (f m pc : Nat) (L st : List Value) (w : Wd) (r : Option Value) (w' : Wd), zrun f m pc L st w = some (r, w') → Bd ΛZ l (MT m) (rkM m) pc L st w (is2 r w') := by
  intro f
  induction f with
  | zero => intro m pc L st w r w' h; cases h
  | succ f ih =>
    intro m pc L st w r w' h
    refine step_ok hS (TT m pc) (ck_all m pc) ?_
    rw [zrun] at h
    cases hz : zop (TT m pc) pc L st w with
    | inl q =>
      simp only [hz] at h
      subst h
      exact ⟨rfl, rfl⟩
    | inr q =>
      cases q with
      | inl q =>
        obtain ⟨pc', L', st', w1⟩ := q
        simp only [hz] at h
        exact ih _ _ _ _ _ _ _ h
      | inr q =>
        obtain ⟨m', As, pc', L', rest, w1⟩ := q
        simp only [hz] at h
        cases hc : zrun f m' 0 (iniL m' As) [] w1 with
        | none => simp [hc] at h
        | some y =>
          obtain ⟨r1, w2⟩ := y
          simp only [hc] at h
          exact ⟨r1, w2, ih _ _ _ _ _ _ _ hc, ih _ _ _ _ _ _ _ h⟩
/-- THE BRIDGE: what the pure semantics says of a call is a contract of the method -/
theorem zE_does {l : Launch} (hS : StrOK l) {m : Nat} {As : List Value} {w w' : Wd} {r : Option Value} (hm : m < nM) (hct : ct As ≤ mxL m) (h : zE m As w = some (r, w')) : Does ΛZ l (MT m) (rkM m) As w (is2 r w') := by
  obtain ⟨f, hf⟩ := zR_iff.mp (show zR m 0 (iniL m As) [] w = _ from h)
  exact Does.ofI hm hct (run_ok hS f m 0 _ [] w r w' hf)
