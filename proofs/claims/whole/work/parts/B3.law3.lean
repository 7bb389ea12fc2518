/-! ===== the law: a case ===== -/
theorem lwO_at : ∀ k, k < 56 → lwO[k]? = some (((cP k : Nat) : Int) - 33) := by decide +kernel
/-- every call of the law is answered alike by both -/
def AllP : Prop := ∀ k, k < 56 → ∀ (A : Ab) (w : Wd) (xs : Nat → Int32) (i : Nat), Rel A w → Pair (cM1 k) (cM2 k) ((cK k).map (akV xs i)) A w
def Lsc (E : En) (s : State) (b Ln : Nat) (xs : Nat → Int32) : Prop := va_X b Ln xs s s.heap ∧ b < s.heap.size ∧ ¬ AA ΛZ E s.heap.size b ∧ Ln ≤ 3072
theorem lw_c238 : Cond.constantLong "SlatePlayLaw" 238 4294967295 ∈ GG := GGi 1722 (by decide +kernel) (by decide +kernel)
theorem ofInt_nI (k : Nat) : Int32.ofInt ((k : Nat) : Int) = nI k := by
  first | rfl | (unfold nI; simp)
section LW
variable {p : Program} {l : Launch} {e : Env} {R : Room} {s : State} {m : MethodId} {args : Array Value} {below : List Frame} {meth : Method} {c : Code} {H : Heap} {locs : List Loc} {cells slots : Nat} {Q : State → Prop}
variable {E : En} {b Ln i a1 a2 : Nat} {xs : Nat → Int32} {ls : Array Slot} {w : Wd} {pc : Nat} {rest : List Value}
theorem l_int {k : Nat} (C : CX ΛZ mLaw E p s m args meth c) (S : Lsc E s b Ln xs) (X : HX ΛZ E w s H locs) (V : LV idE 4 [.ref b, .ref a1, .ref a2, .int (nI i)] ls) (hi : i + 6 ≤ Ln) (ck : ckI pc k = true) (kk : W p l e R s m args below meth c H locs cells slots Q (F0 m (pc + 5) ls (.int (xs (i + k)) :: rest))) : W p l e R s m args below meth c H locs cells slots Q (F0 m pc ls rest) := by
  simp only [ckI, Bool.and_eq_true, decide_eq_true_eq] at ck
  obtain ⟨d0, d1, d2, d3, d4, hk⟩ := ck
  have hLn := S.2.2.2
  refine lv_aload_n C.1 C.2.1 (dcd_ok d0) rfl (V.atr rfl) (lv_iload_n C.1 C.2.1 (dcd_ok d1) rfl (V.ati rfl) (lv_iconst (v := nI k) C.1 C.2.1 (dcd_ok d2) (ofInt_nI k) (lv_iadd C.1 C.2.1 (dcd_ok d3) ?_)))
  rw [nI_add]
  refine va_sld C.1 C.2.1 S.1 S.2.1 S.2.2.1 X.2 (vp_in_nI (by omega) (by omega)) (dcd_ok d4) ?_
  rw [nI_clamp (by omega)]
  exact kk
theorem l_one {k : Nat} (C : CX ΛZ mLaw E p s m args meth c) (S : Lsc E s b Ln xs) (X : HX ΛZ E w s H locs) (V : LV idE 4 [.ref b, .ref a1, .ref a2, .int (nI i)] ls) (hi : i + 6 ≤ Ln) (ck : ckK pc k = true) (kk : W p l e R s m args below meth c H locs cells slots Q (F0 m (pc + akL k) ls (akV xs i k :: rest))) : W p l e R s m args below meth c H locs cells slots Q (F0 m pc ls rest) := by
  unfold ckK at ck
  unfold akL akV at kk
  by_cases h1 : k < 10
  · rw [if_pos h1] at ck kk
    rw [if_pos h1] at kk
    exact l_int C S X V hi ck kk
  · rw [if_neg h1] at ck kk
    rw [if_neg h1] at kk
    by_cases h2 : k < 20
    · rw [if_pos h2] at ck kk
      rw [if_pos h2] at kk
      simp only [Bool.and_eq_true] at ck
      obtain ⟨c0, d1, d2, d3, d4⟩ := ck
      refine l_int C S X V hi c0 ?_
      generalize xs (i + (k - 10)) = v at kk ⊢
      refine lv_if_eq (tgt := pc + 12) C.1 C.2.1 (dcd_ok d1) (by omega) (fun h => ?_) (fun h => ?_)
      · refine lv_iconst (v := nI 0) C.1 C.2.1 (dcd_ok d4) (by decide) ?_
        rw [h] at kk
        exact kk
      · refine lv_iconst (v := nI 1) C.1 C.2.1 (dcd_ok d2) (by decide) ?_
        refine lv_goto (tgt := pc + 13) C.1 C.2.1 (dcd_ok d3) (by omega) ?_
        have e9 : bI (decide (¬ v = 0)) = nI 1 := by
          rw [decide_eq_true h]
          rfl
        rw [e9] at kk
        exact kk
    · rw [if_neg h2] at ck kk
      rw [if_neg h2] at kk
      simp only [Bool.and_eq_true] at ck
      obtain ⟨c0, d1, d2, d3, c4, d5, d6, d7, d8⟩ := ck
      refine l_int C S X V hi c0 ?_
      refine lv_i2l C.1 C.2.1 (dcd_ok d1) rfl (lv_bipush (v := 32) C.1 C.2.1 (dcd_ok d2) (by decide) (lv_lshl C.1 C.2.1 (dcd_ok d3) rfl ?_))
      refine l_int (k := 4) (pc := pc + 9) C S X V hi c4 ?_
      refine lv_i2l C.1 C.2.1 (dcd_ok d5) rfl (lv_ldc2 (own := "SlatePlayLaw") C.1 C.2.1 C.2.2.2.2.1 (C.get lw_c238) (dcd_ok d6) (lv_land C.1 C.2.1 (dcd_ok d7) (lv_lor C.1 C.2.1 (dcd_ok d8) kk)))
theorem l_args (C : CX ΛZ mLaw E p s m args meth c) (S : Lsc E s b Ln xs) (X : HX ΛZ E w s H locs) (V : LV idE 4 [.ref b, .ref a1, .ref a2, .int (nI i)] ls) (hi : i + 6 ≤ Ln) : ∀ (ks : List Nat) (pc : Nat) (rest : List Value), ckA pc ks = true → W p l e R s m args below meth c H locs cells slots Q (F0 m (pc + akS ks) ls ((ks.map (akV xs i)).reverse ++ rest)) → W p l e R s m args below meth c H locs cells slots Q (F0 m pc ls rest) := by
  intro ks
  induction ks with
  | nil => intro pc rest _ kk; exact kk
  | cons k r ih =>
    intro pc rest ck kk
    simp only [ckA, Bool.and_eq_true] at ck
    refine l_one C S X V hi ck.1 (ih _ _ ck.2 ?_)
    rw [show pc + akL k + akS r = pc + akS (k :: r) by simp only [akS]; omega]
    rw [show (r.map (akV xs i)).reverse ++ akV xs i k :: rest = ((k :: r).map (akV xs i)).reverse ++ rest by simp]
    exact kk
theorem l_call {mq k ci ix wi : Nat} {ks : List Nat} {lg : Bool} {r : Value} {w1 : Wd} (hS : StrOK l) (C : CX ΛZ mLaw E p s m args meth c) (X : HX ΛZ E w s H locs) (hV : ls.size = 4) (hz : zE mq (.ref k :: ks.map (akV xs i)) w = some (some r, w1)) (ck : ckM mq ci ix wi ks lg = true) (hk : isO ΛZ k ci) (h7 : ci < 7) (hd : decode code pc = .ok (.invokevirtual ix, 3)) (hR : 200 ≤ R.frames ∧ 5000 ≤ R.locals ∧ cells ≤ R.cells ∧ slots ≤ R.slots) (hr : (rest.map fun v => v.category).sum ≤ 8) (kk : ∀ (H1 : Heap) (locs1 : List Loc), HX ΛZ E w1 s H1 locs1 → W p l e R s m args below meth c H1 locs1 cells slots Q (F0 m (pc + 3) ls (pe E.ad r :: rest))) : W p l e R s m args below meth c H locs cells slots Q (F0 m pc ls ((ks.map (akV xs i)).reverse ++ .ref (E.ad k) :: rest)) := by
  simp only [ckM, Bool.and_eq_true, decide_eq_true_eq] at ck
  obtain ⟨q1, q2, q3, q4, q5, q6, q7⟩ := ck
  obtain ⟨hM, hm⟩ := MFV_of q1
  have hct : ct (.ref k :: ks.map (akV xs i)) ≤ mxL mq := by
    simp only [ct, akV_ct, ctv]
    omega
  have hC := zE_does hS hm hct hz
  obtain ⟨⟨m1, m2, m3, m4⟩, m5, m6⟩ := hM
  have hrun := va_runV (e := e) (below := below) (meth := meth) (rest := rest) (cells := cells) (slots := slots) (locs := locs) (b := E.ad k) (C := (MT mq).1.cls) (As := ks.map (akV xs i)) (g := F0 m pc ls ((ks.map (akV xs i)).reverse ++ .ref (E.ad k) :: rest)) ⟨C.1, C.2.1, C.2.2.2.1, C.2.2.2.2.1, C.2.2.2.2.2.1⟩ (hC E H.size)
    ⟨callB_of (R := R) _ C.2.2.2.2.2.1 (GG_in m1) rfl rfl rfl (C.get m2) (C.get (wdIs_in q2)) m3 ⟨by show rkM mq + 1 ≤ _; omega, by show 8 + ((MT mq).2.2.1 + 11) + 40 * rkM mq ≤ _; omega⟩, C.get m5, C.get m6⟩
    ⟨pre_blind, (by rw [← q6]; exact va_recv (q0 := k) C.2.2.2.2.2.2.2.1 X.1 (cz_at h7) (by rw [wl_get hk.1, cE_o hk])), (by
      have hp := pre_at C X ((.ref k :: ks.map (akV xs i)).map (pe E.ad))
      have e1 : (Value.ref k :: ks.map (akV xs i)).map (pe E.ad) = .ref (E.ad k) :: ks.map (akV xs i) := by rw [List.map_cons, akV_pe]; rfl
      rw [e1] at hp ⊢
      exact hp)⟩ rfl (by rw [List.length_map]; exact q4) hV rfl (lv_room hr) hd ⟨by show cells + 0 ≤ _; omega, by show slots + 0 ≤ _; omega⟩
  intro T hT X0
  obtain ⟨v, st₀, t, T', L, h0, X', hL, e1, e2, ⟨⟨r', w', hv, hp, hb⟩, hz2, hk2⟩, stp⟩ := hrun T hT X0
  obtain ⟨rfl, rfl⟩ := hp
  cases hv
  rw [h0] at hz2 hk2
  have hSS := X.2
  have hA := AA.mono (Λ := ΛZ) (E := E) hSS.1
  obtain ⟨t2, a1, b1⟩ := kk T'.heap (locs ++ L) ⟨by rw [e1]; exact hb, Nat.le_trans hSS.1 (by rw [e1]; exact hz2), fun q h1 h2 => by rw [e1, hk2 q (Nat.lt_of_lt_of_le h1 hSS.1) (fun z => h2 (hA q z))]; exact hSS.2.1 q h1 h2, fun q hq => by
      rcases List.mem_append.mp hq with h | h
      · exact hSS.2.2 q h
      · exact hA _ (hL q h)⟩ T' rfl X'
  exact ⟨t2, stp t2 a1, b1⟩
theorem l_case {k : Nat} {A : Ab} (hk : k < 56) (ck : ckC k = true) (hS : StrOK l) (hp : AllP) (C : CX ΛZ mLaw E p s m args meth c) (S : Lsc E s b Ln xs) (X : HX ΛZ E w s H locs) (V : LV idE 4 [.ref b, .ref (E.ad 45), .ref (E.ad 267), .int (nI i)] ls) (hi : i + 6 ≤ Ln) (hR : 200 ≤ R.frames ∧ 5000 ≤ R.locals ∧ cells ≤ R.cells ∧ slots ≤ R.slots) (hA : Rel A w)
    (kk : ∀ (A' : Ab) (w' : Wd) (H1 : Heap) (locs1 : List Loc), Rel A' w' → HX ΛZ E w' s H1 locs1 → W p l e R s m args below meth c H1 locs1 cells slots Q (F0 m 2115 ls [])) : W p l e R s m args below meth c H locs cells slots Q (F0 m (cP k) ls []) := by
  obtain ⟨r, w1, w2, A', z1, z2, hA'⟩ := hp k hk A w xs i hA
  simp only [ckC, Bool.and_eq_true] at ck
  obtain ⟨d0, d1, d2, d3, d4, d5, d6, d7, d8⟩ := ck
  refine lv_aload_n C.1 C.2.1 (dcd_ok d0) rfl (V.atr rfl) ?_
  refine l_args C S X V hi _ _ _ d1 ?_
  refine l_call hS C X V.1 z1 d7 ⟨by decide, rfl⟩ (by decide) (dcd_ok d2) hR (Nat.le_of_ble_eq_true rfl) (fun H1 locs1 X1 => ?_)
  refine lv_aload_n C.1 C.2.1 (dcd_ok d3) rfl (V.atr rfl) ?_
  refine l_args C S X1 V hi _ _ _ d4 ?_
  have hsort : (cLg k = true ∧ ∃ y, r = .long y) ∨ (cLg k = false ∧ ∃ y, r = .int y) := by
    obtain ⟨f, hf⟩ := zR_iff.mp (show zR (cM1 k) 0 (iniL (cM1 k) (.ref 45 :: (cK k).map (akV xs i))) [] w = _ from z1)
    have d7' := d7
    simp only [ckM, Bool.and_eq_true, decide_eq_true_eq] at d7'
    obtain ⟨-, -, -, -, -, -, q7⟩ := d7'
    rcases ret_sort _ _ _ _ _ _ _ _ hf with ⟨h1, h2⟩ | ⟨h1, h2⟩
    · exact Or.inl ⟨by rw [← q7, decide_eq_true h1], h2⟩
    · exact Or.inr ⟨by rw [← q7, decide_eq_false h1], h2⟩
  have hcat : ([pe E.ad r].map fun v => v.category).sum ≤ 8 := by
    rcases hsort with ⟨-, y, rfl⟩ | ⟨-, y, rfl⟩
    · exact Nat.le_of_ble_eq_true rfl
    · exact Nat.le_of_ble_eq_true rfl
  refine l_call (rest := [pe E.ad r]) hS C X1 V.1 z2 d8 ⟨by decide, rfl⟩ (by decide) (dcd_ok d5) hR hcat (fun H2 locs2 X2 => ?_)
  generalize cP k + 1 + akS (cK k) + 3 + 1 + akS (cK k) + 3 = q at d6 ⊢
  rcases hsort with ⟨hl, y, rfl⟩ | ⟨hl, y, rfl⟩
  · rw [hl] at d6
    simp only [ckE, Bool.and_eq_true] at d6
    refine W.lcmp C.1 C.2.1 (dcd_ok d6.1) ?_
    refine lv_if_eq (tgt := 2115) C.1 C.2.1 (dcd_ok d6.2) (by omega) (fun _ => kk A' w2 H2 locs2 hA' X2) (fun h => absurd ?_ h)
    simp [lg_cmp]
  · rw [hl] at d6
    simp only [ckE] at d6
    exact lv_icmp_eq (tgt := 2115) C.1 C.2.1 (dcd_ok d6) (by omega) (fun _ => kk A' w2 H2 locs2 hA' X2) (fun h => absurd rfl h)
end LW
