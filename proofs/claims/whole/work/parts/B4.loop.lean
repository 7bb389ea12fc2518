/-! ===== the law: its loop ===== -/
theorem lh_18 : decode code 18 = .ok (.iload_n 3, 1) := by decide +kernel
theorem lh_19 : decode code 19 = .ok (.aload_n 0, 1) := by decide +kernel
theorem lh_20 : decode code 20 = .ok (.arraylength, 1) := by decide +kernel
theorem lh_21 : decode code 21 = .ok (.bipush 6, 2) := by decide +kernel
theorem lh_23 : decode code 23 = .ok (.isub, 1) := by decide +kernel
theorem lh_24 : decode code 24 = .ok (.if_icmp .gt 2097, 3) := by decide +kernel
theorem lh_27 : decode code 27 = .ok (.aload_n 0, 1) := by decide +kernel
theorem lh_28 : decode code 28 = .ok (.iload_n 3, 1) := by decide +kernel
theorem lh_29 : decode code 29 = .ok (.iaload, 1) := by decide +kernel
theorem lh_30 : decode code 30 = .ok (.bipush 63, 2) := by decide +kernel
theorem lh_32 : decode code 32 = .ok (.iand, 1) := by decide +kernel
theorem lh_2115 : decode code 2115 = .ok (.iinc 3 6, 3) := by decide +kernel
theorem lh_2118 : decode code 2118 = .ok (.goto (-2100), 3) := by decide +kernel
theorem lh_2121 : decode code 2121 = .ok (.iconst 1, 1) := by decide +kernel
theorem lh_2122 : decode code 2122 = .ok (.ireturn, 1) := by decide +kernel
section LP
variable {p : Program} {l : Launch} {e : Env} {R : Room} {s : State} {m : MethodId} {args : Array Value} {below : List Frame} {meth : Method} {c : Code} {cells slots : Nat} {Q : State → Prop}
variable {E : En} {b Ln : Nat} {xs : Nat → Int32}
theorem l_loop (hck : ∀ k, k < 56 → ckC k = true) (hS : StrOK l) (hp : AllP) (C : CX ΛZ mLaw E p s m args meth c) (S : Lsc E s b Ln xs) (hR : 200 ≤ R.frames ∧ 5000 ≤ R.locals ∧ cells ≤ R.cells ∧ slots ≤ R.slots) (fin : ∀ (H : Heap) (locs : List Loc) (ls : Array Slot), va_S (AA ΛZ E s.heap.size) s.heap H locs → W p l e R s m args below meth c H locs cells slots Q (F0 m 2121 ls [])) : ∀ (n i : Nat) (A : Ab) (w : Wd) (H : Heap) (locs : List Loc) (ls : Array Slot), Ln < i + n → i ≤ Ln + 6 → LV idE 4 [.ref b, .ref (E.ad 45), .ref (E.ad 267), .int (nI i)] ls → HX ΛZ E w s H locs → Rel A w → W p l e R s m args below meth c H locs cells slots Q (F0 m 18 ls []) := by
  have hLn := S.2.2.2
  intro n
  induction n with
  | zero =>
    intro i A w H locs ls hn hi V X hA
    refine lv_iload_n C.1 C.2.1 lh_18 rfl (V.ati rfl) (lv_aload_n C.1 C.2.1 lh_19 rfl (V.atr rfl) (va_slen C.1 C.2.1 S.1 S.2.1 S.2.2.1 X.2 lh_20 (lv_bipush (v := nI 6) C.1 C.2.1 lh_21 (by decide) (lv_isub C.1 C.2.1 lh_23 (lv_icmp_gt (tgt := 2121) C.1 C.2.1 lh_24 (by decide) (fun _ => fin H locs ls X.2) (fun h => absurd ?_ h))))))
    show nI Ln - nI 6 < nI i
    rw [Int32.lt_iff_toInt_lt, pk_sub_toInt (by omega) (by omega), nI_toInt (by omega)]
    omega
  | succ n ih =>
    intro i A w H locs ls hn hi V X hA
    refine lv_iload_n C.1 C.2.1 lh_18 rfl (V.ati rfl) (lv_aload_n C.1 C.2.1 lh_19 rfl (V.atr rfl) (va_slen C.1 C.2.1 S.1 S.2.1 S.2.2.1 X.2 lh_20 (lv_bipush (v := nI 6) C.1 C.2.1 lh_21 (by decide) (lv_isub C.1 C.2.1 lh_23 (lv_icmp_gt (tgt := 2121) C.1 C.2.1 lh_24 (by decide) (fun _ => fin H locs ls X.2) (fun h => ?_))))))
    have hi6 : i + 6 ≤ Ln := by
      refine Nat.le_of_not_lt (fun q => h ?_)
      show nI Ln - nI 6 < nI i
      rw [Int32.lt_iff_toInt_lt, pk_sub_toInt (by omega) (by omega), nI_toInt (by omega)]
      omega
    have hcont : ∀ (A' : Ab) (w' : Wd) (H1 : Heap) (locs1 : List Loc), Rel A' w' → HX ΛZ E w' s H1 locs1 → W p l e R s m args below meth c H1 locs1 cells slots Q (F0 m 2115 ls []) := by
      intro A' w' H1 locs1 hA' X1
      obtain ⟨q, hq⟩ := List.getElem?_of_mem (asL_in (ad := idE.ad) (L := [.ref b, .ref (E.ad 45), .ref (E.ad 267), .int (nI i)]) (i := 3) (v := .int (nI i)) rfl (by intro h; cases h))
      refine lv_iinc (v := nI (i + 6)) C.1 C.2.1 lh_2115 V.has hq ?_ (Nat.le_of_ble_eq_true rfl) rfl (fun ls' hl => ?_)
      · rw [← nI_add]
        rfl
      · refine lv_goto (tgt := 18) C.1 C.2.1 lh_2118 (by decide) ?_
        exact ih (i + 6) A' w' H1 locs1 ls' (by omega) (by omega) (LV.set1 (i := 3) (v := .int (nI (i + 6))) rfl hl) X1 hA'
    refine lv_aload_n C.1 C.2.1 lh_27 rfl (V.atr rfl) (lv_iload_n C.1 C.2.1 lh_28 rfl (V.ati rfl) (va_sld C.1 C.2.1 S.1 S.2.1 S.2.2.1 X.2 (vp_in_nI (by omega) (by omega)) lh_29 (lv_bipush (v := 63) C.1 C.2.1 lh_30 (by decide) (lv_iand C.1 C.2.1 lh_32 ?_))))
    obtain ⟨j, hj, ej⟩ := pk_andE (xs (nI i).toNatClampNeg) (m := 63) 6 (by decide)
    rw [ej]
    have ejI : (nI j).toInt = (j : Int) := nI_toInt (by omega)
    by_cases h56 : j < 56
    · refine lv_tableIn (off := ((cP j : Nat) : Int) - 33) (tgt := cP j) C.1 C.2.1 lw_sw (by rw [ejI]; omega) (by rw [ejI]; omega) ?_ ?_ (l_case h56 (hck j h56) hS hp C S X V hi6 hR hA hcont)
      · rw [ejI, show ((j : Int) - 0).toNat = j by omega]
        exact lwO_at j h56
      · show (33 : Int) + _ = _
        omega
    · exact lv_tableOut (tgt := 2115) C.1 C.2.1 lw_sw (Or.inr (by rw [ejI]; omega)) (by decide) (hcont A w H locs hA X)
end LP
