/-! ===== the law from its entry: both constructors, then the loop ===== -/
theorem ld_0 : decode code 0 = .ok (.new 7, 3) := by decide +kernel
theorem ld_3 : decode code 3 = .ok (.dup, 1) := by decide +kernel
theorem ld_4 : decode code 4 = .ok (.invokespecial 9, 3) := by decide +kernel
theorem ld_7 : decode code 7 = .ok (.astore_n 1, 1) := by decide +kernel
theorem ld_8 : decode code 8 = .ok (.new 10, 3) := by decide +kernel
theorem ld_11 : decode code 11 = .ok (.dup, 1) := by decide +kernel
theorem ld_12 : decode code 12 = .ok (.invokespecial 12, 3) := by decide +kernel
theorem ld_15 : decode code 15 = .ok (.astore_n 2, 1) := by decide +kernel
theorem ld_16 : decode code 16 = .ok (.iconst 0, 1) := by decide +kernel
theorem ld_17 : decode code 17 = .ok (.istore_n 3, 1) := by decide +kernel
theorem lcl_7 : Cond.classLink "SlatePlayLaw" 7 (Rz 5) ∈ GG := GGi 118 (by decide +kernel) (by decide +kernel)
theorem lcl_10 : Cond.classLink "SlatePlayLaw" 10 (Rz 6) ∈ GG := GGi 1064 (by decide +kernel) (by decide +kernel)
theorem nin_5 : Cond.instantiable (Rz 5) (nfZ 5) ∈ GG := GGi 119 (by decide +kernel) (by decide +kernel)
theorem nin_6 : Cond.instantiable (Rz 6) (nfZ 6) ∈ GG := GGi 1065 (by decide +kernel) (by decide +kernel)
theorem nii_5 : Cond.initialized (Rz 5) ∈ GG := GGi 103 (by decide +kernel) (by decide +kernel)
theorem nii_6 : Cond.initialized (Rz 6) ∈ GG := GGi 110 (by decide +kernel) (by decide +kernel)
theorem nmf_5 : MFB mN5 0 := ⟨GGi 122 (by decide +kernel) (by decide +kernel), nii_5, ⟨by decide +kernel, by decide +kernel, by decide +kernel⟩, by decide⟩
theorem nmf_6 : MFB mN6 0 := ⟨GGi 1068 (by decide +kernel) (by decide +kernel), nii_6, ⟨by decide +kernel, by decide +kernel, by decide +kernel⟩, by decide⟩
theorem nim_5 : Cond.instanceMethod mN5.1 ∈ GG := GGi 121 (by decide +kernel) (by decide +kernel)
theorem nim_6 : Cond.instanceMethod mN6.1 ∈ GG := GGi 1067 (by decide +kernel) (by decide +kernel)
theorem nml_5 : Cond.methodLink "SlatePlayLaw" 9 mN5.1 ∈ GG := GGi 120 (by decide +kernel) (by decide +kernel)
theorem nml_6 : Cond.methodLink "SlatePlayLaw" 12 mN6.1 ∈ GG := GGi 1066 (by decide +kernel) (by decide +kernel)
set_option maxHeartbeats 8000000 in
set_option maxRecDepth 4096 in
theorem law_start (hck : ∀ k, k < 56 → ckC k = true) (hp : AllP) {p : Program} {e : Env} {s : State} {m : MethodId} {below : List Frame} {meth : Method} {c : Code} (l : Launch) {b Ln : Nat} {xs : Nat → Int32} {Q : State → Prop} (hL : Ln ≤ 3072) (hx : p.tables.exec = Jvm.exec) (hb : c.code = code) (hr : meth.sig.returnType = ret) (hml : c.maxLocals = 4) (hown : s.vm.findClass "SlatePlayLaw" = some m.cls) (hcd : (Cond.code x code 4 ret).before #[Value.ref b] s = true) (hts : ∀ w ∈ lw_tbl, w.before #[Value.ref b] s = true) (hname : meth.name = x.name) (hX : va_X b Ln xs s s.heap) (hbl : b < s.heap.size) (hlocks : meth.locks = false) (hn : nar.before #[Value.ref b] s = true)
    (fin : ∀ (H : Heap) (locs : List Loc) (ls : Array Slot), (∀ q ∈ locs, s.heap.size ≤ q.base) → W p l e room_1 s m #[Value.ref b] below meth c H locs 290 179389 Q (F0 m 2121 ls [])) : W p l e room_1 s m #[Value.ref b] below meth c s.heap [] 0 0 Q (entryFrame m ([Value.ref b] : List Value).toArray 4) := by
  obtain ⟨D, tc, hK⟩ := st_K hts
  obtain ⟨aK, aV, hXF⟩ := st_XF hts hn
  have hw : ∀ w ∈ Gw mLaw, w.before #[Value.ref b] s = true := by
    intro w hw
    rcases List.mem_cons.mp hw with rfl | q
    · exact hcd
    · exact hts w (GG_tbl q)
  have hAA : ∀ q, AA ΛZ (EZ D tc s.heap.size aK aV) s.heap.size q → s.heap.size ≤ q := by
    intro q h
    rcases h with ⟨k, hk, rfl⟩ | h
    · have e9 : (EZ D tc s.heap.size aK aV).ad k = s.heap.size + alZ k := if_pos hk
      rw [e9]
      omega
    · exact h
  generalize hE : EZ D tc s.heap.size aK aV = E at *
  have C : CN mLaw E (AA ΛZ E s.heap.size) s.heap.size p s m #[Value.ref b] meth c := ⟨hx, hb, hr, hml, hown, hw, hlocks, by rw [← hE]; exact hK _ _ _, hname, st_FN hts, rfl, fun q h => Or.inr h⟩
  have hl := lv_entry ([.ref b]) (n := 4) (Nat.le_of_ble_eq_true rfl)
  rw [lg_entry_eq]
  generalize (lg_sl ([.ref b]) ++ List.replicate (4 - (lg_sl ([.ref b])).length) Slot.unset).toArray = ls at hl ⊢
  have V : LV idE 4 [.ref b, jk, jk, jk] ls := ⟨hl.1, hl.2.1, fun i v hi hv => by
    match i, hi with
    | 0, hi => cases hi; exact lv_at hl 0 rfl
    | 1, hi => cases hi; exact absurd rfl hv
    | 2, hi => cases hi; exact absurd rfl hv
    | 3, hi => cases hi; exact absurd rfl hv
    | i + 4, hi => simp at hi⟩
  have hS : va_S (AA ΛZ E s.heap.size) s.heap s.heap [] := va_S.rf
  have hP : va_P E.D clz [] s.heap := fun k q h => by simp at h
  have hD : va_D (AA ΛZ E s.heap.size) [] := ⟨fun i j p q h => by simp at h, fun k q h => by simp at h⟩
  refine n_new C hP hD hS 5 (by decide) lcl_7 nin_5 nii_5 (c' := 1) rfl (s' := 12) rfl (Nat.le_of_ble_eq_true rfl) (Nat.le_of_ble_eq_true rfl) (Or.inl rfl) ld_0 (fun H hP hD hS => ?_)
  refine lv_dup C.1 C.2.1 ld_3 rfl ?_
  refine n_init (w := []) (h0 := s.heap.size + 0) (e0 := .inr (5, defN 5)) C hP hD hS (mk_5 l E (s.heap.size + 1) (s.heap.size + 0)) nmf_5 rfl rfl nim_5 (Or.inl nml_5) rfl V.1 rfl (Nat.le_of_ble_eq_true rfl) ⟨Nat.le_of_ble_eq_true rfl, Nat.le_of_ble_eq_true rfl⟩ (c' := 267) rfl (s' := 71339) rfl (Nat.le_of_ble_eq_true rfl) (Nat.le_of_ble_eq_true rfl) (Or.inr ⟨_, List.mem_append_right _ List.mem_cons_self⟩) ld_4 (fun H locs hP hD hS => ?_)
  have hP : va_P E.D clz (wA5 E s.heap.size) H := hP
  have hD : va_D (AA ΛZ E s.heap.size) (wA5 E s.heap.size) := hD
  refine lv_astore_n C.1 C.2.1 ld_7 rfl V.has (Nat.le_of_ble_eq_true rfl) rfl (fun ls hl => ?_)
  have V : LV idE 4 [.ref b, .ref (s.heap.size + 0), jk, jk] ls := LV.set1 (E := idE) (L := [.ref b, jk, jk, jk]) (i := 1) (v := .ref (s.heap.size + 0)) rfl hl
  refine n_new C hP hD hS 6 (by decide) lcl_10 nin_6 nii_6 (c' := 268) rfl (s' := 71379) rfl (Nat.le_of_ble_eq_true rfl) (Nat.le_of_ble_eq_true rfl) (Or.inr ⟨_, List.mem_append_right _ (List.mem_append_right _ (List.mem_of_getElem? (i := 8) rfl))⟩) ld_8 (fun H hP hD hS => ?_)
  refine lv_dup C.1 C.2.1 ld_11 rfl ?_
  refine n_init (w := wA5 E s.heap.size) (h0 := s.heap.size + 267) (e0 := .inr (6, defN 6)) C hP hD hS (mk_6 l E (s.heap.size + 268) (s.heap.size + 267)) nmf_6 rfl rfl nim_6 (Or.inl nml_6) rfl V.1 rfl (Nat.le_of_ble_eq_true rfl) ⟨Nat.le_of_ble_eq_true rfl, Nat.le_of_ble_eq_true rfl⟩ (c' := 290) rfl (s' := 179389) rfl (Nat.le_of_ble_eq_true rfl) (Nat.le_of_ble_eq_true rfl) (Or.inr ⟨_, List.mem_append_right _ List.mem_cons_self⟩) ld_12 (fun H locs hP hD hS => ?_)
  have hP : va_P E.D clz (wA5 E s.heap.size ++ wR6 E s.heap.size) H := hP
  refine lv_astore_n C.1 C.2.1 ld_15 rfl V.has (Nat.le_of_ble_eq_true rfl) rfl (fun ls hl => ?_)
  have V : LV idE 4 [.ref b, .ref (s.heap.size + 0), .ref (s.heap.size + 267), jk] ls := LV.set1 (E := idE) (L := [.ref b, .ref (s.heap.size + 0), jk, jk]) (i := 2) (v := .ref (s.heap.size + 267)) rfl hl
  refine lv_iconst (v := 0) C.1 C.2.1 ld_16 (by decide) ?_
  refine lv_istore_n C.1 C.2.1 ld_17 rfl V.has (Nat.le_of_ble_eq_true rfl) rfl (fun ls hl => ?_)
  have V : LV idE 4 [.ref b, .ref (s.heap.size + 0), .ref (s.heap.size + 267), .int 0] ls := LV.set1 (E := idE) (L := [.ref b, .ref (s.heap.size + 0), .ref (s.heap.size + 267), jk]) (i := 3) (v := .int 0) rfl hl
  have e45 : E.ad 45 = s.heap.size + 0 := by rw [← hE]; rfl
  have e267 : E.ad 267 = s.heap.size + 267 := by rw [← hE]; rfl
  have hbA : ¬ AA ΛZ E s.heap.size b := fun h => by
    have := hAA b h
    omega
  refine l_loop (b := b) (Ln := Ln) (xs := xs) hck (strOK l) hp ⟨hx, hb, hr, hml, hown, hw, hlocks, C.K, by rw [← hE]; exact EZ_DD _ _ _ _ _, by rw [← hE]; exact hXF _ _⟩ ⟨hX, hbl, hbA, hL⟩ ⟨Nat.le_of_ble_eq_true rfl, Nat.le_of_ble_eq_true rfl, Nat.le_of_ble_eq_true rfl, Nat.le_of_ble_eq_true rfl⟩ (fun H locs ls hS => fin H locs ls (fun q hq => hAA _ (hS.2.2 q hq))) (Ln + 1) 0 abE wZ0 H locs ls (by omega) (by omega) ?_ ⟨?_, hS⟩ rel0
  · rw [e45, e267]
    exact V
  · rw [← hE] at hP ⊢
    exact wl_all hP
