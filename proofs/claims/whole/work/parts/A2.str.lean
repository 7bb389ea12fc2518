/-! ===== String.length and String.charAt over the reader's constants ===== -/
abbrev mStrLen : MI := (yJ0_length_8abf5, cJ0_length_8abf5, 1, some .int)
abbrev mStrCod : MI := (yJ0_coder_7d493, cJ0_coder_7d493, 1, some .byte)
abbrev mStrChr : MI := (yJ0_charAt_5068e, cJ0_charAt_5068e, 2, some .char)
abbrev mStrLat : MI := (yJ0_isLatin1_aae02, cJ0_isLatin1_aae02, 1, some .boolean)
abbrev mStrCk : MI := (yJ0_checkIndex_df160, cJ0_checkIndex_df160, 2, none)
abbrev mLatChr : MI := (yJ1_charAt_3b067, cJ1_charAt_3b067, 2, some .char)
abbrev mPreCk : MI := (yJ3_checkIndex_8e157, cJ3_checkIndex_8e157, 3, some .int)
theorem sw_cs : Cond.fieldLink RJ0 38 "java/lang/String" "COMPACT_STRINGS" "Z" ∈ GG := GGi 395 (by decide +kernel) (by decide +kernel)
theorem sw_v : Cond.fieldLink RJ0 9 "java/lang/String" "value" "[B" ∈ GG := GGi 1723 (by decide +kernel) (by decide +kernel)
theorem sw_c : Cond.fieldLink RJ0 15 "java/lang/String" "coder" "B" ∈ GG := GGi 1724 (by decide +kernel) (by decide +kernel)
theorem sw_f : Cond.fieldLink RJ0 1053 "jdk/internal/util/Preconditions" "SIOOBE_FORMATTER" "Ljava/util/function/BiFunction;" ∈ GG := GGi 411 (by decide +kernel) (by decide +kernel)
theorem sw_lcod : Cond.methodLink RJ0 335 mStrCod.1 ∈ GG := GGi 391 (by decide +kernel) (by decide +kernel)
theorem sw_llat : Cond.methodLink RJ0 492 mStrLat.1 ∈ GG := GGi 401 (by decide +kernel) (by decide +kernel)
theorem sw_llc : Cond.methodLink RJ0 495 mLatChr.1 ∈ GG := GGi 405 (by decide +kernel) (by decide +kernel)
theorem sw_lck : Cond.methodLink RJ1 9 mStrCk.1 ∈ GG := GGi 408 (by decide +kernel) (by decide +kernel)
theorem sw_lpk : Cond.methodLink RJ0 1059 mPreCk.1 ∈ GG := GGi 413 (by decide +kernel) (by decide +kernel)
theorem mf_len : MFV mStrLen 0 := ⟨⟨GGi 390 (by decide +kernel) (by decide +kernel), GGi 112 (by decide +kernel) (by decide +kernel), ⟨by decide +kernel, by decide +kernel, by decide +kernel⟩, by decide⟩, GGi 388 (by decide +kernel) (by decide +kernel), GGi 389 (by decide +kernel) (by decide +kernel)⟩
theorem mf_cod : MFV mStrCod 0 := ⟨⟨GGi 394 (by decide +kernel) (by decide +kernel), GGi 112 (by decide +kernel) (by decide +kernel), ⟨by decide +kernel, by decide +kernel, by decide +kernel⟩, by decide⟩, GGi 392 (by decide +kernel) (by decide +kernel), GGi 393 (by decide +kernel) (by decide +kernel)⟩
theorem mf_chr : MFV mStrChr 1 := ⟨⟨GGi 400 (by decide +kernel) (by decide +kernel), GGi 112 (by decide +kernel) (by decide +kernel), ⟨by decide +kernel, by decide +kernel, by decide +kernel⟩, by decide⟩, GGi 398 (by decide +kernel) (by decide +kernel), GGi 399 (by decide +kernel) (by decide +kernel)⟩
theorem mf_lat : MFV mStrLat 0 := ⟨⟨GGi 404 (by decide +kernel) (by decide +kernel), GGi 112 (by decide +kernel) (by decide +kernel), ⟨by decide +kernel, by decide +kernel, by decide +kernel⟩, by decide⟩, GGi 402 (by decide +kernel) (by decide +kernel), GGi 403 (by decide +kernel) (by decide +kernel)⟩
theorem mf_lc : MFS mLatChr 2 := ⟨⟨GGi 407 (by decide +kernel) (by decide +kernel), GGi 113 (by decide +kernel) (by decide +kernel), ⟨by decide +kernel, by decide +kernel, by decide +kernel⟩, by decide⟩, GGi 406 (by decide +kernel) (by decide +kernel)⟩
theorem mf_ck : MFS mStrCk 2 := ⟨⟨GGi 410 (by decide +kernel) (by decide +kernel), GGi 112 (by decide +kernel) (by decide +kernel), ⟨by decide +kernel, by decide +kernel, by decide +kernel⟩, by decide⟩, GGi 409 (by decide +kernel) (by decide +kernel)⟩
theorem mf_pk : MFS mPreCk 3 := ⟨⟨GGi 415 (by decide +kernel) (by decide +kernel), GGi 114 (by decide +kernel) (by decide +kernel), ⟨by decide +kernel, by decide +kernel, by decide +kernel⟩, by decide⟩, GGi 414 (by decide +kernel) (by decide +kernel)⟩
theorem CX.xf {Λ : Ly} {M : MI} {E : En} {p : Program} {s : State} {m : MethodId} {args : Array Value} {meth : Method} {c : Code} (C : CX Λ M E p s m args meth c) : XF Λ E s s.heap := C.2.2.2.2.2.2.2.2.2
section STR
variable {l : Launch} {M : MI} {d pc : Nat} {L st : List Value} {w : Wd} {post : Option Value → Wd → Prop}
theorem b_compact (hM : M.1.cls = RJ0) (hd : decode M.2.1 pc = .ok (.getstatic 38, 3)) (kk : Bd ΛZ l M d (pc + 3) L (.int 1 :: st) w post) : Bd ΛZ l M d pc L st w post := by
  intro E p e s m args below meth c H locs ls C X V
  exact va_gets C.1 C.2.1 C.xf.2.2.2.2.1 X.2 (own := RJ0) (hM ▸ C.2.2.2.2.1) (C.get sw_cs) (fun _ h => h) hd (kk E p e s m args below meth c H locs ls C X V)
theorem b_strV {i : Nat} (hi : i < 8) (hM : M.1.cls = RJ0) (hd : decode M.2.1 pc = .ok (.getfield 9, 3)) (kk : Bd ΛZ l M d (pc + 3) L (.ref (1100 + i) :: st) w post) : Bd ΛZ l M d pc L (.ref (1000 + i) :: st) w post := by
  intro E p e s m args below meth c H locs ls C X V
  exact vk_getf C.1 C.2.1 (C.xf.2.2.2.1.1 i hi).2.2.1 X.2 (own := RJ0) (hM ▸ C.2.2.2.2.1) (C.get sw_v) (fun _ h => h) hd (kk E p e s m args below meth c H locs ls C X V)
theorem b_strC {i : Nat} (hi : i < 8) (hM : M.1.cls = RJ0) (hd : decode M.2.1 pc = .ok (.getfield 15, 3)) (kk : Bd ΛZ l M d (pc + 3) L (.int 0 :: st) w post) : Bd ΛZ l M d pc L (.ref (1000 + i) :: st) w post := by
  intro E p e s m args below meth c H locs ls C X V
  exact vk_getf C.1 C.2.1 (C.xf.2.2.2.1.1 i hi).2.1 X.2 (own := RJ0) (hM ▸ C.2.2.2.2.1) (C.get sw_c) (fun _ h => h) hd (kk E p e s m args below meth c H locs ls C X V)
theorem b_strL {i : Nat} (hi : i < 8) (hd : decode M.2.1 pc = .ok (.arraylength, 1)) (kk : Bd ΛZ l M d (pc + 1) L (.int (nI (skN.getD i 0)) :: st) w post) : Bd ΛZ l M d pc L (.ref (1100 + i) :: st) w post := by
  intro E p e s m args below meth c H locs ls C X V
  exact va_tlen C.1 C.2.1 (C.xf.2.2.2.1.1 i hi).2.2.2 X.2 (v := nI (skN.getD i 0)) rfl hd (kk E p e s m args below meth c H locs ls C X V)
theorem sk_lt : ∀ i, i < 8 → skN.getD i 0 < 2 ^ 31 := by decide +kernel
theorem sk_sh : ∀ i, i < 8 → nI (skN.getD i 0) >>> ((0 : Int32) &&& 31) = nI (skN.getD i 0) := by decide +kernel
theorem sk_ch : ∀ i, i < 8 → ∀ j, j < skN.getD i 0 → ((((skB.getD i []).getD j 0) &&& 255).toUInt32 % 65536).toInt32 = (skB.getD i []).getD j 0 ∧ (((skB.getD i []).getD j 0).toUInt32 % 65536).toInt32 = (skB.getD i []).getD j 0 := by decide +kernel
theorem b_strB {i : Nat} {x : Int32} (hi : i < 8) (hx : inB x (skN.getD i 0) = true) (hd : decode M.2.1 pc = .ok (.baload, 1)) (kk : Bd ΛZ l M d (pc + 1) L (.int ((skB.getD i []).getD (iX x) 0) :: st) w post) : Bd ΛZ l M d pc L (.int x :: .ref (1100 + i) :: st) w post := by
  obtain ⟨h1, h2⟩ := inB_of hx
  intro E p e s m args below meth c H locs ls C X V
  exact va_tb C.1 C.2.1 (C.xf.2.2.2.1.1 i hi).2.2.2 X.2 (ix_in h1 h2 (sk_lt i hi)) (v := .int ((skB.getD i []).getD (iX x) 0)) rfl hd (kk E p e s m args below meth c H locs ls C X V)
theorem b_callT {M' : MI} {i idx n d' : Nat} {As rest : List Value} {post' : Option Value → Wd → Prop} (hi : i < 8) (hC : Does ΛZ l M' d' (.ref (1000 + i) :: As) w post') (hM : MFV M' n) (hl : Cond.methodLink M.1.cls idx M'.1 ∈ GG) (hn : As.length = n) (hc : M'.1.cls = "java/lang/String") (hd : decode M.2.1 pc = .ok (.invokevirtual idx, 3)) (hdd : d' + 1 ≤ d) (hr : (rest.map fun v => v.category).sum ≤ 8) (hst : st = As.reverse ++ .ref (1000 + i) :: rest) (kk : ∀ r w', post' r w' → Bd ΛZ l M d (pc + 3) L (r.toList ++ rest) w' post) : Bd ΛZ l M d pc L st w post := by
  subst hst
  intro E p e s m args below meth c H locs ls C X V
  refine callQ (w := w) (va_runV (As := As.map (pe E.ad)) (rest := rest.map (pe E.ad)) (b := E.ad (1000 + i)) (C := M'.1.cls) ⟨C.1, C.2.1, C.2.2.2.1, C.2.2.2.2.1, C.2.2.2.2.2.1⟩ (hC E H.size) ⟨cb_of C hM.1 hl hdd, C.get hM.2.1, C.get hM.2.2⟩ ⟨pre_blind, ?_, pre_at C X _⟩ rfl (by rw [List.length_map]; exact hn) V.1 (by simp [pe]) (pe_room hr) hd ⟨Nat.le_refl 0, Nat.le_refl 0⟩) X (fun r w' H1 locs1 hp X1 => ?_)
  · rw [hc]
    exact vk_recv (adK := fun j => E.ad (1000 + j)) (i := i) C.xf.2.2.2.1 hi X.2
  · rw [pe_app]
    exact kk r w' hp E p e s m args below meth c H1 locs1 ls C X1 V
end STR
theorem sd_c0 : decode cJ0_coder_7d493 0 = .ok (.getstatic 38, 3) := by decide +kernel
theorem sd_c3 : decode cJ0_coder_7d493 3 = .ok (.ifCond .eq 10, 3) := by decide +kernel
theorem sd_c6 : decode cJ0_coder_7d493 6 = .ok (.aload_n 0, 1) := by decide +kernel
theorem sd_c7 : decode cJ0_coder_7d493 7 = .ok (.getfield 15, 3) := by decide +kernel
theorem sd_c10 : decode cJ0_coder_7d493 10 = .ok (.goto 4, 3) := by decide +kernel
theorem sd_c14 : decode cJ0_coder_7d493 14 = .ok (.ireturn, 1) := by decide +kernel
theorem sd_i0 : decode cJ0_isLatin1_aae02 0 = .ok (.getstatic 38, 3) := by decide +kernel
theorem sd_i3 : decode cJ0_isLatin1_aae02 3 = .ok (.ifCond .eq 14, 3) := by decide +kernel
theorem sd_i6 : decode cJ0_isLatin1_aae02 6 = .ok (.aload_n 0, 1) := by decide +kernel
theorem sd_i7 : decode cJ0_isLatin1_aae02 7 = .ok (.getfield 15, 3) := by decide +kernel
theorem sd_i10 : decode cJ0_isLatin1_aae02 10 = .ok (.ifCond .ne 7, 3) := by decide +kernel
theorem sd_i13 : decode cJ0_isLatin1_aae02 13 = .ok (.iconst 1, 1) := by decide +kernel
theorem sd_i14 : decode cJ0_isLatin1_aae02 14 = .ok (.goto 4, 3) := by decide +kernel
theorem sd_i18 : decode cJ0_isLatin1_aae02 18 = .ok (.ireturn, 1) := by decide +kernel
theorem sd_l0 : decode cJ0_length_8abf5 0 = .ok (.aload_n 0, 1) := by decide +kernel
theorem sd_l1 : decode cJ0_length_8abf5 1 = .ok (.getfield 9, 3) := by decide +kernel
theorem sd_l4 : decode cJ0_length_8abf5 4 = .ok (.arraylength, 1) := by decide +kernel
theorem sd_l5 : decode cJ0_length_8abf5 5 = .ok (.aload_n 0, 1) := by decide +kernel
theorem sd_l6 : decode cJ0_length_8abf5 6 = .ok (.invokevirtual 335, 3) := by decide +kernel
theorem sd_l9 : decode cJ0_length_8abf5 9 = .ok (.ishr, 1) := by decide +kernel
theorem sd_l10 : decode cJ0_length_8abf5 10 = .ok (.ireturn, 1) := by decide +kernel
theorem sd_h0 : decode cJ0_charAt_5068e 0 = .ok (.aload_n 0, 1) := by decide +kernel
theorem sd_h1 : decode cJ0_charAt_5068e 1 = .ok (.invokevirtual 492, 3) := by decide +kernel
theorem sd_h4 : decode cJ0_charAt_5068e 4 = .ok (.ifCond .eq 12, 3) := by decide +kernel
theorem sd_h7 : decode cJ0_charAt_5068e 7 = .ok (.aload_n 0, 1) := by decide +kernel
theorem sd_h8 : decode cJ0_charAt_5068e 8 = .ok (.getfield 9, 3) := by decide +kernel
theorem sd_h11 : decode cJ0_charAt_5068e 11 = .ok (.iload_n 1, 1) := by decide +kernel
theorem sd_h12 : decode cJ0_charAt_5068e 12 = .ok (.invokestatic 495, 3) := by decide +kernel
theorem sd_h15 : decode cJ0_charAt_5068e 15 = .ok (.ireturn, 1) := by decide +kernel
theorem sd_k0 : decode cJ0_checkIndex_df160 0 = .ok (.iload_n 0, 1) := by decide +kernel
theorem sd_k1 : decode cJ0_checkIndex_df160 1 = .ok (.iload_n 1, 1) := by decide +kernel
theorem sd_k2 : decode cJ0_checkIndex_df160 2 = .ok (.getstatic 1053, 3) := by decide +kernel
theorem sd_k5 : decode cJ0_checkIndex_df160 5 = .ok (.invokestatic 1059, 3) := by decide +kernel
theorem sd_k8 : decode cJ0_checkIndex_df160 8 = .ok (.pop, 1) := by decide +kernel
theorem sd_k9 : decode cJ0_checkIndex_df160 9 = .ok (.return_, 1) := by decide +kernel
theorem sd_p0 : decode cJ3_checkIndex_8e157 0 = .ok (.iload_n 0, 1) := by decide +kernel
theorem sd_p1 : decode cJ3_checkIndex_8e157 1 = .ok (.ifCond .lt 8, 3) := by decide +kernel
theorem sd_p4 : decode cJ3_checkIndex_8e157 4 = .ok (.iload_n 0, 1) := by decide +kernel
theorem sd_p5 : decode cJ3_checkIndex_8e157 5 = .ok (.iload_n 1, 1) := by decide +kernel
theorem sd_p6 : decode cJ3_checkIndex_8e157 6 = .ok (.if_icmp .lt 10, 3) := by decide +kernel
theorem sd_p16 : decode cJ3_checkIndex_8e157 16 = .ok (.iload_n 0, 1) := by decide +kernel
theorem sd_p17 : decode cJ3_checkIndex_8e157 17 = .ok (.ireturn, 1) := by decide +kernel
theorem sd_a0 : decode cJ1_charAt_3b067 0 = .ok (.iload_n 1, 1) := by decide +kernel
theorem sd_a1 : decode cJ1_charAt_3b067 1 = .ok (.aload_n 0, 1) := by decide +kernel
theorem sd_a2 : decode cJ1_charAt_3b067 2 = .ok (.arraylength, 1) := by decide +kernel
theorem sd_a3 : decode cJ1_charAt_3b067 3 = .ok (.invokestatic 9, 3) := by decide +kernel
theorem sd_a6 : decode cJ1_charAt_3b067 6 = .ok (.aload_n 0, 1) := by decide +kernel
theorem sd_a7 : decode cJ1_charAt_3b067 7 = .ok (.iload_n 1, 1) := by decide +kernel
theorem sd_a8 : decode cJ1_charAt_3b067 8 = .ok (.baload, 1) := by decide +kernel
theorem sd_a9 : decode cJ1_charAt_3b067 9 = .ok (.sipush 255, 3) := by decide +kernel
theorem sd_a12 : decode cJ1_charAt_3b067 12 = .ok (.iand, 1) := by decide +kernel
theorem sd_a13 : decode cJ1_charAt_3b067 13 = .ok (.i2c, 1) := by decide +kernel
theorem sd_a14 : decode cJ1_charAt_3b067 14 = .ok (.ireturn, 1) := by decide +kernel
section STR2
variable {l : Launch} {w : Wd}
theorem st_cod {i : Nat} (hi : i < 8) : Does ΛZ l mStrCod 0 [.ref (1000 + i)] w (is2 (some (.int 0)) w) := by
  refine Does.of [.ref (1000 + i)] (by decide +kernel) (Nat.le_of_ble_eq_true rfl) rfl ?_
  refine b_compact rfl sd_c0 (b_if_eq 13 sd_c3 (by decide) (fun h => absurd h (by decide)) (fun _ => ?_))
  exact b_aload_n sd_c6 rfl (b_strC hi rfl sd_c7 (b_goto 14 sd_c10 (by decide) (b_zreturn rfl rfl sd_c14 ⟨rfl, rfl⟩)))
theorem st_lat {i : Nat} (hi : i < 8) : Does ΛZ l mStrLat 0 [.ref (1000 + i)] w (is2 (some (.int 1)) w) := by
  refine Does.of [.ref (1000 + i)] (by decide +kernel) (Nat.le_of_ble_eq_true rfl) rfl ?_
  refine b_compact rfl sd_i0 (b_if_eq 17 sd_i3 (by decide) (fun h => absurd h (by decide)) (fun _ => ?_))
  refine b_aload_n sd_i6 rfl (b_strC hi rfl sd_i7 (b_if_ne 17 sd_i10 (by decide) (fun h => absurd rfl h) (fun _ => ?_)))
  exact b_iconst 1 sd_i13 (by decide) (b_goto 18 sd_i14 (by decide) (b_zreturn rfl rfl sd_i18 ⟨rfl, rfl⟩))
theorem st_len {i : Nat} (hi : i < 8) : Does ΛZ l mStrLen 1 [.ref (1000 + i)] w (is2 (some (.int (nI (skN.getD i 0)))) w) := by
  refine Does.of [.ref (1000 + i)] (by decide +kernel) (Nat.le_of_ble_eq_true rfl) rfl ?_
  refine b_aload_n sd_l0 rfl (b_strV hi rfl sd_l1 (b_strL hi sd_l4 (b_aload_n sd_l5 rfl ?_)))
  refine b_callT (As := []) (rest := [.int (nI (skN.getD i 0))]) hi (st_cod hi) mf_cod sw_lcod rfl rfl sd_l6 (Nat.le_of_ble_eq_true rfl) (Nat.le_of_ble_eq_true rfl) rfl (is2_v ?_)
  exact b_ishr sd_l9 (b_ireturn rfl sd_l10 ⟨by rw [sk_sh i hi], rfl⟩)
/-- Preconditions.checkIndex: what its third argument is, nobody asks -/
theorem st_pk {x n : Int32} {v : Value} (hv : v.category = 1) (h0 : ¬ x < 0) (h1 : x < n) : Met l mPreCk.1 (Gw mPreCk) (Rm 0) (va_Pc [.int x, .int n, v] (fun _ => True)) (QcRead x) 0 0 (fun _ => False) := by
  refine Met.ofW (cc := mPreCk.2.1) (maxL := 3) (ret := some .int) (by decide +kernel) rfl ?_
  intro p e s m args below meth c s₁ B hml hP
  obtain ⟨rfl, -⟩ := hP
  rw [lg_entry_eq]
  have hsl : (lg_sl [.int x, .int n, v]).length ≤ 3 := by
    have h2 : ¬ v.category = 2 := by omega
    have e1 : (Value.int x).category = 1 := rfl
    have e2 : (Value.int n).category = 1 := rfl
    simp only [lg_sl, List.flatMap_cons, List.flatMap_nil, e1, e2, hv]
    exact Nat.le_refl 3
  have hl := lv_entry [.int x, .int n, v] (n := 3) hsl
  generalize (lg_sl [.int x, .int n, v] ++ List.replicate (3 - (lg_sl [.int x, .int n, v]).length) Slot.unset).toArray = ls at hl
  have e0 : ls[0]? = some (.val (.int x)) := lv_at hl 0 rfl
  have e1 : ls[1]? = some (.val (.int n)) := lv_at hl 1 rfl
  refine lv_iload_n B.exec B.bytes sd_p0 rfl e0 (lv_if_lt B.exec B.bytes sd_p1 (tgt := 9) (by decide) (fun h => absurd h h0) (fun _ => ?_))
  refine lv_iload_n B.exec B.bytes sd_p4 rfl e0 (lv_iload_n B.exec B.bytes sd_p5 rfl e1 (lv_icmp_lt B.exec B.bytes sd_p6 (tgt := 16) (by decide) (fun _ => ?_) (fun h => absurd h1 h)))
  exact lv_iload_n B.exec B.bytes sd_p16 rfl e0 (W.iret B.exec B.bytes B.returns (fun t ht _ => ⟨rfl, ht⟩) (fun q hq => by cases hq) sd_p17 B.notSynchronized)
theorem st_ck {x n : Int32} (h0 : ¬ x < 0) (h1 : x < n) : Does ΛZ l mStrCk 1 [.int x, .int n] w (is2 none w) := by
  refine Does.of [.int x, .int n] (by decide +kernel) (Nat.le_of_ble_eq_true rfl) rfl ?_
  refine b_iload_n sd_k0 rfl (b_iload_n sd_k1 rfl ?_)
  intro E p e s m args below meth c H locs ls C X V
  have K : ∀ v : Value, v.category = 1 → va_Z "jdk/internal/util/Preconditions" "SIOOBE_FORMATTER" "Ljava/util/function/BiFunction;" v (AA ΛZ E s.heap.size) s s.heap → W p l e (Rm 1) s m args below meth c H locs 0 0 (MQ below (QQ ΛZ E (is2 none w) s.heap.size) args s 0 0 (AA ΛZ E s.heap.size)) (F0 m 2 ls (.int n :: .int x :: [])) := by
    intro v hv hZ
    refine va_gets C.1 C.2.1 hZ X.2 (own := RJ0) C.2.2.2.2.1 (C.get sw_f) (fun _ h => h) sd_k2 ?_
    intro T hT X0
    obtain ⟨r, st₀, t, T', L2, q0, X', hL, e1, e2, ⟨hr, hh⟩, stp⟩ := va_runS (As := [.int x, .int n, v]) (rest := []) (H := H) (locs := locs) (cells := 0) (slots := 0) (g := F0 m (2 + 3) ls (v :: .int n :: .int x :: [])) ⟨C.1, C.2.1, C.2.2.2.1, C.2.2.2.2.1, C.2.2.2.2.2.1⟩ (st_pk (l := l) hv h0 h1) ⟨cb_of C mf_pk.1 sw_lpk (by decide), C.get mf_pk.2⟩ ⟨fun a U g mk q => q, fun U _ _ => ⟨rfl, trivial⟩⟩ rfl rfl V.1 rfl (lv_room (by decide)) sd_k5 ⟨Nat.le_refl 0, Nat.le_refl 0⟩ T hT X0
    cases hr
    obtain ⟨t2, a1, b1⟩ := (b_pop_i (pc := 8) sd_k8 (b_return (pc := 9) rfl sd_k9 ⟨rfl, rfl⟩) : Bd ΛZ l mStrCk 1 8 [.int x, .int n] [.int x] w (is2 none w)) E p e s m args below meth c H locs ls C X V T' (by rw [e1, hh, q0]) (Stand.forget X' (fun q h => (hL q h).elim))
    exact ⟨t2, stp t2 a1, b1⟩
  rcases C.xf.2.2.2.2.2 with h | ⟨t, h⟩
  · exact K .null rfl h
  · exact K (.ref t) rfl h
theorem nar_c {x : Int32} (h : (x.toUInt32 % 65536).toInt32 = x) : narrow .char (.int x) = .int x := by
  show Value.int x.toUInt32.toUInt16.toUInt32.toInt32 = .int x
  rw [UInt32.toUInt32_toUInt16]
  exact congrArg Value.int h
theorem st_lc {i : Nat} {x : Int32} (hi : i < 8) (hx : inB x (skN.getD i 0) = true) : Does ΛZ l mLatChr 2 [.ref (1100 + i), .int x] w (is2 (some (.int ((skB.getD i []).getD (iX x) 0))) w) := by
  refine Does.of [.ref (1100 + i), .int x] (by decide +kernel) (Nat.le_of_ble_eq_true rfl) rfl ?_
  obtain ⟨hx1, hx2⟩ := inB_of hx
  have hn := sk_lt i hi
  have h0 : ¬ x < 0 := by
    rw [hx1]
    exact nI_pos (by omega)
  have h1 : x < nI (skN.getD i 0) := by
    rw [hx1]
    exact nI_lt hx2 (by omega)
  have hc := sk_ch i hi (iX x) hx2
  refine b_iload_n sd_a0 rfl (b_aload_n sd_a1 rfl (b_strL hi sd_a2 ?_))
  refine b_callS (As := [.int x, .int (nI (skN.getD i 0))]) (rest := []) (st_ck h0 h1) mf_ck sw_lck rfl sd_a3 (Nat.le_of_ble_eq_true rfl) (Nat.le_of_ble_eq_true rfl) rfl (is2_n ?_)
  refine b_aload_n sd_a6 rfl (b_iload_n sd_a7 rfl (b_strB hi hx sd_a8 (b_sipush 255 sd_a9 (by decide) (b_iand sd_a12 (b_i2c sd_a13 ?_)))))
  rw [hc.1]
  exact b_zreturn rfl (nar_c hc.2) sd_a14 ⟨rfl, rfl⟩
theorem st_chr {i : Nat} {x : Int32} (hi : i < 8) (hx : inB x (skN.getD i 0) = true) : Does ΛZ l mStrChr 3 [.ref (1000 + i), .int x] w (is2 (some (.int ((skB.getD i []).getD (iX x) 0))) w) := by
  refine Does.of [.ref (1000 + i), .int x] (by decide +kernel) (Nat.le_of_ble_eq_true rfl) rfl ?_
  obtain ⟨hx1, hx2⟩ := inB_of hx
  have hc := sk_ch i hi (iX x) hx2
  refine b_aload_n sd_h0 rfl (b_callT (As := []) (rest := []) hi (st_lat hi) mf_lat sw_llat rfl rfl sd_h1 (Nat.le_of_ble_eq_true rfl) (Nat.le_of_ble_eq_true rfl) rfl (is2_v ?_))
  refine b_if_eq 16 sd_h4 (by decide) (fun h => absurd h (by decide)) (fun _ => ?_)
  refine b_aload_n sd_h7 rfl (b_strV hi rfl sd_h8 (b_iload_n sd_h11 rfl ?_))
  refine b_callS (As := [.ref (1100 + i), .int x]) (rest := []) (st_lc hi hx) mf_lc sw_llc rfl sd_h12 (Nat.le_of_ble_eq_true rfl) (Nat.le_of_ble_eq_true rfl) rfl (is2_v ?_)
  exact b_zreturn rfl (nar_c hc.2) sd_h15 ⟨rfl, rfl⟩
end STR2
theorem strK_ok (l : Launch) : StrK l := by
  intro M d pc L st w post i idx hi hd hct hdg
  refine ⟨fun hl kk => ?_, fun x hl hx kk => ?_⟩
  · exact b_callT (As := []) (rest := st) hi (st_len hi) mf_len hl rfl rfl hdg (by omega) (by rw [ct_sum]; exact hct) rfl (is2_v kk)
  · exact b_callT (As := [.int x]) (rest := st) hi (st_chr hi hx) mf_chr hl rfl rfl hdg (by omega) (by rw [ct_sum]; exact hct) rfl (is2_v kk)
theorem strOK (l : Launch) : StrOK l := ⟨strK_ok l, fmK_ok l⟩
