/-! ===== the constructors of the small parts (printed by gen/mkctor.py) ===== -/
abbrev mN0 : MI := (yX0_init, cX0_init, 1, none)
abbrev mN1 : MI := (yX1_init, cX1_init, 2, none)
abbrev mN2 : MI := (yX2_init, cX2_init, 1, none)
abbrev mN3 : MI := (yX3_init, cX3_init, 2, none)
abbrev mN4 : MI := (yX4_init, cX4_init, 1, none)
abbrev mN5 : MI := (yX5_init, cX5_init, 2, none)
abbrev mN6 : MI := (yX6_init, cX6_init, 2, none)
abbrev mNF : MI := (yJ7_fill_53178, cJ7_fill_53178, 4, none)
def PD (E : En) (A : Nat → Prop) (ws : va_W) (H : Heap) : Prop := va_P E.D clz ws H ∧ va_D A ws
/-- a row of four, filled with -1 -/
def zf4 : Nat → Int32 := upd (upd (upd (upd (fun _ => 0) 0 (-1)) 1 (-1)) 2 (-1)) 3 (-1)
theorem LV.ati {nL i : Nat} {L : List Value} {ls : Array Slot} {x : Int32} (V : LV idE nL L ls) (h : L[i]? = some (.int x)) : ls[i]? = some (.val (.int x)) := V.at h (by intro h; cases h)
theorem LV.atr {nL i : Nat} {L : List Value} {ls : Array Slot} {x : Nat} (V : LV idE nL L ls) (h : L[i]? = some (.ref x)) : ls[i]? = some (.val (.ref x)) := V.at h (by intro h; cases h)
section NX
variable {p : Program} {l : Launch} {e : Env} {R : Room} {s : State} {m : MethodId} {args : Array Value} {below : List Frame} {meth : Method} {c : Code} {H : Heap} {locs : List Loc} {cells slots : Nat} {Q : State → Prop}
variable {M : MI} {E : En} {A : Nat → Prop} {z pc : Nat} {ls : Array Slot} {rest : List Value} {ws : va_W}
theorem n_iinc {j : Nat} {n : Int} {x v : Int32} {L : List Value} (C : CN M E A z p s m args meth c) (V : LV idE M.2.2.1 L ls) (hd : decode M.2.1 pc = .ok (.iinc j n, 3)) (hn : j < M.2.2.1) (ho : okP L j = true) (hx : L[j]? = some (.int x)) (hv : x + Int32.ofInt n = v) (k : ∀ ls' : Array Slot, LV idE M.2.2.1 (L.set j (.int v)) ls' → W p l e R s m args below meth c H locs cells slots Q (F0 m (pc + 3) ls' rest)) : W p l e R s m args below meth c H locs cells slots Q (F0 m pc ls rest) := by
  obtain ⟨q, hq⟩ := List.getElem?_of_mem (asL_in (ad := idE.ad) hx (by intro h; cases h))
  exact lv_iinc C.1 C.2.1 hd V.has hq hv hn rfl (fun ls' hl => k ls' (LV.set1 (v := .int v) ho hl))
theorem n_ast {ci n a v k : Nat} {vs : List Value} {f : Nat → Option Nat} {i : Int32} (C : CN M E A z p s m args meth c) (hP : va_P E.D clz ws H) (hD : va_D A ws) (hS : va_S A s.heap H locs) (q0 t0 : Nat) (ha : ws[q0]? = some (a, .inl (E.tc 5, n, .inr (.inr (.inr (.inr f)))))) (ht : (tyE E)[t0]? = some (E.tc 5, .object (Rz ci))) (hm : (v, .inr (ci, vs)) ∈ ws) (hc : clz[ci]? = some (Rz ci, Tz ci, nfZ ci)) (hin : ¬ i < 0 ∧ i.toNatClampNeg = k ∧ k < n) (hd : decode M.2.1 pc = .ok (.aastore, 1))
    (kk : ∀ (H1 : Heap) (locs1 : List Loc), va_P E.D clz (ws.set q0 (a, .inl (E.tc 5, n, .inr (.inr (.inr (.inr (va_up f k (some v)))))))) H1 → va_D A (ws.set q0 (a, .inl (E.tc 5, n, .inr (.inr (.inr (.inr (va_up f k (some v)))))))) → va_S A s.heap H1 locs1 → W p l e R s m args below meth c H1 locs1 cells slots Q (F0 m (pc + 1) ls rest)) : W p l e R s m args below meth c H locs cells slots Q (F0 m pc ls (.ref v :: .int i :: .ref a :: rest)) := by
  obtain ⟨qk, hqk⟩ := List.getElem?_of_mem hm
  obtain ⟨i1, rfl, i3⟩ := hin
  exact va_astq C.1 C.2.1 C.K hP hD hS q0 t0 qk ci (r := (Rz ci, Tz ci, nfZ ci)) ha ht hqk hc (fun h => by rcases h with h | h; exact i1 h; omega) hd kk
theorem n_iast {n a k : Nat} {f : Nat → Int32} {i x : Int32} (C : CN M E A z p s m args meth c) (hP : va_P E.D clz ws H) (hD : va_D A ws) (hS : va_S A s.heap H locs) (q0 : Nat) (ha : ws[q0]? = some (a, .inl (E.tc 0, n, .inl f))) (hin : ¬ i < 0 ∧ i.toNatClampNeg = k) (hk : k < n) (hd : decode M.2.1 pc = .ok (.iastore, 1))
    (kk : ∀ (H1 : Heap) (locs1 : List Loc), va_P E.D clz (ws.set q0 (a, .inl (E.tc 0, n, .inl (upd f k x)))) H1 → va_D A (ws.set q0 (a, .inl (E.tc 0, n, .inl (upd f k x)))) → va_S A s.heap H1 locs1 → W p l e R s m args below meth c H1 locs1 cells slots Q (F0 m (pc + 1) ls rest)) : W p l e R s m args below meth c H locs cells slots Q (F0 m pc ls (.int x :: .int i :: .ref a :: rest)) := by
  obtain ⟨i1, rfl⟩ := hin
  exact va_iast C.1 C.2.1 C.K hP hD hS q0 0 ha rfl (fun h => by rcases h with h | h; exact i1 h; omega) hd kk
end NX
theorem dF_0 : decode cJ7_fill_53178 0 = .ok (.iconst 0, 1) := by decide +kernel
theorem dF_1 : decode cJ7_fill_53178 1 = .ok (.istore_n 2, 1) := by decide +kernel
theorem dF_2 : decode cJ7_fill_53178 2 = .ok (.aload_n 0, 1) := by decide +kernel
theorem dF_3 : decode cJ7_fill_53178 3 = .ok (.arraylength, 1) := by decide +kernel
theorem dF_4 : decode cJ7_fill_53178 4 = .ok (.istore_n 3, 1) := by decide +kernel
theorem dF_5 : decode cJ7_fill_53178 5 = .ok (.iload_n 2, 1) := by decide +kernel
theorem dF_6 : decode cJ7_fill_53178 6 = .ok (.iload_n 3, 1) := by decide +kernel
theorem dF_7 : decode cJ7_fill_53178 7 = .ok (.if_icmp .ge 13, 3) := by decide +kernel
theorem dF_10 : decode cJ7_fill_53178 10 = .ok (.aload_n 0, 1) := by decide +kernel
theorem dF_11 : decode cJ7_fill_53178 11 = .ok (.iload_n 2, 1) := by decide +kernel
theorem dF_12 : decode cJ7_fill_53178 12 = .ok (.iload_n 1, 1) := by decide +kernel
theorem dF_13 : decode cJ7_fill_53178 13 = .ok (.iastore, 1) := by decide +kernel
theorem dF_14 : decode cJ7_fill_53178 14 = .ok (.iinc 2 1, 3) := by decide +kernel
theorem dF_17 : decode cJ7_fill_53178 17 = .ok (.goto (-12), 3) := by decide +kernel
theorem dF_20 : decode cJ7_fill_53178 20 = .ok (.return_, 1) := by decide +kernel
/-- Arrays.fill over a row of four -/
theorem mk_fill (l : Launch) (E : En) (z h0 : Nat) : Mk l mNF 0 0 0 [.ref h0, .int (-1)] E z [(h0, .inl (E.tc 0, 4, zaN 0))] [(h0, .inl (E.tc 0, 4, .inl zf4))] := by
  refine Mk.of [.ref h0, .int (-1), jk, jk] (by decide +kernel) (Nat.le_of_ble_eq_true rfl) rfl ?_
  intro p e s m args below meth c ls C V hP hD hS
  have turn : ∀ (k : Nat) (f : Nat → Int32) (H : Heap) (locs : List Loc) (ls : Array Slot), k < 4 → LV idE 4 [.ref h0, .int (-1), .int (nI k), .int 4] ls → va_P E.D clz [(h0, .inl (E.tc 0, 4, .inl f))] H → va_D (va_A [(h0, .inl (E.tc 0, 4, zaN 0))] z) [(h0, .inl (E.tc 0, 4, .inl f))] → va_S (va_A [(h0, .inl (E.tc 0, 4, zaN 0))] z) s.heap H locs →
      (∀ (H1 : Heap) (locs1 : List Loc) (ls1 : Array Slot), LV idE 4 [.ref h0, .int (-1), .int (nI (k + 1)), .int 4] ls1 → va_P E.D clz [(h0, .inl (E.tc 0, 4, .inl (upd f k (-1))))] H1 → va_D (va_A [(h0, .inl (E.tc 0, 4, zaN 0))] z) [(h0, .inl (E.tc 0, 4, .inl (upd f k (-1))))] → va_S (va_A [(h0, .inl (E.tc 0, 4, zaN 0))] z) s.heap H1 locs1 → W p l e (RmN 0 0 0) s m args below meth c H1 locs1 0 0 (MQ below (NQ E z [(h0, .inl (E.tc 0, 4, zaN 0))] [(h0, .inl (E.tc 0, 4, .inl zf4))]) args s 0 0 (va_A [(h0, .inl (E.tc 0, 4, zaN 0))] z)) (F0 m 5 ls1 [])) →
      W p l e (RmN 0 0 0) s m args below meth c H locs 0 0 (MQ below (NQ E z [(h0, .inl (E.tc 0, 4, zaN 0))] [(h0, .inl (E.tc 0, 4, .inl zf4))]) args s 0 0 (va_A [(h0, .inl (E.tc 0, 4, zaN 0))] z)) (F0 m 5 ls []) := by
    intro k f H locs ls hk V hP hD hS kk
    have h4 : (4 : Int32) = nI 4 := by decide
    refine lv_iload_n C.1 C.2.1 dF_5 rfl (V.ati rfl) (lv_iload_n C.1 C.2.1 dF_6 rfl (V.ati rfl) ?_)
    refine lv_icmp_ge (tgt := 20) C.1 C.2.1 dF_7 (by decide) (fun h => absurd h ?_) (fun _ => ?_)
    · rw [h4]
      exact nI_ge (by omega) (by omega)
    refine lv_aload_n C.1 C.2.1 dF_10 rfl (V.atr rfl) (lv_iload_n C.1 C.2.1 dF_11 rfl (V.ati rfl) (lv_iload_n C.1 C.2.1 dF_12 rfl (V.ati rfl) ?_))
    refine n_iast (k := k) C hP hD hS 0 rfl ⟨nI_pos (by omega), nI_clamp (by omega)⟩ hk dF_13 (fun H1 locs1 hP hD hS => ?_)
    refine n_iinc (v := nI (k + 1)) C V dF_14 (Nat.le_of_ble_eq_true rfl) rfl rfl (by rw [nI_succ]; rfl) (fun ls1 V => ?_)
    refine lv_goto (tgt := 5) C.1 C.2.1 dF_17 (by decide) ?_
    exact kk H1 locs1 ls1 V hP hD hS
  refine lv_iconst (v := 0) C.1 C.2.1 dF_0 (by decide) ?_
  refine lv_istore_n C.1 C.2.1 dF_1 rfl V.has (Nat.le_of_ble_eq_true rfl) rfl (fun ls hl => ?_)
  have V : LV idE 4 [.ref h0, .int (-1), .int (nI 0), jk] ls := LV.set1 (i := 2) (v := .int 0) rfl hl
  refine lv_aload_n C.1 C.2.1 dF_2 rfl (V.atr rfl) ?_
  refine va_alen C.1 C.2.1 C.K hP 0 0 rfl rfl (v := 4) rfl dF_3 ?_
  refine lv_istore_n C.1 C.2.1 dF_4 rfl V.has (Nat.le_of_ble_eq_true rfl) rfl (fun ls hl => ?_)
  have V : LV idE 4 [.ref h0, .int (-1), .int (nI 0), .int 4] ls := LV.set1 (i := 3) (v := .int 4) rfl hl
  refine turn 0 _ _ _ _ (by omega) V hP hD hS (fun H locs ls V hP hD hS => ?_)
  refine turn 1 _ _ _ _ (by omega) V hP hD hS (fun H locs ls V hP hD hS => ?_)
  refine turn 2 _ _ _ _ (by omega) V hP hD hS (fun H locs ls V hP hD hS => ?_)
  refine turn 3 _ _ _ _ (by omega) V hP hD hS (fun H locs ls V hP hD hS => ?_)
  refine lv_iload_n C.1 C.2.1 dF_5 rfl (V.ati rfl) (lv_iload_n C.1 C.2.1 dF_6 rfl (V.ati rfl) ?_)
  refine lv_icmp_ge (tgt := 20) C.1 C.2.1 dF_7 (by decide) (fun _ => ?_) (fun h => absurd (by decide) h)
  exact W.vret C.1 C.2.1 C.2.2.1 (fun t ht _ => ⟨⟨rfl, by rw [ht]; exact hP, hD⟩, hS.F ht⟩) hS.2.2 dF_20 C.2.2.2.2.2.2.1
theorem no_i : Cond.instanceMethod Lib.objectInit ∈ GG := GGi 124 (by decide +kernel) (by decide +kernel)
theorem no_c : Cond.code Lib.objectInit ⟨#[0xb1]⟩ 1 none ∈ GG := GGi 125 (by decide +kernel) (by decide +kernel)
theorem na_byte : Cond.arrayClass .byte ∈ GG := GGi 156 (by decide +kernel) (by decide +kernel)
theorem na_int : Cond.arrayClass .int ∈ GG := GGi 222 (by decide +kernel) (by decide +kernel)
theorem na_boolean : Cond.arrayClass .boolean ∈ GG := GGi 248 (by decide +kernel) (by decide +kernel)
theorem na_long : Cond.arrayClass .long ∈ GG := GGi 249 (by decide +kernel) (by decide +kernel)
theorem nol_2 : Cond.methodLink (Rz 2) 3 Lib.objectInit ∈ GG := GGi 162 (by decide +kernel) (by decide +kernel)
theorem nf2_9 : Cond.fieldLink (Rz 2) 9 (Tz 2 0).1 (Tz 2 0).2.1 (Tz 2 0).2.2.1 ∈ GG := GGi 163 (by decide +kernel) (by decide +kernel)
theorem nf2_15 : Cond.fieldLink (Rz 2) 15 (Tz 2 1).1 (Tz 2 1).2.1 (Tz 2 1).2.2.1 ∈ GG := GGi 166 (by decide +kernel) (by decide +kernel)
theorem nf2_18 : Cond.fieldLink (Rz 2) 18 (Tz 2 2).1 (Tz 2 2).2.1 (Tz 2 2).2.2.1 ∈ GG := GGi 168 (by decide +kernel) (by decide +kernel)
theorem nf2_21 : Cond.fieldLink (Rz 2) 21 (Tz 2 3).1 (Tz 2 3).2.1 (Tz 2 3).2.2.1 ∈ GG := GGi 170 (by decide +kernel) (by decide +kernel)
theorem nf2_24 : Cond.fieldLink (Rz 2) 24 (Tz 2 4).1 (Tz 2 4).2.1 (Tz 2 4).2.2.1 ∈ GG := GGi 172 (by decide +kernel) (by decide +kernel)
theorem nf2_27 : Cond.fieldLink (Rz 2) 27 (Tz 2 5).1 (Tz 2 5).2.1 (Tz 2 5).2.2.1 ∈ GG := GGi 176 (by decide +kernel) (by decide +kernel)
theorem nf2_30 : Cond.fieldLink (Rz 2) 30 (Tz 2 6).1 (Tz 2 6).2.1 (Tz 2 6).2.2.1 ∈ GG := GGi 178 (by decide +kernel) (by decide +kernel)
theorem nf2_34 : Cond.fieldLink (Rz 2) 34 (Tz 2 7).1 (Tz 2 7).2.1 (Tz 2 7).2.2.1 ∈ GG := GGi 180 (by decide +kernel) (by decide +kernel)
theorem nf2_37 : Cond.fieldLink (Rz 2) 37 (Tz 2 8).1 (Tz 2 8).2.1 (Tz 2 8).2.2.1 ∈ GG := GGi 182 (by decide +kernel) (by decide +kernel)
theorem nf2_40 : Cond.fieldLink (Rz 2) 40 (Tz 2 9).1 (Tz 2 9).2.1 (Tz 2 9).2.2.1 ∈ GG := GGi 184 (by decide +kernel) (by decide +kernel)
theorem nf2_43 : Cond.fieldLink (Rz 2) 43 (Tz 2 10).1 (Tz 2 10).2.1 (Tz 2 10).2.2.1 ∈ GG := GGi 185 (by decide +kernel) (by decide +kernel)
theorem nf2_46 : Cond.fieldLink (Rz 2) 46 (Tz 2 11).1 (Tz 2 11).2.1 (Tz 2 11).2.2.1 ∈ GG := GGi 187 (by decide +kernel) (by decide +kernel)
theorem nf2_49 : Cond.fieldLink (Rz 2) 49 (Tz 2 12).1 (Tz 2 12).2.1 (Tz 2 12).2.2.1 ∈ GG := GGi 189 (by decide +kernel) (by decide +kernel)
theorem nf2_52 : Cond.fieldLink (Rz 2) 52 (Tz 2 13).1 (Tz 2 13).2.1 (Tz 2 13).2.2.1 ∈ GG := GGi 191 (by decide +kernel) (by decide +kernel)
theorem nol_1 : Cond.methodLink (Rz 1) 3 Lib.objectInit ∈ GG := GGi 131 (by decide +kernel) (by decide +kernel)
theorem nf1_9 : Cond.fieldLink (Rz 1) 9 (Tz 1 1).1 (Tz 1 1).2.1 (Tz 1 1).2.2.1 ∈ GG := GGi 133 (by decide +kernel) (by decide +kernel)
theorem nf1_15 : Cond.fieldLink (Rz 1) 15 (Tz 1 2).1 (Tz 1 2).2.1 (Tz 1 2).2.2.1 ∈ GG := GGi 134 (by decide +kernel) (by decide +kernel)
theorem nf1_18 : Cond.fieldLink (Rz 1) 18 (Tz 1 3).1 (Tz 1 3).2.1 (Tz 1 3).2.2.1 ∈ GG := GGi 135 (by decide +kernel) (by decide +kernel)
theorem nf1_21 : Cond.fieldLink (Rz 1) 21 (Tz 1 4).1 (Tz 1 4).2.1 (Tz 1 4).2.2.1 ∈ GG := GGi 136 (by decide +kernel) (by decide +kernel)
theorem nf1_24 : Cond.fieldLink (Rz 1) 24 (Tz 1 5).1 (Tz 1 5).2.1 (Tz 1 5).2.2.1 ∈ GG := GGi 137 (by decide +kernel) (by decide +kernel)
theorem nf1_27 : Cond.fieldLink (Rz 1) 27 (Tz 1 6).1 (Tz 1 6).2.1 (Tz 1 6).2.2.1 ∈ GG := GGi 139 (by decide +kernel) (by decide +kernel)
theorem nf1_30 : Cond.fieldLink (Rz 1) 30 (Tz 1 0).1 (Tz 1 0).2.1 (Tz 1 0).2.2.1 ∈ GG := GGi 132 (by decide +kernel) (by decide +kernel)
theorem nol_4 : Cond.methodLink (Rz 4) 3 Lib.objectInit ∈ GG := GGi 229 (by decide +kernel) (by decide +kernel)
theorem ncl4_11 : Cond.classLink (Rz 4) 11 "[[J" ∈ GG := GGi 230 (by decide +kernel) (by decide +kernel)
theorem nf4_13 : Cond.fieldLink (Rz 4) 13 (Tz 4 0).1 (Tz 4 0).2.1 (Tz 4 0).2.2.1 ∈ GG := GGi 235 (by decide +kernel) (by decide +kernel)
theorem nf4_16 : Cond.fieldLink (Rz 4) 16 (Tz 4 1).1 (Tz 4 1).2.1 (Tz 4 1).2.2.1 ∈ GG := GGi 237 (by decide +kernel) (by decide +kernel)
theorem nf4_20 : Cond.fieldLink (Rz 4) 20 (Tz 4 2).1 (Tz 4 2).2.1 (Tz 4 2).2.2.1 ∈ GG := GGi 239 (by decide +kernel) (by decide +kernel)
theorem nfs : MFS mNF 2 := ⟨⟨GGi 234 (by decide +kernel) (by decide +kernel), GGi 107 (by decide +kernel) (by decide +kernel), ⟨by decide +kernel, by decide +kernel, by decide +kernel⟩, by decide⟩, GGi 233 (by decide +kernel) (by decide +kernel)⟩
theorem nfl : Cond.methodLink (Rz 4) 23 mNF.1 ∈ GG := GGi 232 (by decide +kernel) (by decide +kernel)
theorem nol_3 : Cond.methodLink (Rz 3) 3 Lib.objectInit ∈ GG := GGi 255 (by decide +kernel) (by decide +kernel)
theorem nf3_9 : Cond.fieldLink (Rz 3) 9 (Tz 3 1).1 (Tz 3 1).2.1 (Tz 3 1).2.2.1 ∈ GG := GGi 257 (by decide +kernel) (by decide +kernel)
theorem nf3_15 : Cond.fieldLink (Rz 3) 15 (Tz 3 2).1 (Tz 3 2).2.1 (Tz 3 2).2.2.1 ∈ GG := GGi 258 (by decide +kernel) (by decide +kernel)
theorem nf3_18 : Cond.fieldLink (Rz 3) 18 (Tz 3 3).1 (Tz 3 3).2.1 (Tz 3 3).2.2.1 ∈ GG := GGi 259 (by decide +kernel) (by decide +kernel)
theorem nf3_22 : Cond.fieldLink (Rz 3) 22 (Tz 3 4).1 (Tz 3 4).2.1 (Tz 3 4).2.2.1 ∈ GG := GGi 261 (by decide +kernel) (by decide +kernel)
theorem nf3_25 : Cond.fieldLink (Rz 3) 25 (Tz 3 5).1 (Tz 3 5).2.1 (Tz 3 5).2.2.1 ∈ GG := GGi 262 (by decide +kernel) (by decide +kernel)
theorem nf3_28 : Cond.fieldLink (Rz 3) 28 (Tz 3 6).1 (Tz 3 6).2.1 (Tz 3 6).2.2.1 ∈ GG := GGi 263 (by decide +kernel) (by decide +kernel)
theorem nf3_31 : Cond.fieldLink (Rz 3) 31 (Tz 3 7).1 (Tz 3 7).2.1 (Tz 3 7).2.2.1 ∈ GG := GGi 265 (by decide +kernel) (by decide +kernel)
theorem nf3_34 : Cond.fieldLink (Rz 3) 34 (Tz 3 8).1 (Tz 3 8).2.1 (Tz 3 8).2.2.1 ∈ GG := GGi 266 (by decide +kernel) (by decide +kernel)
theorem nf3_37 : Cond.fieldLink (Rz 3) 37 (Tz 3 0).1 (Tz 3 0).2.1 (Tz 3 0).2.2.1 ∈ GG := GGi 256 (by decide +kernel) (by decide +kernel)
theorem nol_0 : Cond.methodLink (Rz 0) 3 Lib.objectInit ∈ GG := GGi 291 (by decide +kernel) (by decide +kernel)
theorem ncl0_11 : Cond.classLink (Rz 0) 11 "[[J" ∈ GG := GGi 292 (by decide +kernel) (by decide +kernel)
theorem nf0_13 : Cond.fieldLink (Rz 0) 13 (Tz 0 0).1 (Tz 0 0).2.1 (Tz 0 0).2.2.1 ∈ GG := GGi 293 (by decide +kernel) (by decide +kernel)
theorem nf0_16 : Cond.fieldLink (Rz 0) 16 (Tz 0 1).1 (Tz 0 1).2.1 (Tz 0 1).2.2.1 ∈ GG := GGi 294 (by decide +kernel) (by decide +kernel)
theorem nf0_20 : Cond.fieldLink (Rz 0) 20 (Tz 0 2).1 (Tz 0 2).2.1 (Tz 0 2).2.2.1 ∈ GG := GGi 295 (by decide +kernel) (by decide +kernel)
theorem d2_0 : decode cX2_init 0 = .ok (.aload_n 0, 1) := by decide +kernel
theorem d2_1 : decode cX2_init 1 = .ok (.invokespecial 3, 3) := by decide +kernel
theorem d2_4 : decode cX2_init 4 = .ok (.aload_n 0, 1) := by decide +kernel
theorem d2_5 : decode cX2_init 5 = .ok (.iconst 0, 1) := by decide +kernel
theorem d2_6 : decode cX2_init 6 = .ok (.putfield 9, 3) := by decide +kernel
theorem d2_9 : decode cX2_init 9 = .ok (.aload_n 0, 1) := by decide +kernel
theorem d2_10 : decode cX2_init 10 = .ok (.iconst 0, 1) := by decide +kernel
theorem d2_11 : decode cX2_init 11 = .ok (.putfield 15, 3) := by decide +kernel
theorem d2_14 : decode cX2_init 14 = .ok (.aload_n 0, 1) := by decide +kernel
theorem d2_15 : decode cX2_init 15 = .ok (.iconst 0, 1) := by decide +kernel
theorem d2_16 : decode cX2_init 16 = .ok (.putfield 18, 3) := by decide +kernel
theorem d2_19 : decode cX2_init 19 = .ok (.aload_n 0, 1) := by decide +kernel
theorem d2_20 : decode cX2_init 20 = .ok (.iconst 0, 1) := by decide +kernel
theorem d2_21 : decode cX2_init 21 = .ok (.putfield 21, 3) := by decide +kernel
theorem d2_24 : decode cX2_init 24 = .ok (.aload_n 0, 1) := by decide +kernel
theorem d2_25 : decode cX2_init 25 = .ok (.iconst 0, 1) := by decide +kernel
theorem d2_26 : decode cX2_init 26 = .ok (.putfield 24, 3) := by decide +kernel
theorem d2_29 : decode cX2_init 29 = .ok (.aload_n 0, 1) := by decide +kernel
theorem d2_30 : decode cX2_init 30 = .ok (.iconst 0, 1) := by decide +kernel
theorem d2_31 : decode cX2_init 31 = .ok (.putfield 27, 3) := by decide +kernel
theorem d2_34 : decode cX2_init 34 = .ok (.aload_n 0, 1) := by decide +kernel
theorem d2_35 : decode cX2_init 35 = .ok (.bipush 14, 2) := by decide +kernel
theorem d2_37 : decode cX2_init 37 = .ok (.newarray .int, 2) := by decide +kernel
theorem d2_39 : decode cX2_init 39 = .ok (.putfield 30, 3) := by decide +kernel
theorem d2_42 : decode cX2_init 42 = .ok (.aload_n 0, 1) := by decide +kernel
theorem d2_43 : decode cX2_init 43 = .ok (.bipush 14, 2) := by decide +kernel
theorem d2_45 : decode cX2_init 45 = .ok (.newarray .int, 2) := by decide +kernel
theorem d2_47 : decode cX2_init 47 = .ok (.putfield 34, 3) := by decide +kernel
theorem d2_50 : decode cX2_init 50 = .ok (.aload_n 0, 1) := by decide +kernel
theorem d2_51 : decode cX2_init 51 = .ok (.bipush 14, 2) := by decide +kernel
theorem d2_53 : decode cX2_init 53 = .ok (.newarray .int, 2) := by decide +kernel
theorem d2_55 : decode cX2_init 55 = .ok (.putfield 37, 3) := by decide +kernel
theorem d2_58 : decode cX2_init 58 = .ok (.aload_n 0, 1) := by decide +kernel
theorem d2_59 : decode cX2_init 59 = .ok (.bipush 14, 2) := by decide +kernel
theorem d2_61 : decode cX2_init 61 = .ok (.newarray .int, 2) := by decide +kernel
theorem d2_63 : decode cX2_init 63 = .ok (.putfield 40, 3) := by decide +kernel
theorem d2_66 : decode cX2_init 66 = .ok (.aload_n 0, 1) := by decide +kernel
theorem d2_67 : decode cX2_init 67 = .ok (.bipush 14, 2) := by decide +kernel
theorem d2_69 : decode cX2_init 69 = .ok (.newarray .int, 2) := by decide +kernel
theorem d2_71 : decode cX2_init 71 = .ok (.putfield 43, 3) := by decide +kernel
theorem d2_74 : decode cX2_init 74 = .ok (.aload_n 0, 1) := by decide +kernel
theorem d2_75 : decode cX2_init 75 = .ok (.bipush 14, 2) := by decide +kernel
theorem d2_77 : decode cX2_init 77 = .ok (.newarray .int, 2) := by decide +kernel
theorem d2_79 : decode cX2_init 79 = .ok (.putfield 46, 3) := by decide +kernel
theorem d2_82 : decode cX2_init 82 = .ok (.aload_n 0, 1) := by decide +kernel
theorem d2_83 : decode cX2_init 83 = .ok (.bipush 14, 2) := by decide +kernel
theorem d2_85 : decode cX2_init 85 = .ok (.newarray .int, 2) := by decide +kernel
theorem d2_87 : decode cX2_init 87 = .ok (.putfield 49, 3) := by decide +kernel
theorem d2_90 : decode cX2_init 90 = .ok (.aload_n 0, 1) := by decide +kernel
theorem d2_91 : decode cX2_init 91 = .ok (.bipush 14, 2) := by decide +kernel
theorem d2_93 : decode cX2_init 93 = .ok (.newarray .int, 2) := by decide +kernel
theorem d2_95 : decode cX2_init 95 = .ok (.putfield 52, 3) := by decide +kernel
theorem d2_98 : decode cX2_init 98 = .ok (.return_, 1) := by decide +kernel
set_option maxHeartbeats 8000000 in
set_option maxRecDepth 4096 in
theorem mk_2 (l : Launch) (E : En) (z h0 : Nat) : Mk l mN2 1 8 112 [.ref h0] E z [(h0, .inr (2, defN 2))] [(h0, .inr (2, [.int 0, .int 0, .int 0, .int 0, .int 0, .int 0, .ref (z + 0), .ref (z + 1), .ref (z + 2), .ref (z + 3), .ref (z + 4), .ref (z + 5), .ref (z + 6), .ref (z + 7)])), (z + 0, .inl (E.tc 0, 14, zaN 0)), (z + 1, .inl (E.tc 0, 14, zaN 0)), (z + 2, .inl (E.tc 0, 14, zaN 0)), (z + 3, .inl (E.tc 0, 14, zaN 0)), (z + 4, .inl (E.tc 0, 14, zaN 0)), (z + 5, .inl (E.tc 0, 14, zaN 0)), (z + 6, .inl (E.tc 0, 14, zaN 0)), (z + 7, .inl (E.tc 0, 14, zaN 0))] := by
  refine Mk.of [.ref h0] (by decide +kernel) (Nat.le_of_ble_eq_true rfl) rfl ?_
  intro p e s m args below meth c ls C V hP hD hS
  have hW : PD E (va_A [(h0, .inr (2, defN 2))] z) [(h0, .inr (2, [.int 0, .int 0, .int 0, .int 0, .int 0, .int 0, .null, .null, .null, .null, .null, .null, .null, .null]))] s.heap := ⟨hP, hD⟩
  clear hP hD
  refine lv_aload_n C.1 C.2.1 d2_0 rfl (V.atr rfl) ?_
  refine W.objInit C.1 C.2.1 C.2.2.2.2.1 (C.get nol_2) (C.get no_i) (C.get no_c) rfl (V.1.trans C.2.2.2.1.symm) rfl d2_1 (Nat.le_of_ble_eq_true rfl) (Nat.le_of_ble_eq_true rfl) ?_
  refine lv_aload_n C.1 C.2.1 d2_4 rfl (V.atr rfl) ?_
  refine lv_iconst (v := 0) C.1 C.2.1 d2_5 (by decide) ?_
  refine n_put C hW.1 hW.2 hS 0 2 0 rfl (by decide) (by decide) rfl nf2_9 rfl rfl rfl (Nat.le_of_ble_eq_true rfl) d2_6 (fun H locs hP hD hS => ?_)
  replace hW : PD E (va_A [(h0, .inr (2, defN 2))] z) [(h0, .inr (2, [.int 0, .int 0, .int 0, .int 0, .int 0, .int 0, .null, .null, .null, .null, .null, .null, .null, .null]))] H := ⟨hP, hD⟩
  clear hP hD
  refine lv_aload_n C.1 C.2.1 d2_9 rfl (V.atr rfl) ?_
  refine lv_iconst (v := 0) C.1 C.2.1 d2_10 (by decide) ?_
  refine n_put C hW.1 hW.2 hS 0 2 1 rfl (by decide) (by decide) rfl nf2_15 rfl rfl rfl (Nat.le_of_ble_eq_true rfl) d2_11 (fun H locs hP hD hS => ?_)
  replace hW : PD E (va_A [(h0, .inr (2, defN 2))] z) [(h0, .inr (2, [.int 0, .int 0, .int 0, .int 0, .int 0, .int 0, .null, .null, .null, .null, .null, .null, .null, .null]))] H := ⟨hP, hD⟩
  clear hP hD
  refine lv_aload_n C.1 C.2.1 d2_14 rfl (V.atr rfl) ?_
  refine lv_iconst (v := 0) C.1 C.2.1 d2_15 (by decide) ?_
  refine n_put C hW.1 hW.2 hS 0 2 2 rfl (by decide) (by decide) rfl nf2_18 rfl rfl rfl (Nat.le_of_ble_eq_true rfl) d2_16 (fun H locs hP hD hS => ?_)
  replace hW : PD E (va_A [(h0, .inr (2, defN 2))] z) [(h0, .inr (2, [.int 0, .int 0, .int 0, .int 0, .int 0, .int 0, .null, .null, .null, .null, .null, .null, .null, .null]))] H := ⟨hP, hD⟩
  clear hP hD
  refine lv_aload_n C.1 C.2.1 d2_19 rfl (V.atr rfl) ?_
  refine lv_iconst (v := 0) C.1 C.2.1 d2_20 (by decide) ?_
  refine n_put C hW.1 hW.2 hS 0 2 3 rfl (by decide) (by decide) rfl nf2_21 rfl rfl rfl (Nat.le_of_ble_eq_true rfl) d2_21 (fun H locs hP hD hS => ?_)
  replace hW : PD E (va_A [(h0, .inr (2, defN 2))] z) [(h0, .inr (2, [.int 0, .int 0, .int 0, .int 0, .int 0, .int 0, .null, .null, .null, .null, .null, .null, .null, .null]))] H := ⟨hP, hD⟩
  clear hP hD
  refine lv_aload_n C.1 C.2.1 d2_24 rfl (V.atr rfl) ?_
  refine lv_iconst (v := 0) C.1 C.2.1 d2_25 (by decide) ?_
  refine n_put C hW.1 hW.2 hS 0 2 4 rfl (by decide) (by decide) rfl nf2_24 rfl rfl rfl (Nat.le_of_ble_eq_true rfl) d2_26 (fun H locs hP hD hS => ?_)
  replace hW : PD E (va_A [(h0, .inr (2, defN 2))] z) [(h0, .inr (2, [.int 0, .int 0, .int 0, .int 0, .int 0, .int 0, .null, .null, .null, .null, .null, .null, .null, .null]))] H := ⟨hP, hD⟩
  clear hP hD
  refine lv_aload_n C.1 C.2.1 d2_29 rfl (V.atr rfl) ?_
  refine lv_iconst (v := 0) C.1 C.2.1 d2_30 (by decide) ?_
  refine n_put C hW.1 hW.2 hS 0 2 5 rfl (by decide) (by decide) rfl nf2_27 rfl rfl rfl (Nat.le_of_ble_eq_true rfl) d2_31 (fun H locs hP hD hS => ?_)
  replace hW : PD E (va_A [(h0, .inr (2, defN 2))] z) [(h0, .inr (2, [.int 0, .int 0, .int 0, .int 0, .int 0, .int 0, .null, .null, .null, .null, .null, .null, .null, .null]))] H := ⟨hP, hD⟩
  clear hP hD
  refine lv_aload_n C.1 C.2.1 d2_34 rfl (V.atr rfl) ?_
  refine lv_bipush (v := 14) C.1 C.2.1 d2_35 (by decide) ?_
  refine n_newa C hW.1 hW.2 hS 0 .int rfl rfl (fun _ h => h) (fun _ => rfl) na_int (by decide) (N' := 14) (by decide) (by decide) (c' := 1) rfl (s' := 14) rfl (Nat.le_of_ble_eq_true rfl) (Nat.le_of_ble_eq_true rfl) (Or.inl rfl) d2_37 (fun H hP hD hS => ?_)
  replace hW : PD E (va_A [(h0, .inr (2, defN 2))] z) [(h0, .inr (2, [.int 0, .int 0, .int 0, .int 0, .int 0, .int 0, .null, .null, .null, .null, .null, .null, .null, .null])), (z + 0, .inl (E.tc 0, 14, zaN 0))] H := ⟨hP, hD⟩
  clear hP hD
  refine n_put C hW.1 hW.2 hS 0 2 6 rfl (by decide) (by decide) rfl nf2_30 rfl rfl rfl (Nat.le_of_ble_eq_true rfl) d2_39 (fun H locs hP hD hS => ?_)
  replace hW : PD E (va_A [(h0, .inr (2, defN 2))] z) [(h0, .inr (2, [.int 0, .int 0, .int 0, .int 0, .int 0, .int 0, .ref (z + 0), .null, .null, .null, .null, .null, .null, .null])), (z + 0, .inl (E.tc 0, 14, zaN 0))] H := ⟨hP, hD⟩
  clear hP hD
  refine lv_aload_n C.1 C.2.1 d2_42 rfl (V.atr rfl) ?_
  refine lv_bipush (v := 14) C.1 C.2.1 d2_43 (by decide) ?_
  refine n_newa C hW.1 hW.2 hS 0 .int rfl rfl (fun _ h => h) (fun _ => rfl) na_int (by decide) (N' := 14) (by decide) (by decide) (c' := 2) rfl (s' := 28) rfl (Nat.le_of_ble_eq_true rfl) (Nat.le_of_ble_eq_true rfl) (Or.inr ⟨_, List.mem_of_getElem? (i := 1) rfl⟩) d2_45 (fun H hP hD hS => ?_)
  replace hW : PD E (va_A [(h0, .inr (2, defN 2))] z) [(h0, .inr (2, [.int 0, .int 0, .int 0, .int 0, .int 0, .int 0, .ref (z + 0), .null, .null, .null, .null, .null, .null, .null])), (z + 0, .inl (E.tc 0, 14, zaN 0)), (z + 1, .inl (E.tc 0, 14, zaN 0))] H := ⟨hP, hD⟩
  clear hP hD
  refine n_put C hW.1 hW.2 hS 0 2 7 rfl (by decide) (by decide) rfl nf2_34 rfl rfl rfl (Nat.le_of_ble_eq_true rfl) d2_47 (fun H locs hP hD hS => ?_)
  replace hW : PD E (va_A [(h0, .inr (2, defN 2))] z) [(h0, .inr (2, [.int 0, .int 0, .int 0, .int 0, .int 0, .int 0, .ref (z + 0), .ref (z + 1), .null, .null, .null, .null, .null, .null])), (z + 0, .inl (E.tc 0, 14, zaN 0)), (z + 1, .inl (E.tc 0, 14, zaN 0))] H := ⟨hP, hD⟩
  clear hP hD
  refine lv_aload_n C.1 C.2.1 d2_50 rfl (V.atr rfl) ?_
  refine lv_bipush (v := 14) C.1 C.2.1 d2_51 (by decide) ?_
  refine n_newa C hW.1 hW.2 hS 0 .int rfl rfl (fun _ h => h) (fun _ => rfl) na_int (by decide) (N' := 14) (by decide) (by decide) (c' := 3) rfl (s' := 42) rfl (Nat.le_of_ble_eq_true rfl) (Nat.le_of_ble_eq_true rfl) (Or.inr ⟨_, List.mem_of_getElem? (i := 2) rfl⟩) d2_53 (fun H hP hD hS => ?_)
  replace hW : PD E (va_A [(h0, .inr (2, defN 2))] z) [(h0, .inr (2, [.int 0, .int 0, .int 0, .int 0, .int 0, .int 0, .ref (z + 0), .ref (z + 1), .null, .null, .null, .null, .null, .null])), (z + 0, .inl (E.tc 0, 14, zaN 0)), (z + 1, .inl (E.tc 0, 14, zaN 0)), (z + 2, .inl (E.tc 0, 14, zaN 0))] H := ⟨hP, hD⟩
  clear hP hD
  refine n_put C hW.1 hW.2 hS 0 2 8 rfl (by decide) (by decide) rfl nf2_37 rfl rfl rfl (Nat.le_of_ble_eq_true rfl) d2_55 (fun H locs hP hD hS => ?_)
  replace hW : PD E (va_A [(h0, .inr (2, defN 2))] z) [(h0, .inr (2, [.int 0, .int 0, .int 0, .int 0, .int 0, .int 0, .ref (z + 0), .ref (z + 1), .ref (z + 2), .null, .null, .null, .null, .null])), (z + 0, .inl (E.tc 0, 14, zaN 0)), (z + 1, .inl (E.tc 0, 14, zaN 0)), (z + 2, .inl (E.tc 0, 14, zaN 0))] H := ⟨hP, hD⟩
  clear hP hD
  refine lv_aload_n C.1 C.2.1 d2_58 rfl (V.atr rfl) ?_
  refine lv_bipush (v := 14) C.1 C.2.1 d2_59 (by decide) ?_
  refine n_newa C hW.1 hW.2 hS 0 .int rfl rfl (fun _ h => h) (fun _ => rfl) na_int (by decide) (N' := 14) (by decide) (by decide) (c' := 4) rfl (s' := 56) rfl (Nat.le_of_ble_eq_true rfl) (Nat.le_of_ble_eq_true rfl) (Or.inr ⟨_, List.mem_of_getElem? (i := 3) rfl⟩) d2_61 (fun H hP hD hS => ?_)
  replace hW : PD E (va_A [(h0, .inr (2, defN 2))] z) [(h0, .inr (2, [.int 0, .int 0, .int 0, .int 0, .int 0, .int 0, .ref (z + 0), .ref (z + 1), .ref (z + 2), .null, .null, .null, .null, .null])), (z + 0, .inl (E.tc 0, 14, zaN 0)), (z + 1, .inl (E.tc 0, 14, zaN 0)), (z + 2, .inl (E.tc 0, 14, zaN 0)), (z + 3, .inl (E.tc 0, 14, zaN 0))] H := ⟨hP, hD⟩
  clear hP hD
  refine n_put C hW.1 hW.2 hS 0 2 9 rfl (by decide) (by decide) rfl nf2_40 rfl rfl rfl (Nat.le_of_ble_eq_true rfl) d2_63 (fun H locs hP hD hS => ?_)
  replace hW : PD E (va_A [(h0, .inr (2, defN 2))] z) [(h0, .inr (2, [.int 0, .int 0, .int 0, .int 0, .int 0, .int 0, .ref (z + 0), .ref (z + 1), .ref (z + 2), .ref (z + 3), .null, .null, .null, .null])), (z + 0, .inl (E.tc 0, 14, zaN 0)), (z + 1, .inl (E.tc 0, 14, zaN 0)), (z + 2, .inl (E.tc 0, 14, zaN 0)), (z + 3, .inl (E.tc 0, 14, zaN 0))] H := ⟨hP, hD⟩
  clear hP hD
  refine lv_aload_n C.1 C.2.1 d2_66 rfl (V.atr rfl) ?_
  refine lv_bipush (v := 14) C.1 C.2.1 d2_67 (by decide) ?_
  refine n_newa C hW.1 hW.2 hS 0 .int rfl rfl (fun _ h => h) (fun _ => rfl) na_int (by decide) (N' := 14) (by decide) (by decide) (c' := 5) rfl (s' := 70) rfl (Nat.le_of_ble_eq_true rfl) (Nat.le_of_ble_eq_true rfl) (Or.inr ⟨_, List.mem_of_getElem? (i := 4) rfl⟩) d2_69 (fun H hP hD hS => ?_)
  replace hW : PD E (va_A [(h0, .inr (2, defN 2))] z) [(h0, .inr (2, [.int 0, .int 0, .int 0, .int 0, .int 0, .int 0, .ref (z + 0), .ref (z + 1), .ref (z + 2), .ref (z + 3), .null, .null, .null, .null])), (z + 0, .inl (E.tc 0, 14, zaN 0)), (z + 1, .inl (E.tc 0, 14, zaN 0)), (z + 2, .inl (E.tc 0, 14, zaN 0)), (z + 3, .inl (E.tc 0, 14, zaN 0)), (z + 4, .inl (E.tc 0, 14, zaN 0))] H := ⟨hP, hD⟩
  clear hP hD
  refine n_put C hW.1 hW.2 hS 0 2 10 rfl (by decide) (by decide) rfl nf2_43 rfl rfl rfl (Nat.le_of_ble_eq_true rfl) d2_71 (fun H locs hP hD hS => ?_)
  replace hW : PD E (va_A [(h0, .inr (2, defN 2))] z) [(h0, .inr (2, [.int 0, .int 0, .int 0, .int 0, .int 0, .int 0, .ref (z + 0), .ref (z + 1), .ref (z + 2), .ref (z + 3), .ref (z + 4), .null, .null, .null])), (z + 0, .inl (E.tc 0, 14, zaN 0)), (z + 1, .inl (E.tc 0, 14, zaN 0)), (z + 2, .inl (E.tc 0, 14, zaN 0)), (z + 3, .inl (E.tc 0, 14, zaN 0)), (z + 4, .inl (E.tc 0, 14, zaN 0))] H := ⟨hP, hD⟩
  clear hP hD
  refine lv_aload_n C.1 C.2.1 d2_74 rfl (V.atr rfl) ?_
  refine lv_bipush (v := 14) C.1 C.2.1 d2_75 (by decide) ?_
  refine n_newa C hW.1 hW.2 hS 0 .int rfl rfl (fun _ h => h) (fun _ => rfl) na_int (by decide) (N' := 14) (by decide) (by decide) (c' := 6) rfl (s' := 84) rfl (Nat.le_of_ble_eq_true rfl) (Nat.le_of_ble_eq_true rfl) (Or.inr ⟨_, List.mem_of_getElem? (i := 5) rfl⟩) d2_77 (fun H hP hD hS => ?_)
  replace hW : PD E (va_A [(h0, .inr (2, defN 2))] z) [(h0, .inr (2, [.int 0, .int 0, .int 0, .int 0, .int 0, .int 0, .ref (z + 0), .ref (z + 1), .ref (z + 2), .ref (z + 3), .ref (z + 4), .null, .null, .null])), (z + 0, .inl (E.tc 0, 14, zaN 0)), (z + 1, .inl (E.tc 0, 14, zaN 0)), (z + 2, .inl (E.tc 0, 14, zaN 0)), (z + 3, .inl (E.tc 0, 14, zaN 0)), (z + 4, .inl (E.tc 0, 14, zaN 0)), (z + 5, .inl (E.tc 0, 14, zaN 0))] H := ⟨hP, hD⟩
  clear hP hD
  refine n_put C hW.1 hW.2 hS 0 2 11 rfl (by decide) (by decide) rfl nf2_46 rfl rfl rfl (Nat.le_of_ble_eq_true rfl) d2_79 (fun H locs hP hD hS => ?_)
  replace hW : PD E (va_A [(h0, .inr (2, defN 2))] z) [(h0, .inr (2, [.int 0, .int 0, .int 0, .int 0, .int 0, .int 0, .ref (z + 0), .ref (z + 1), .ref (z + 2), .ref (z + 3), .ref (z + 4), .ref (z + 5), .null, .null])), (z + 0, .inl (E.tc 0, 14, zaN 0)), (z + 1, .inl (E.tc 0, 14, zaN 0)), (z + 2, .inl (E.tc 0, 14, zaN 0)), (z + 3, .inl (E.tc 0, 14, zaN 0)), (z + 4, .inl (E.tc 0, 14, zaN 0)), (z + 5, .inl (E.tc 0, 14, zaN 0))] H := ⟨hP, hD⟩
  clear hP hD
  refine lv_aload_n C.1 C.2.1 d2_82 rfl (V.atr rfl) ?_
  refine lv_bipush (v := 14) C.1 C.2.1 d2_83 (by decide) ?_
  refine n_newa C hW.1 hW.2 hS 0 .int rfl rfl (fun _ h => h) (fun _ => rfl) na_int (by decide) (N' := 14) (by decide) (by decide) (c' := 7) rfl (s' := 98) rfl (Nat.le_of_ble_eq_true rfl) (Nat.le_of_ble_eq_true rfl) (Or.inr ⟨_, List.mem_of_getElem? (i := 6) rfl⟩) d2_85 (fun H hP hD hS => ?_)
  replace hW : PD E (va_A [(h0, .inr (2, defN 2))] z) [(h0, .inr (2, [.int 0, .int 0, .int 0, .int 0, .int 0, .int 0, .ref (z + 0), .ref (z + 1), .ref (z + 2), .ref (z + 3), .ref (z + 4), .ref (z + 5), .null, .null])), (z + 0, .inl (E.tc 0, 14, zaN 0)), (z + 1, .inl (E.tc 0, 14, zaN 0)), (z + 2, .inl (E.tc 0, 14, zaN 0)), (z + 3, .inl (E.tc 0, 14, zaN 0)), (z + 4, .inl (E.tc 0, 14, zaN 0)), (z + 5, .inl (E.tc 0, 14, zaN 0)), (z + 6, .inl (E.tc 0, 14, zaN 0))] H := ⟨hP, hD⟩
  clear hP hD
  refine n_put C hW.1 hW.2 hS 0 2 12 rfl (by decide) (by decide) rfl nf2_49 rfl rfl rfl (Nat.le_of_ble_eq_true rfl) d2_87 (fun H locs hP hD hS => ?_)
  replace hW : PD E (va_A [(h0, .inr (2, defN 2))] z) [(h0, .inr (2, [.int 0, .int 0, .int 0, .int 0, .int 0, .int 0, .ref (z + 0), .ref (z + 1), .ref (z + 2), .ref (z + 3), .ref (z + 4), .ref (z + 5), .ref (z + 6), .null])), (z + 0, .inl (E.tc 0, 14, zaN 0)), (z + 1, .inl (E.tc 0, 14, zaN 0)), (z + 2, .inl (E.tc 0, 14, zaN 0)), (z + 3, .inl (E.tc 0, 14, zaN 0)), (z + 4, .inl (E.tc 0, 14, zaN 0)), (z + 5, .inl (E.tc 0, 14, zaN 0)), (z + 6, .inl (E.tc 0, 14, zaN 0))] H := ⟨hP, hD⟩
  clear hP hD
  refine lv_aload_n C.1 C.2.1 d2_90 rfl (V.atr rfl) ?_
  refine lv_bipush (v := 14) C.1 C.2.1 d2_91 (by decide) ?_
  refine n_newa C hW.1 hW.2 hS 0 .int rfl rfl (fun _ h => h) (fun _ => rfl) na_int (by decide) (N' := 14) (by decide) (by decide) (c' := 8) rfl (s' := 112) rfl (Nat.le_of_ble_eq_true rfl) (Nat.le_of_ble_eq_true rfl) (Or.inr ⟨_, List.mem_of_getElem? (i := 7) rfl⟩) d2_93 (fun H hP hD hS => ?_)
  replace hW : PD E (va_A [(h0, .inr (2, defN 2))] z) [(h0, .inr (2, [.int 0, .int 0, .int 0, .int 0, .int 0, .int 0, .ref (z + 0), .ref (z + 1), .ref (z + 2), .ref (z + 3), .ref (z + 4), .ref (z + 5), .ref (z + 6), .null])), (z + 0, .inl (E.tc 0, 14, zaN 0)), (z + 1, .inl (E.tc 0, 14, zaN 0)), (z + 2, .inl (E.tc 0, 14, zaN 0)), (z + 3, .inl (E.tc 0, 14, zaN 0)), (z + 4, .inl (E.tc 0, 14, zaN 0)), (z + 5, .inl (E.tc 0, 14, zaN 0)), (z + 6, .inl (E.tc 0, 14, zaN 0)), (z + 7, .inl (E.tc 0, 14, zaN 0))] H := ⟨hP, hD⟩
  clear hP hD
  refine n_put C hW.1 hW.2 hS 0 2 13 rfl (by decide) (by decide) rfl nf2_52 rfl rfl rfl (Nat.le_of_ble_eq_true rfl) d2_95 (fun H locs hP hD hS => ?_)
  replace hW : PD E (va_A [(h0, .inr (2, defN 2))] z) [(h0, .inr (2, [.int 0, .int 0, .int 0, .int 0, .int 0, .int 0, .ref (z + 0), .ref (z + 1), .ref (z + 2), .ref (z + 3), .ref (z + 4), .ref (z + 5), .ref (z + 6), .ref (z + 7)])), (z + 0, .inl (E.tc 0, 14, zaN 0)), (z + 1, .inl (E.tc 0, 14, zaN 0)), (z + 2, .inl (E.tc 0, 14, zaN 0)), (z + 3, .inl (E.tc 0, 14, zaN 0)), (z + 4, .inl (E.tc 0, 14, zaN 0)), (z + 5, .inl (E.tc 0, 14, zaN 0)), (z + 6, .inl (E.tc 0, 14, zaN 0)), (z + 7, .inl (E.tc 0, 14, zaN 0))] H := ⟨hP, hD⟩
  clear hP hD
  exact W.vret C.1 C.2.1 C.2.2.1 (fun t ht _ => ⟨⟨rfl, by rw [ht]; exact hW.1, hW.2⟩, hS.F ht⟩) hS.2.2 d2_98 C.2.2.2.2.2.2.1
theorem d1_0 : decode cX1_init 0 = .ok (.aload_n 0, 1) := by decide +kernel
theorem d1_1 : decode cX1_init 1 = .ok (.invokespecial 3, 3) := by decide +kernel
theorem d1_4 : decode cX1_init 4 = .ok (.aload_n 0, 1) := by decide +kernel
theorem d1_5 : decode cX1_init 5 = .ok (.iconst 0, 1) := by decide +kernel
theorem d1_6 : decode cX1_init 6 = .ok (.putfield 9, 3) := by decide +kernel
theorem d1_9 : decode cX1_init 9 = .ok (.aload_n 0, 1) := by decide +kernel
theorem d1_10 : decode cX1_init 10 = .ok (.iconst 0, 1) := by decide +kernel
theorem d1_11 : decode cX1_init 11 = .ok (.putfield 15, 3) := by decide +kernel
theorem d1_14 : decode cX1_init 14 = .ok (.aload_n 0, 1) := by decide +kernel
theorem d1_15 : decode cX1_init 15 = .ok (.iconst 0, 1) := by decide +kernel
theorem d1_16 : decode cX1_init 16 = .ok (.putfield 18, 3) := by decide +kernel
theorem d1_19 : decode cX1_init 19 = .ok (.aload_n 0, 1) := by decide +kernel
theorem d1_20 : decode cX1_init 20 = .ok (.iconst 0, 1) := by decide +kernel
theorem d1_21 : decode cX1_init 21 = .ok (.putfield 21, 3) := by decide +kernel
theorem d1_24 : decode cX1_init 24 = .ok (.aload_n 0, 1) := by decide +kernel
theorem d1_25 : decode cX1_init 25 = .ok (.iconst 0, 1) := by decide +kernel
theorem d1_26 : decode cX1_init 26 = .ok (.putfield 24, 3) := by decide +kernel
theorem d1_29 : decode cX1_init 29 = .ok (.aload_n 0, 1) := by decide +kernel
theorem d1_30 : decode cX1_init 30 = .ok (.iconst (-1), 1) := by decide +kernel
theorem d1_31 : decode cX1_init 31 = .ok (.putfield 27, 3) := by decide +kernel
theorem d1_34 : decode cX1_init 34 = .ok (.aload_n 0, 1) := by decide +kernel
theorem d1_35 : decode cX1_init 35 = .ok (.aload_n 1, 1) := by decide +kernel
theorem d1_36 : decode cX1_init 36 = .ok (.putfield 30, 3) := by decide +kernel
theorem d1_39 : decode cX1_init 39 = .ok (.return_, 1) := by decide +kernel
set_option maxHeartbeats 8000000 in
set_option maxRecDepth 4096 in
theorem mk_1 (l : Launch) (E : En) (z h0 : Nat) (ta : Nat) : Mk l mN1 1 0 0 [.ref h0, .ref ta] E z [(h0, .inr (1, defN 1))] [(h0, .inr (1, [.ref ta, .int 0, .int 0, .int 0, .int 0, .int 0, .int (-1)]))] := by
  refine Mk.of [.ref h0, .ref ta] (by decide +kernel) (Nat.le_of_ble_eq_true rfl) rfl ?_
  intro p e s m args below meth c ls C V hP hD hS
  have hW : PD E (va_A [(h0, .inr (1, defN 1))] z) [(h0, .inr (1, [.null, .int 0, .int 0, .int 0, .int 0, .int 0, .int 0]))] s.heap := ⟨hP, hD⟩
  clear hP hD
  refine lv_aload_n C.1 C.2.1 d1_0 rfl (V.atr rfl) ?_
  refine W.objInit C.1 C.2.1 C.2.2.2.2.1 (C.get nol_1) (C.get no_i) (C.get no_c) rfl (V.1.trans C.2.2.2.1.symm) rfl d1_1 (Nat.le_of_ble_eq_true rfl) (Nat.le_of_ble_eq_true rfl) ?_
  refine lv_aload_n C.1 C.2.1 d1_4 rfl (V.atr rfl) ?_
  refine lv_iconst (v := 0) C.1 C.2.1 d1_5 (by decide) ?_
  refine n_put C hW.1 hW.2 hS 0 1 1 rfl (by decide) (by decide) rfl nf1_9 rfl rfl rfl (Nat.le_of_ble_eq_true rfl) d1_6 (fun H locs hP hD hS => ?_)
  replace hW : PD E (va_A [(h0, .inr (1, defN 1))] z) [(h0, .inr (1, [.null, .int 0, .int 0, .int 0, .int 0, .int 0, .int 0]))] H := ⟨hP, hD⟩
  clear hP hD
  refine lv_aload_n C.1 C.2.1 d1_9 rfl (V.atr rfl) ?_
  refine lv_iconst (v := 0) C.1 C.2.1 d1_10 (by decide) ?_
  refine n_put C hW.1 hW.2 hS 0 1 2 rfl (by decide) (by decide) rfl nf1_15 rfl rfl rfl (Nat.le_of_ble_eq_true rfl) d1_11 (fun H locs hP hD hS => ?_)
  replace hW : PD E (va_A [(h0, .inr (1, defN 1))] z) [(h0, .inr (1, [.null, .int 0, .int 0, .int 0, .int 0, .int 0, .int 0]))] H := ⟨hP, hD⟩
  clear hP hD
  refine lv_aload_n C.1 C.2.1 d1_14 rfl (V.atr rfl) ?_
  refine lv_iconst (v := 0) C.1 C.2.1 d1_15 (by decide) ?_
  refine n_put C hW.1 hW.2 hS 0 1 3 rfl (by decide) (by decide) rfl nf1_18 rfl rfl rfl (Nat.le_of_ble_eq_true rfl) d1_16 (fun H locs hP hD hS => ?_)
  replace hW : PD E (va_A [(h0, .inr (1, defN 1))] z) [(h0, .inr (1, [.null, .int 0, .int 0, .int 0, .int 0, .int 0, .int 0]))] H := ⟨hP, hD⟩
  clear hP hD
  refine lv_aload_n C.1 C.2.1 d1_19 rfl (V.atr rfl) ?_
  refine lv_iconst (v := 0) C.1 C.2.1 d1_20 (by decide) ?_
  refine n_put C hW.1 hW.2 hS 0 1 4 rfl (by decide) (by decide) rfl nf1_21 rfl rfl rfl (Nat.le_of_ble_eq_true rfl) d1_21 (fun H locs hP hD hS => ?_)
  replace hW : PD E (va_A [(h0, .inr (1, defN 1))] z) [(h0, .inr (1, [.null, .int 0, .int 0, .int 0, .int 0, .int 0, .int 0]))] H := ⟨hP, hD⟩
  clear hP hD
  refine lv_aload_n C.1 C.2.1 d1_24 rfl (V.atr rfl) ?_
  refine lv_iconst (v := 0) C.1 C.2.1 d1_25 (by decide) ?_
  refine n_put C hW.1 hW.2 hS 0 1 5 rfl (by decide) (by decide) rfl nf1_24 rfl rfl rfl (Nat.le_of_ble_eq_true rfl) d1_26 (fun H locs hP hD hS => ?_)
  replace hW : PD E (va_A [(h0, .inr (1, defN 1))] z) [(h0, .inr (1, [.null, .int 0, .int 0, .int 0, .int 0, .int 0, .int 0]))] H := ⟨hP, hD⟩
  clear hP hD
  refine lv_aload_n C.1 C.2.1 d1_29 rfl (V.atr rfl) ?_
  refine lv_iconst (v := (-1)) C.1 C.2.1 d1_30 (by decide) ?_
  refine n_put C hW.1 hW.2 hS 0 1 6 rfl (by decide) (by decide) rfl nf1_27 rfl rfl rfl (Nat.le_of_ble_eq_true rfl) d1_31 (fun H locs hP hD hS => ?_)
  replace hW : PD E (va_A [(h0, .inr (1, defN 1))] z) [(h0, .inr (1, [.null, .int 0, .int 0, .int 0, .int 0, .int 0, .int (-1)]))] H := ⟨hP, hD⟩
  clear hP hD
  refine lv_aload_n C.1 C.2.1 d1_34 rfl (V.atr rfl) ?_
  refine lv_aload_n C.1 C.2.1 d1_35 rfl (V.atr rfl) ?_
  refine n_put C hW.1 hW.2 hS 0 1 0 rfl (by decide) (by decide) rfl nf1_30 rfl rfl rfl (Nat.le_of_ble_eq_true rfl) d1_36 (fun H locs hP hD hS => ?_)
  replace hW : PD E (va_A [(h0, .inr (1, defN 1))] z) [(h0, .inr (1, [.ref ta, .int 0, .int 0, .int 0, .int 0, .int 0, .int (-1)]))] H := ⟨hP, hD⟩
  clear hP hD
  exact W.vret C.1 C.2.1 C.2.2.1 (fun t ht _ => ⟨⟨rfl, by rw [ht]; exact hW.1, hW.2⟩, hS.F ht⟩) hS.2.2 d1_39 C.2.2.2.2.2.2.1
theorem d4_0 : decode cX4_init 0 = .ok (.aload_n 0, 1) := by decide +kernel
theorem d4_1 : decode cX4_init 1 = .ok (.invokespecial 3, 3) := by decide +kernel
theorem d4_4 : decode cX4_init 4 = .ok (.aload_n 0, 1) := by decide +kernel
theorem d4_5 : decode cX4_init 5 = .ok (.iconst 4, 1) := by decide +kernel
theorem d4_6 : decode cX4_init 6 = .ok (.bipush 60, 2) := by decide +kernel
theorem d4_8 : decode cX4_init 8 = .ok (.multianewarray 11 2, 4) := by decide +kernel
theorem d4_12 : decode cX4_init 12 = .ok (.putfield 13, 3) := by decide +kernel
theorem d4_15 : decode cX4_init 15 = .ok (.aload_n 0, 1) := by decide +kernel
theorem d4_16 : decode cX4_init 16 = .ok (.iconst 4, 1) := by decide +kernel
theorem d4_17 : decode cX4_init 17 = .ok (.newarray .int, 2) := by decide +kernel
theorem d4_19 : decode cX4_init 19 = .ok (.putfield 16, 3) := by decide +kernel
theorem d4_22 : decode cX4_init 22 = .ok (.aload_n 0, 1) := by decide +kernel
theorem d4_23 : decode cX4_init 23 = .ok (.iconst 4, 1) := by decide +kernel
theorem d4_24 : decode cX4_init 24 = .ok (.newarray .int, 2) := by decide +kernel
theorem d4_26 : decode cX4_init 26 = .ok (.putfield 20, 3) := by decide +kernel
theorem d4_29 : decode cX4_init 29 = .ok (.aload_n 0, 1) := by decide +kernel
theorem d4_30 : decode cX4_init 30 = .ok (.getfield 20, 3) := by decide +kernel
theorem d4_33 : decode cX4_init 33 = .ok (.iconst (-1), 1) := by decide +kernel
theorem d4_34 : decode cX4_init 34 = .ok (.invokestatic 23, 3) := by decide +kernel
theorem d4_37 : decode cX4_init 37 = .ok (.return_, 1) := by decide +kernel
set_option maxHeartbeats 8000000 in
set_option maxRecDepth 4096 in
theorem mk_4 (l : Launch) (E : En) (z h0 : Nat) : Mk l mN4 2 7 252 [.ref h0] E z [(h0, .inr (4, defN 4))] [(h0, .inr (4, [.ref (z + 0), .ref (z + 5), .ref (z + 6)])), (z + 0, .inl (E.tc 4, 4, .inr (.inr (.inr (.inr (fun j => some (z + 0 + 1 + j))))))), (z + 0 + 1 + 0, .inl (E.tc 1, 60, zaN 1)), (z + 0 + 1 + 1, .inl (E.tc 1, 60, zaN 1)), (z + 0 + 1 + 2, .inl (E.tc 1, 60, zaN 1)), (z + 0 + 1 + 3, .inl (E.tc 1, 60, zaN 1)), (z + 5, .inl (E.tc 0, 4, zaN 0)), (z + 6, .inl (E.tc 0, 4, .inl zf4))] := by
  refine Mk.of [.ref h0] (by decide +kernel) (Nat.le_of_ble_eq_true rfl) rfl ?_
  intro p e s m args below meth c ls C V hP hD hS
  have hW : PD E (va_A [(h0, .inr (4, defN 4))] z) [(h0, .inr (4, [.null, .null, .null]))] s.heap := ⟨hP, hD⟩
  clear hP hD
  refine lv_aload_n C.1 C.2.1 d4_0 rfl (V.atr rfl) ?_
  refine W.objInit C.1 C.2.1 C.2.2.2.2.1 (C.get nol_4) (C.get no_i) (C.get no_c) rfl (V.1.trans C.2.2.2.1.symm) rfl d4_1 (Nat.le_of_ble_eq_true rfl) (Nat.le_of_ble_eq_true rfl) ?_
  refine lv_aload_n C.1 C.2.1 d4_4 rfl (V.atr rfl) ?_
  refine lv_iconst (v := 4) C.1 C.2.1 d4_5 (by decide) ?_
  refine lv_bipush (v := 60) C.1 C.2.1 d4_6 (by decide) ?_
  refine n_multi (N := 4) (K := 60) C hW.1 hW.2 hS ncl4_11 (by decide) (by decide) (by decide) (by decide) (by decide) (by decide) (by decide) (c' := 5) rfl (s' := 244) rfl (Nat.le_of_ble_eq_true rfl) (Nat.le_of_ble_eq_true rfl) (Or.inl rfl) d4_8 (fun H locs hP hD hS => ?_)
  replace hW : PD E (va_A [(h0, .inr (4, defN 4))] z) [(h0, .inr (4, [.null, .null, .null])), (z + 0, .inl (E.tc 4, 4, .inr (.inr (.inr (.inr (fun j => some (z + 0 + 1 + j))))))), (z + 0 + 1 + 0, .inl (E.tc 1, 60, zaN 1)), (z + 0 + 1 + 1, .inl (E.tc 1, 60, zaN 1)), (z + 0 + 1 + 2, .inl (E.tc 1, 60, zaN 1)), (z + 0 + 1 + 3, .inl (E.tc 1, 60, zaN 1))] H := ⟨hP, hD⟩
  clear hP hD
  refine n_put C hW.1 hW.2 hS 0 4 0 rfl (by decide) (by decide) rfl nf4_13 rfl rfl rfl (Nat.le_of_ble_eq_true rfl) d4_12 (fun H locs hP hD hS => ?_)
  replace hW : PD E (va_A [(h0, .inr (4, defN 4))] z) [(h0, .inr (4, [.ref (z + 0), .null, .null])), (z + 0, .inl (E.tc 4, 4, .inr (.inr (.inr (.inr (fun j => some (z + 0 + 1 + j))))))), (z + 0 + 1 + 0, .inl (E.tc 1, 60, zaN 1)), (z + 0 + 1 + 1, .inl (E.tc 1, 60, zaN 1)), (z + 0 + 1 + 2, .inl (E.tc 1, 60, zaN 1)), (z + 0 + 1 + 3, .inl (E.tc 1, 60, zaN 1))] H := ⟨hP, hD⟩
  clear hP hD
  refine lv_aload_n C.1 C.2.1 d4_15 rfl (V.atr rfl) ?_
  refine lv_iconst (v := 4) C.1 C.2.1 d4_16 (by decide) ?_
  refine n_newa C hW.1 hW.2 hS 0 .int rfl rfl (fun _ h => h) (fun _ => rfl) na_int (by decide) (N' := 4) (by decide) (by decide) (c' := 6) rfl (s' := 248) rfl (Nat.le_of_ble_eq_true rfl) (Nat.le_of_ble_eq_true rfl) (Or.inr ⟨_, List.mem_of_getElem? (i := 5) rfl⟩) d4_17 (fun H hP hD hS => ?_)
  replace hW : PD E (va_A [(h0, .inr (4, defN 4))] z) [(h0, .inr (4, [.ref (z + 0), .null, .null])), (z + 0, .inl (E.tc 4, 4, .inr (.inr (.inr (.inr (fun j => some (z + 0 + 1 + j))))))), (z + 0 + 1 + 0, .inl (E.tc 1, 60, zaN 1)), (z + 0 + 1 + 1, .inl (E.tc 1, 60, zaN 1)), (z + 0 + 1 + 2, .inl (E.tc 1, 60, zaN 1)), (z + 0 + 1 + 3, .inl (E.tc 1, 60, zaN 1)), (z + 5, .inl (E.tc 0, 4, zaN 0))] H := ⟨hP, hD⟩
  clear hP hD
  refine n_put C hW.1 hW.2 hS 0 4 1 rfl (by decide) (by decide) rfl nf4_16 rfl rfl rfl (Nat.le_of_ble_eq_true rfl) d4_19 (fun H locs hP hD hS => ?_)
  replace hW : PD E (va_A [(h0, .inr (4, defN 4))] z) [(h0, .inr (4, [.ref (z + 0), .ref (z + 5), .null])), (z + 0, .inl (E.tc 4, 4, .inr (.inr (.inr (.inr (fun j => some (z + 0 + 1 + j))))))), (z + 0 + 1 + 0, .inl (E.tc 1, 60, zaN 1)), (z + 0 + 1 + 1, .inl (E.tc 1, 60, zaN 1)), (z + 0 + 1 + 2, .inl (E.tc 1, 60, zaN 1)), (z + 0 + 1 + 3, .inl (E.tc 1, 60, zaN 1)), (z + 5, .inl (E.tc 0, 4, zaN 0))] H := ⟨hP, hD⟩
  clear hP hD
  refine lv_aload_n C.1 C.2.1 d4_22 rfl (V.atr rfl) ?_
  refine lv_iconst (v := 4) C.1 C.2.1 d4_23 (by decide) ?_
  refine n_newa C hW.1 hW.2 hS 0 .int rfl rfl (fun _ h => h) (fun _ => rfl) na_int (by decide) (N' := 4) (by decide) (by decide) (c' := 7) rfl (s' := 252) rfl (Nat.le_of_ble_eq_true rfl) (Nat.le_of_ble_eq_true rfl) (Or.inr ⟨_, List.mem_of_getElem? (i := 6) rfl⟩) d4_24 (fun H hP hD hS => ?_)
  replace hW : PD E (va_A [(h0, .inr (4, defN 4))] z) [(h0, .inr (4, [.ref (z + 0), .ref (z + 5), .null])), (z + 0, .inl (E.tc 4, 4, .inr (.inr (.inr (.inr (fun j => some (z + 0 + 1 + j))))))), (z + 0 + 1 + 0, .inl (E.tc 1, 60, zaN 1)), (z + 0 + 1 + 1, .inl (E.tc 1, 60, zaN 1)), (z + 0 + 1 + 2, .inl (E.tc 1, 60, zaN 1)), (z + 0 + 1 + 3, .inl (E.tc 1, 60, zaN 1)), (z + 5, .inl (E.tc 0, 4, zaN 0)), (z + 6, .inl (E.tc 0, 4, zaN 0))] H := ⟨hP, hD⟩
  clear hP hD
  refine n_put C hW.1 hW.2 hS 0 4 2 rfl (by decide) (by decide) rfl nf4_20 rfl rfl rfl (Nat.le_of_ble_eq_true rfl) d4_26 (fun H locs hP hD hS => ?_)
  replace hW : PD E (va_A [(h0, .inr (4, defN 4))] z) [(h0, .inr (4, [.ref (z + 0), .ref (z + 5), .ref (z + 6)])), (z + 0, .inl (E.tc 4, 4, .inr (.inr (.inr (.inr (fun j => some (z + 0 + 1 + j))))))), (z + 0 + 1 + 0, .inl (E.tc 1, 60, zaN 1)), (z + 0 + 1 + 1, .inl (E.tc 1, 60, zaN 1)), (z + 0 + 1 + 2, .inl (E.tc 1, 60, zaN 1)), (z + 0 + 1 + 3, .inl (E.tc 1, 60, zaN 1)), (z + 5, .inl (E.tc 0, 4, zaN 0)), (z + 6, .inl (E.tc 0, 4, zaN 0))] H := ⟨hP, hD⟩
  clear hP hD
  refine lv_aload_n C.1 C.2.1 d4_29 rfl (V.atr rfl) ?_
  refine n_get C hW.1 0 4 2 (by decide) (by decide) nf4_20 rfl rfl d4_30 ?_
  refine lv_iconst (v := (-1)) C.1 C.2.1 d4_33 (by decide) ?_
  refine n_stat (w := [(h0, .inr (4, [.ref (z + 0), .ref (z + 5), .ref (z + 6)])), (z + 0, .inl (E.tc 4, 4, .inr (.inr (.inr (.inr (fun j => some (z + 0 + 1 + j))))))), (z + 0 + 1 + 0, .inl (E.tc 1, 60, zaN 1)), (z + 0 + 1 + 1, .inl (E.tc 1, 60, zaN 1)), (z + 0 + 1 + 2, .inl (E.tc 1, 60, zaN 1)), (z + 0 + 1 + 3, .inl (E.tc 1, 60, zaN 1)), (z + 5, .inl (E.tc 0, 4, zaN 0))]) (h0 := z + 6) (e0 := .inl (E.tc 0, 4, zaN 0)) (e1 := .inl (E.tc 0, 4, .inl zf4)) (new := []) C hW.1 hW.2 hS (mk_fill l E (z + 7) (z + 6)) nfs nfl rfl V.1 rfl (Nat.le_of_ble_eq_true rfl) ⟨Nat.le_of_ble_eq_true rfl, Nat.le_of_ble_eq_true rfl⟩ (c' := 7) rfl (s' := 252) rfl (Nat.le_of_ble_eq_true rfl) (Nat.le_of_ble_eq_true rfl) (Or.inr ⟨_, List.mem_append_right _ List.mem_cons_self⟩) d4_34 (fun H locs hP hD hS => ?_)
  replace hW : PD E (va_A [(h0, .inr (4, defN 4))] z) [(h0, .inr (4, [.ref (z + 0), .ref (z + 5), .ref (z + 6)])), (z + 0, .inl (E.tc 4, 4, .inr (.inr (.inr (.inr (fun j => some (z + 0 + 1 + j))))))), (z + 0 + 1 + 0, .inl (E.tc 1, 60, zaN 1)), (z + 0 + 1 + 1, .inl (E.tc 1, 60, zaN 1)), (z + 0 + 1 + 2, .inl (E.tc 1, 60, zaN 1)), (z + 0 + 1 + 3, .inl (E.tc 1, 60, zaN 1)), (z + 5, .inl (E.tc 0, 4, zaN 0)), (z + 6, .inl (E.tc 0, 4, .inl zf4))] H := ⟨hP, hD⟩
  clear hP hD
  exact W.vret C.1 C.2.1 C.2.2.1 (fun t ht _ => ⟨⟨rfl, by rw [ht]; exact hW.1, hW.2⟩, hS.F ht⟩) hS.2.2 d4_37 C.2.2.2.2.2.2.1
theorem d3_0 : decode cX3_init 0 = .ok (.aload_n 0, 1) := by decide +kernel
theorem d3_1 : decode cX3_init 1 = .ok (.invokespecial 3, 3) := by decide +kernel
theorem d3_4 : decode cX3_init 4 = .ok (.aload_n 0, 1) := by decide +kernel
theorem d3_5 : decode cX3_init 5 = .ok (.iconst 0, 1) := by decide +kernel
theorem d3_6 : decode cX3_init 6 = .ok (.putfield 9, 3) := by decide +kernel
theorem d3_9 : decode cX3_init 9 = .ok (.aload_n 0, 1) := by decide +kernel
theorem d3_10 : decode cX3_init 10 = .ok (.iconst 0, 1) := by decide +kernel
theorem d3_11 : decode cX3_init 11 = .ok (.putfield 15, 3) := by decide +kernel
theorem d3_14 : decode cX3_init 14 = .ok (.aload_n 0, 1) := by decide +kernel
theorem d3_15 : decode cX3_init 15 = .ok (.sipush 16384, 3) := by decide +kernel
theorem d3_18 : decode cX3_init 18 = .ok (.newarray .int, 2) := by decide +kernel
theorem d3_20 : decode cX3_init 20 = .ok (.putfield 18, 3) := by decide +kernel
theorem d3_23 : decode cX3_init 23 = .ok (.aload_n 0, 1) := by decide +kernel
theorem d3_24 : decode cX3_init 24 = .ok (.sipush 16384, 3) := by decide +kernel
theorem d3_27 : decode cX3_init 27 = .ok (.newarray .int, 2) := by decide +kernel
theorem d3_29 : decode cX3_init 29 = .ok (.putfield 22, 3) := by decide +kernel
theorem d3_32 : decode cX3_init 32 = .ok (.aload_n 0, 1) := by decide +kernel
theorem d3_33 : decode cX3_init 33 = .ok (.iconst 0, 1) := by decide +kernel
theorem d3_34 : decode cX3_init 34 = .ok (.putfield 25, 3) := by decide +kernel
theorem d3_37 : decode cX3_init 37 = .ok (.aload_n 0, 1) := by decide +kernel
theorem d3_38 : decode cX3_init 38 = .ok (.iconst 0, 1) := by decide +kernel
theorem d3_39 : decode cX3_init 39 = .ok (.putfield 28, 3) := by decide +kernel
theorem d3_42 : decode cX3_init 42 = .ok (.aload_n 0, 1) := by decide +kernel
theorem d3_43 : decode cX3_init 43 = .ok (.sipush 16384, 3) := by decide +kernel
theorem d3_46 : decode cX3_init 46 = .ok (.newarray .int, 2) := by decide +kernel
theorem d3_48 : decode cX3_init 48 = .ok (.putfield 31, 3) := by decide +kernel
theorem d3_51 : decode cX3_init 51 = .ok (.aload_n 0, 1) := by decide +kernel
theorem d3_52 : decode cX3_init 52 = .ok (.sipush 16384, 3) := by decide +kernel
theorem d3_55 : decode cX3_init 55 = .ok (.newarray .int, 2) := by decide +kernel
theorem d3_57 : decode cX3_init 57 = .ok (.putfield 34, 3) := by decide +kernel
theorem d3_60 : decode cX3_init 60 = .ok (.aload_n 0, 1) := by decide +kernel
theorem d3_61 : decode cX3_init 61 = .ok (.aload_n 1, 1) := by decide +kernel
theorem d3_62 : decode cX3_init 62 = .ok (.putfield 37, 3) := by decide +kernel
theorem d3_65 : decode cX3_init 65 = .ok (.return_, 1) := by decide +kernel
set_option maxHeartbeats 8000000 in
set_option maxRecDepth 4096 in
theorem mk_3 (l : Launch) (E : En) (z h0 : Nat) (sa : Nat) : Mk l mN3 1 4 65536 [.ref h0, .ref sa] E z [(h0, .inr (3, defN 3))] [(h0, .inr (3, [.ref sa, .int 0, .int 0, .ref (z + 0), .ref (z + 1), .int 0, .int 0, .ref (z + 2), .ref (z + 3)])), (z + 0, .inl (E.tc 0, 16384, zaN 0)), (z + 1, .inl (E.tc 0, 16384, zaN 0)), (z + 2, .inl (E.tc 0, 16384, zaN 0)), (z + 3, .inl (E.tc 0, 16384, zaN 0))] := by
  refine Mk.of [.ref h0, .ref sa] (by decide +kernel) (Nat.le_of_ble_eq_true rfl) rfl ?_
  intro p e s m args below meth c ls C V hP hD hS
  have hW : PD E (va_A [(h0, .inr (3, defN 3))] z) [(h0, .inr (3, [.null, .int 0, .int 0, .null, .null, .int 0, .int 0, .null, .null]))] s.heap := ⟨hP, hD⟩
  clear hP hD
  refine lv_aload_n C.1 C.2.1 d3_0 rfl (V.atr rfl) ?_
  refine W.objInit C.1 C.2.1 C.2.2.2.2.1 (C.get nol_3) (C.get no_i) (C.get no_c) rfl (V.1.trans C.2.2.2.1.symm) rfl d3_1 (Nat.le_of_ble_eq_true rfl) (Nat.le_of_ble_eq_true rfl) ?_
  refine lv_aload_n C.1 C.2.1 d3_4 rfl (V.atr rfl) ?_
  refine lv_iconst (v := 0) C.1 C.2.1 d3_5 (by decide) ?_
  refine n_put C hW.1 hW.2 hS 0 3 1 rfl (by decide) (by decide) rfl nf3_9 rfl rfl rfl (Nat.le_of_ble_eq_true rfl) d3_6 (fun H locs hP hD hS => ?_)
  replace hW : PD E (va_A [(h0, .inr (3, defN 3))] z) [(h0, .inr (3, [.null, .int 0, .int 0, .null, .null, .int 0, .int 0, .null, .null]))] H := ⟨hP, hD⟩
  clear hP hD
  refine lv_aload_n C.1 C.2.1 d3_9 rfl (V.atr rfl) ?_
  refine lv_iconst (v := 0) C.1 C.2.1 d3_10 (by decide) ?_
  refine n_put C hW.1 hW.2 hS 0 3 2 rfl (by decide) (by decide) rfl nf3_15 rfl rfl rfl (Nat.le_of_ble_eq_true rfl) d3_11 (fun H locs hP hD hS => ?_)
  replace hW : PD E (va_A [(h0, .inr (3, defN 3))] z) [(h0, .inr (3, [.null, .int 0, .int 0, .null, .null, .int 0, .int 0, .null, .null]))] H := ⟨hP, hD⟩
  clear hP hD
  refine lv_aload_n C.1 C.2.1 d3_14 rfl (V.atr rfl) ?_
  refine lv_sipush (v := 16384) C.1 C.2.1 d3_15 (by decide) ?_
  refine n_newa C hW.1 hW.2 hS 0 .int rfl rfl (fun _ h => h) (fun _ => rfl) na_int (by decide) (N' := 16384) (by decide) (by decide) (c' := 1) rfl (s' := 16384) rfl (Nat.le_of_ble_eq_true rfl) (Nat.le_of_ble_eq_true rfl) (Or.inl rfl) d3_18 (fun H hP hD hS => ?_)
  replace hW : PD E (va_A [(h0, .inr (3, defN 3))] z) [(h0, .inr (3, [.null, .int 0, .int 0, .null, .null, .int 0, .int 0, .null, .null])), (z + 0, .inl (E.tc 0, 16384, zaN 0))] H := ⟨hP, hD⟩
  clear hP hD
  refine n_put C hW.1 hW.2 hS 0 3 3 rfl (by decide) (by decide) rfl nf3_18 rfl rfl rfl (Nat.le_of_ble_eq_true rfl) d3_20 (fun H locs hP hD hS => ?_)
  replace hW : PD E (va_A [(h0, .inr (3, defN 3))] z) [(h0, .inr (3, [.null, .int 0, .int 0, .ref (z + 0), .null, .int 0, .int 0, .null, .null])), (z + 0, .inl (E.tc 0, 16384, zaN 0))] H := ⟨hP, hD⟩
  clear hP hD
  refine lv_aload_n C.1 C.2.1 d3_23 rfl (V.atr rfl) ?_
  refine lv_sipush (v := 16384) C.1 C.2.1 d3_24 (by decide) ?_
  refine n_newa C hW.1 hW.2 hS 0 .int rfl rfl (fun _ h => h) (fun _ => rfl) na_int (by decide) (N' := 16384) (by decide) (by decide) (c' := 2) rfl (s' := 32768) rfl (Nat.le_of_ble_eq_true rfl) (Nat.le_of_ble_eq_true rfl) (Or.inr ⟨_, List.mem_of_getElem? (i := 1) rfl⟩) d3_27 (fun H hP hD hS => ?_)
  replace hW : PD E (va_A [(h0, .inr (3, defN 3))] z) [(h0, .inr (3, [.null, .int 0, .int 0, .ref (z + 0), .null, .int 0, .int 0, .null, .null])), (z + 0, .inl (E.tc 0, 16384, zaN 0)), (z + 1, .inl (E.tc 0, 16384, zaN 0))] H := ⟨hP, hD⟩
  clear hP hD
  refine n_put C hW.1 hW.2 hS 0 3 4 rfl (by decide) (by decide) rfl nf3_22 rfl rfl rfl (Nat.le_of_ble_eq_true rfl) d3_29 (fun H locs hP hD hS => ?_)
  replace hW : PD E (va_A [(h0, .inr (3, defN 3))] z) [(h0, .inr (3, [.null, .int 0, .int 0, .ref (z + 0), .ref (z + 1), .int 0, .int 0, .null, .null])), (z + 0, .inl (E.tc 0, 16384, zaN 0)), (z + 1, .inl (E.tc 0, 16384, zaN 0))] H := ⟨hP, hD⟩
  clear hP hD
  refine lv_aload_n C.1 C.2.1 d3_32 rfl (V.atr rfl) ?_
  refine lv_iconst (v := 0) C.1 C.2.1 d3_33 (by decide) ?_
  refine n_put C hW.1 hW.2 hS 0 3 5 rfl (by decide) (by decide) rfl nf3_25 rfl rfl rfl (Nat.le_of_ble_eq_true rfl) d3_34 (fun H locs hP hD hS => ?_)
  replace hW : PD E (va_A [(h0, .inr (3, defN 3))] z) [(h0, .inr (3, [.null, .int 0, .int 0, .ref (z + 0), .ref (z + 1), .int 0, .int 0, .null, .null])), (z + 0, .inl (E.tc 0, 16384, zaN 0)), (z + 1, .inl (E.tc 0, 16384, zaN 0))] H := ⟨hP, hD⟩
  clear hP hD
  refine lv_aload_n C.1 C.2.1 d3_37 rfl (V.atr rfl) ?_
  refine lv_iconst (v := 0) C.1 C.2.1 d3_38 (by decide) ?_
  refine n_put C hW.1 hW.2 hS 0 3 6 rfl (by decide) (by decide) rfl nf3_28 rfl rfl rfl (Nat.le_of_ble_eq_true rfl) d3_39 (fun H locs hP hD hS => ?_)
  replace hW : PD E (va_A [(h0, .inr (3, defN 3))] z) [(h0, .inr (3, [.null, .int 0, .int 0, .ref (z + 0), .ref (z + 1), .int 0, .int 0, .null, .null])), (z + 0, .inl (E.tc 0, 16384, zaN 0)), (z + 1, .inl (E.tc 0, 16384, zaN 0))] H := ⟨hP, hD⟩
  clear hP hD
  refine lv_aload_n C.1 C.2.1 d3_42 rfl (V.atr rfl) ?_
  refine lv_sipush (v := 16384) C.1 C.2.1 d3_43 (by decide) ?_
  refine n_newa C hW.1 hW.2 hS 0 .int rfl rfl (fun _ h => h) (fun _ => rfl) na_int (by decide) (N' := 16384) (by decide) (by decide) (c' := 3) rfl (s' := 49152) rfl (Nat.le_of_ble_eq_true rfl) (Nat.le_of_ble_eq_true rfl) (Or.inr ⟨_, List.mem_of_getElem? (i := 2) rfl⟩) d3_46 (fun H hP hD hS => ?_)
  replace hW : PD E (va_A [(h0, .inr (3, defN 3))] z) [(h0, .inr (3, [.null, .int 0, .int 0, .ref (z + 0), .ref (z + 1), .int 0, .int 0, .null, .null])), (z + 0, .inl (E.tc 0, 16384, zaN 0)), (z + 1, .inl (E.tc 0, 16384, zaN 0)), (z + 2, .inl (E.tc 0, 16384, zaN 0))] H := ⟨hP, hD⟩
  clear hP hD
  refine n_put C hW.1 hW.2 hS 0 3 7 rfl (by decide) (by decide) rfl nf3_31 rfl rfl rfl (Nat.le_of_ble_eq_true rfl) d3_48 (fun H locs hP hD hS => ?_)
  replace hW : PD E (va_A [(h0, .inr (3, defN 3))] z) [(h0, .inr (3, [.null, .int 0, .int 0, .ref (z + 0), .ref (z + 1), .int 0, .int 0, .ref (z + 2), .null])), (z + 0, .inl (E.tc 0, 16384, zaN 0)), (z + 1, .inl (E.tc 0, 16384, zaN 0)), (z + 2, .inl (E.tc 0, 16384, zaN 0))] H := ⟨hP, hD⟩
  clear hP hD
  refine lv_aload_n C.1 C.2.1 d3_51 rfl (V.atr rfl) ?_
  refine lv_sipush (v := 16384) C.1 C.2.1 d3_52 (by decide) ?_
  refine n_newa C hW.1 hW.2 hS 0 .int rfl rfl (fun _ h => h) (fun _ => rfl) na_int (by decide) (N' := 16384) (by decide) (by decide) (c' := 4) rfl (s' := 65536) rfl (Nat.le_of_ble_eq_true rfl) (Nat.le_of_ble_eq_true rfl) (Or.inr ⟨_, List.mem_of_getElem? (i := 3) rfl⟩) d3_55 (fun H hP hD hS => ?_)
  replace hW : PD E (va_A [(h0, .inr (3, defN 3))] z) [(h0, .inr (3, [.null, .int 0, .int 0, .ref (z + 0), .ref (z + 1), .int 0, .int 0, .ref (z + 2), .null])), (z + 0, .inl (E.tc 0, 16384, zaN 0)), (z + 1, .inl (E.tc 0, 16384, zaN 0)), (z + 2, .inl (E.tc 0, 16384, zaN 0)), (z + 3, .inl (E.tc 0, 16384, zaN 0))] H := ⟨hP, hD⟩
  clear hP hD
  refine n_put C hW.1 hW.2 hS 0 3 8 rfl (by decide) (by decide) rfl nf3_34 rfl rfl rfl (Nat.le_of_ble_eq_true rfl) d3_57 (fun H locs hP hD hS => ?_)
  replace hW : PD E (va_A [(h0, .inr (3, defN 3))] z) [(h0, .inr (3, [.null, .int 0, .int 0, .ref (z + 0), .ref (z + 1), .int 0, .int 0, .ref (z + 2), .ref (z + 3)])), (z + 0, .inl (E.tc 0, 16384, zaN 0)), (z + 1, .inl (E.tc 0, 16384, zaN 0)), (z + 2, .inl (E.tc 0, 16384, zaN 0)), (z + 3, .inl (E.tc 0, 16384, zaN 0))] H := ⟨hP, hD⟩
  clear hP hD
  refine lv_aload_n C.1 C.2.1 d3_60 rfl (V.atr rfl) ?_
  refine lv_aload_n C.1 C.2.1 d3_61 rfl (V.atr rfl) ?_
  refine n_put C hW.1 hW.2 hS 0 3 0 rfl (by decide) (by decide) rfl nf3_37 rfl rfl rfl (Nat.le_of_ble_eq_true rfl) d3_62 (fun H locs hP hD hS => ?_)
  replace hW : PD E (va_A [(h0, .inr (3, defN 3))] z) [(h0, .inr (3, [.ref sa, .int 0, .int 0, .ref (z + 0), .ref (z + 1), .int 0, .int 0, .ref (z + 2), .ref (z + 3)])), (z + 0, .inl (E.tc 0, 16384, zaN 0)), (z + 1, .inl (E.tc 0, 16384, zaN 0)), (z + 2, .inl (E.tc 0, 16384, zaN 0)), (z + 3, .inl (E.tc 0, 16384, zaN 0))] H := ⟨hP, hD⟩
  clear hP hD
  exact W.vret C.1 C.2.1 C.2.2.1 (fun t ht _ => ⟨⟨rfl, by rw [ht]; exact hW.1, hW.2⟩, hS.F ht⟩) hS.2.2 d3_65 C.2.2.2.2.2.2.1
theorem d0_0 : decode cX0_init 0 = .ok (.aload_n 0, 1) := by decide +kernel
theorem d0_1 : decode cX0_init 1 = .ok (.invokespecial 3, 3) := by decide +kernel
theorem d0_4 : decode cX0_init 4 = .ok (.aload_n 0, 1) := by decide +kernel
theorem d0_5 : decode cX0_init 5 = .ok (.sipush 201, 3) := by decide +kernel
theorem d0_8 : decode cX0_init 8 = .ok (.bipush 15, 2) := by decide +kernel
theorem d0_10 : decode cX0_init 10 = .ok (.multianewarray 11 2, 4) := by decide +kernel
theorem d0_14 : decode cX0_init 14 = .ok (.putfield 13, 3) := by decide +kernel
theorem d0_17 : decode cX0_init 17 = .ok (.aload_n 0, 1) := by decide +kernel
theorem d0_18 : decode cX0_init 18 = .ok (.iconst 0, 1) := by decide +kernel
theorem d0_19 : decode cX0_init 19 = .ok (.putfield 16, 3) := by decide +kernel
theorem d0_22 : decode cX0_init 22 = .ok (.aload_n 0, 1) := by decide +kernel
theorem d0_23 : decode cX0_init 23 = .ok (.bipush 65, 2) := by decide +kernel
theorem d0_25 : decode cX0_init 25 = .ok (.newarray .long, 2) := by decide +kernel
theorem d0_27 : decode cX0_init 27 = .ok (.putfield 20, 3) := by decide +kernel
theorem d0_30 : decode cX0_init 30 = .ok (.return_, 1) := by decide +kernel
set_option maxHeartbeats 8000000 in
set_option maxRecDepth 4096 in
theorem mk_0 (l : Launch) (E : En) (z h0 : Nat) : Mk l mN0 1 203 3281 [.ref h0] E z [(h0, .inr (0, defN 0))] ((h0, .inr (0, [.ref (z + 0), .int 0, .ref (z + 202)])) :: (z + 0, .inl (E.tc 4, 201, .inr (.inr (.inr (.inr (fun j => some (z + 0 + 1 + j))))))) :: ((List.range 201).map (fun j => (z + 0 + 1 + j, .inl (E.tc 1, 15, zaN 1))) ++ [(z + 202, .inl (E.tc 1, 65, zaN 1))])) := by
  refine Mk.of [.ref h0] (by decide +kernel) (Nat.le_of_ble_eq_true rfl) rfl ?_
  intro p e s m args below meth c ls C V hP hD hS
  have hW : PD E (va_A [(h0, .inr (0, defN 0))] z) [(h0, .inr (0, [.null, .int 0, .null]))] s.heap := ⟨hP, hD⟩
  clear hP hD
  refine lv_aload_n C.1 C.2.1 d0_0 rfl (V.atr rfl) ?_
  refine W.objInit C.1 C.2.1 C.2.2.2.2.1 (C.get nol_0) (C.get no_i) (C.get no_c) rfl (V.1.trans C.2.2.2.1.symm) rfl d0_1 (Nat.le_of_ble_eq_true rfl) (Nat.le_of_ble_eq_true rfl) ?_
  refine lv_aload_n C.1 C.2.1 d0_4 rfl (V.atr rfl) ?_
  refine lv_sipush (v := 201) C.1 C.2.1 d0_5 (by decide) ?_
  refine lv_bipush (v := 15) C.1 C.2.1 d0_8 (by decide) ?_
  refine n_multi (N := 201) (K := 15) C hW.1 hW.2 hS ncl0_11 (by decide) (by decide) (by decide) (by decide) (by decide) (by decide) (by decide) (c' := 202) rfl (s' := 3216) rfl (Nat.le_of_ble_eq_true rfl) (Nat.le_of_ble_eq_true rfl) (Or.inl rfl) d0_10 (fun H locs hP hD hS => ?_)
  replace hW : PD E (va_A [(h0, .inr (0, defN 0))] z) ((h0, .inr (0, [.null, .int 0, .null])) :: (z + 0, .inl (E.tc 4, 201, .inr (.inr (.inr (.inr (fun j => some (z + 0 + 1 + j))))))) :: (List.range 201).map (fun j => (z + 0 + 1 + j, .inl (E.tc 1, 15, zaN 1)))) H := ⟨hP, hD⟩
  clear hP hD
  refine n_put C hW.1 hW.2 hS 0 0 0 rfl (by decide) (by decide) rfl nf0_13 rfl rfl rfl (Nat.le_of_ble_eq_true rfl) d0_14 (fun H locs hP hD hS => ?_)
  replace hW : PD E (va_A [(h0, .inr (0, defN 0))] z) ((h0, .inr (0, [.ref (z + 0), .int 0, .null])) :: (z + 0, .inl (E.tc 4, 201, .inr (.inr (.inr (.inr (fun j => some (z + 0 + 1 + j))))))) :: (List.range 201).map (fun j => (z + 0 + 1 + j, .inl (E.tc 1, 15, zaN 1)))) H := ⟨hP, hD⟩
  clear hP hD
  refine lv_aload_n C.1 C.2.1 d0_17 rfl (V.atr rfl) ?_
  refine lv_iconst (v := 0) C.1 C.2.1 d0_18 (by decide) ?_
  refine n_put C hW.1 hW.2 hS 0 0 1 rfl (by decide) (by decide) rfl nf0_16 rfl rfl rfl (Nat.le_of_ble_eq_true rfl) d0_19 (fun H locs hP hD hS => ?_)
  replace hW : PD E (va_A [(h0, .inr (0, defN 0))] z) ((h0, .inr (0, [.ref (z + 0), .int 0, .null])) :: (z + 0, .inl (E.tc 4, 201, .inr (.inr (.inr (.inr (fun j => some (z + 0 + 1 + j))))))) :: (List.range 201).map (fun j => (z + 0 + 1 + j, .inl (E.tc 1, 15, zaN 1)))) H := ⟨hP, hD⟩
  clear hP hD
  refine lv_aload_n C.1 C.2.1 d0_22 rfl (V.atr rfl) ?_
  refine lv_bipush (v := 65) C.1 C.2.1 d0_23 (by decide) ?_
  refine n_newa C hW.1 hW.2 hS 1 .long rfl rfl (fun _ h => h) (fun _ => rfl) na_long (by decide) (N' := 65) (by decide) (by decide) (c' := 203) rfl (s' := 3281) rfl (Nat.le_of_ble_eq_true rfl) (Nat.le_of_ble_eq_true rfl) (Or.inr ⟨_, (by repeat (first | exact List.mem_map.mpr ⟨200, List.mem_range.mpr (by decide), rfl⟩ | apply List.mem_cons_of_mem))⟩) d0_25 (fun H hP hD hS => ?_)
  replace hW : PD E (va_A [(h0, .inr (0, defN 0))] z) ((h0, .inr (0, [.ref (z + 0), .int 0, .null])) :: (z + 0, .inl (E.tc 4, 201, .inr (.inr (.inr (.inr (fun j => some (z + 0 + 1 + j))))))) :: ((List.range 201).map (fun j => (z + 0 + 1 + j, .inl (E.tc 1, 15, zaN 1))) ++ [(z + 202, .inl (E.tc 1, 65, zaN 1))])) H := ⟨hP, hD⟩
  clear hP hD
  refine n_put C hW.1 hW.2 hS 0 0 2 rfl (by decide) (by decide) rfl nf0_20 rfl rfl rfl (Nat.le_of_ble_eq_true rfl) d0_27 (fun H locs hP hD hS => ?_)
  replace hW : PD E (va_A [(h0, .inr (0, defN 0))] z) ((h0, .inr (0, [.ref (z + 0), .int 0, .ref (z + 202)])) :: (z + 0, .inl (E.tc 4, 201, .inr (.inr (.inr (.inr (fun j => some (z + 0 + 1 + j))))))) :: ((List.range 201).map (fun j => (z + 0 + 1 + j, .inl (E.tc 1, 15, zaN 1))) ++ [(z + 202, .inl (E.tc 1, 65, zaN 1))])) H := ⟨hP, hD⟩
  clear hP hD
  exact W.vret C.1 C.2.1 C.2.2.1 (fun t ht _ => ⟨⟨rfl, by rw [ht]; exact hW.1, hW.2⟩, hS.F ht⟩) hS.2.2 d0_30 C.2.2.2.2.2.2.1
