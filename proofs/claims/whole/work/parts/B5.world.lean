/-! ===== the world behind both constructors (lists printed by gen/mkctor.py) ===== -/
def alZ (k : Nat) : Nat := if k < 18 then k + 3 else if k < 45 then k + 222 else if k < 66 then (match k with | 45 => 0 | 46 => 1 | 47 => 21 | 48 => 22 | 49 => 2 | 50 => 23 | 51 => 24 | 52 => 25 | 53 => 26 | 54 => 27 | 55 => 28 | 56 => 29 | 57 => 30 | 58 => 31 | 59 => 32 | 60 => 33 | 61 => 34 | 62 => 35 | 63 => 36 | 64 => 239 | _ => 37) else if k < 267 then k - 28 else k
def laZ (a : Nat) : Nat := match a with
  | 0 => 45
  | 1 => 46
  | 2 => 49
  | 21 => 47
  | 22 => 48
  | 23 => 50
  | 24 => 51
  | 25 => 52
  | 26 => 53
  | 27 => 54
  | 28 => 55
  | 29 => 56
  | 30 => 57
  | 31 => 58
  | 32 => 59
  | 33 => 60
  | 34 => 61
  | 35 => 62
  | 36 => 63
  | 37 => 65
  | 239 => 64
  | a => if a < 21 then a - 3 else if a < 239 then a + 28 else if a < 267 then a - 222 else a
theorem laZ_al : ∀ k, k < 290 → laZ (alZ k) = k := by decide +kernel
def EZ (D : va_G) (tc : Nat → ClassId) (z : Nat) (aK aV : Nat → Nat) : En := (D.1, D.2, fun k => if k < 290 then z + alZ k else if k < 1100 then aK (k - 1000) else aV (k - 1100), tc)
theorem EZ_DD (D : va_G) (tc : Nat → ClassId) (z : Nat) (aK aV : Nat → Nat) : DD ΛZ (EZ D tc z aK aV) := by
  intro i j hi hj h
  have h1 : (EZ D tc z aK aV).ad i = z + alZ i := if_pos hi
  have h2 : (EZ D tc z aK aV).ad j = z + alZ j := if_pos hj
  rw [h1, h2] at h
  have h3 : alZ i = alZ j := by omega
  rw [← laZ_al i hi, h3, laZ_al j hj]
/-- the numbers behind both constructors -/
def wZ0 : Wd := (fun k j => if k = 45 ∧ j = 3 then -1 else if k = 49 ∧ j = 6 then -1 else if k = 267 ∧ (j = 15 ∨ j = 28) then -1 else 0, fun _ _ => 0, fun k => if k = 57 ∨ k = 268 then zf4 else fun _ => 0, fun _ _ => 0, fun j => match j with | 3 => 59 | 4 => 60 | 7 => 61 | 8 => 62 | _ => 0)
def wP5 (E : En) (z : Nat) : va_W := [(z + 0, .inr (5, [.ref (z + 1), .int 0, .int 0, .int (-1), .ref (z + 2), .ref (z + 3), .ref (z + 12), .ref (z + 21), .ref (z + 22), .ref (z + 23), .ref (z + 31), .ref (z + 36)])), (z + 1, .inl (E.tc 2, 1600, zaN 2)), (z + 2, .inr (1, [.ref (z + 1), .int 0, .int 0, .int 0, .int 0, .int 0, .int (-1)])), (z + 3, .inr (2, [.int 0, .int 0, .int 0, .int 0, .int 0, .int 0, .ref (z + 4), .ref (z + 5), .ref (z + 6), .ref (z + 7), .ref (z + 8), .ref (z + 9), .ref (z + 10), .ref (z + 11)])), (z + 4, .inl (E.tc 0, 14, zaN 0)), (z + 5, .inl (E.tc 0, 14, zaN 0)), (z + 6, .inl (E.tc 0, 14, zaN 0)), (z + 7, .inl (E.tc 0, 14, zaN 0)), (z + 8, .inl (E.tc 0, 14, zaN 0)), (z + 9, .inl (E.tc 0, 14, zaN 0)), (z + 10, .inl (E.tc 0, 14, zaN 0)), (z + 11, .inl (E.tc 0, 14, zaN 0)), (z + 12, .inr (2, [.int 0, .int 0, .int 0, .int 0, .int 0, .int 0, .ref (z + 13), .ref (z + 14), .ref (z + 15), .ref (z + 16), .ref (z + 17), .ref (z + 18), .ref (z + 19), .ref (z + 20)])), (z + 13, .inl (E.tc 0, 14, zaN 0)), (z + 14, .inl (E.tc 0, 14, zaN 0)), (z + 15, .inl (E.tc 0, 14, zaN 0)), (z + 16, .inl (E.tc 0, 14, zaN 0)), (z + 17, .inl (E.tc 0, 14, zaN 0)), (z + 18, .inl (E.tc 0, 14, zaN 0)), (z + 19, .inl (E.tc 0, 14, zaN 0)), (z + 20, .inl (E.tc 0, 14, zaN 0)), (z + 21, .inl (E.tc 5, 3, .inr (.inr (.inr (.inr (va_up (va_up (va_up (fun _ => none) 0 (some (z + 240))) 1 (some (z + 249))) 2 (some (z + 258)))))))), (z + 22, .inl (E.tc 3, 3, zaN 3)), (z + 23, .inr (4, [.ref (z + 24), .ref (z + 29), .ref (z + 30)])), (z + 24, .inl (E.tc 4, 4, .inr (.inr (.inr (.inr (fun j => some (z + 24 + 1 + j))))))), (z + 25, .inl (E.tc 1, 60, zaN 1)), (z + 26, .inl (E.tc 1, 60, zaN 1)), (z + 27, .inl (E.tc 1, 60, zaN 1)), (z + 28, .inl (E.tc 1, 60, zaN 1)), (z + 29, .inl (E.tc 0, 4, zaN 0)), (z + 30, .inl (E.tc 0, 4, .inl zf4)), (z + 31, .inr (3, [.ref (z + 3), .int 0, .int 0, .ref (z + 32), .ref (z + 33), .int 0, .int 0, .ref (z + 34), .ref (z + 35)])), (z + 32, .inl (E.tc 0, 16384, zaN 0)), (z + 33, .inl (E.tc 0, 16384, zaN 0)), (z + 34, .inl (E.tc 0, 16384, zaN 0)), (z + 35, .inl (E.tc 0, 16384, zaN 0)), (z + 36, .inr (0, [.ref (z + 37), .int 0, .ref (z + 239)])), (z + 37, .inl (E.tc 4, 201, .inr (.inr (.inr (.inr (fun j => some (z + 37 + 1 + j)))))))]
def wM5 (E : En) (z : Nat) : va_W := (List.range 201).map (fun j => (z + 37 + 1 + j, .inl (E.tc 1, 15, zaN 1)))
def wT5 (E : En) (z : Nat) : va_W := [(z + 239, .inl (E.tc 1, 65, zaN 1))]
def wS1 (E : En) (z : Nat) : va_W := [(z + 240, .inr (2, [.int 0, .int 0, .int 0, .int 0, .int 0, .int 0, .ref (z + 241), .ref (z + 242), .ref (z + 243), .ref (z + 244), .ref (z + 245), .ref (z + 246), .ref (z + 247), .ref (z + 248)])), (z + 241, .inl (E.tc 0, 14, zaN 0)), (z + 242, .inl (E.tc 0, 14, zaN 0)), (z + 243, .inl (E.tc 0, 14, zaN 0)), (z + 244, .inl (E.tc 0, 14, zaN 0)), (z + 245, .inl (E.tc 0, 14, zaN 0)), (z + 246, .inl (E.tc 0, 14, zaN 0)), (z + 247, .inl (E.tc 0, 14, zaN 0)), (z + 248, .inl (E.tc 0, 14, zaN 0))]
def wS2 (E : En) (z : Nat) : va_W := [(z + 249, .inr (2, [.int 0, .int 0, .int 0, .int 0, .int 0, .int 0, .ref (z + 250), .ref (z + 251), .ref (z + 252), .ref (z + 253), .ref (z + 254), .ref (z + 255), .ref (z + 256), .ref (z + 257)])), (z + 250, .inl (E.tc 0, 14, zaN 0)), (z + 251, .inl (E.tc 0, 14, zaN 0)), (z + 252, .inl (E.tc 0, 14, zaN 0)), (z + 253, .inl (E.tc 0, 14, zaN 0)), (z + 254, .inl (E.tc 0, 14, zaN 0)), (z + 255, .inl (E.tc 0, 14, zaN 0)), (z + 256, .inl (E.tc 0, 14, zaN 0)), (z + 257, .inl (E.tc 0, 14, zaN 0))]
def wS3 (E : En) (z : Nat) : va_W := [(z + 258, .inr (2, [.int 0, .int 0, .int 0, .int 0, .int 0, .int 0, .ref (z + 259), .ref (z + 260), .ref (z + 261), .ref (z + 262), .ref (z + 263), .ref (z + 264), .ref (z + 265), .ref (z + 266)])), (z + 259, .inl (E.tc 0, 14, zaN 0)), (z + 260, .inl (E.tc 0, 14, zaN 0)), (z + 261, .inl (E.tc 0, 14, zaN 0)), (z + 262, .inl (E.tc 0, 14, zaN 0)), (z + 263, .inl (E.tc 0, 14, zaN 0)), (z + 264, .inl (E.tc 0, 14, zaN 0)), (z + 265, .inl (E.tc 0, 14, zaN 0)), (z + 266, .inl (E.tc 0, 14, zaN 0))]
def wR6 (E : En) (z : Nat) : va_W := [(z + 267, .inr (6, [.int 0, .ref (z + 268), .ref (z + 269), .ref (z + 270), .ref (z + 271), .ref (z + 272), .int 0, .int 0, .int 0, .int 0, .int 0, .long 0, .int 0, .int 0, .int 0, .int (-1), .ref (z + 273), .ref (z + 274), .ref (z + 275), .ref (z + 276), .ref (z + 277), .ref (z + 278), .ref (z + 279), .ref (z + 280), .ref (z + 281), .ref (z + 282), .int 0, .ref (z + 283), .int (-1), .ref (z + 284), .ref (z + 285), .ref (z + 286), .ref (z + 287), .ref (z + 288), .long 0, .int 0, .long 0, .ref (z + 289), .int 0, .int 0])), (z + 268, .inl (E.tc 0, 4, .inl (upd (upd (upd (upd (fun _ => 0) 0 (-1)) 1 (-1)) 2 (-1)) 3 (-1)))), (z + 269, .inl (E.tc 0, 4, zaN 0)), (z + 270, .inl (E.tc 1, 240, zaN 1)), (z + 271, .inl (E.tc 1, 60, zaN 1)), (z + 272, .inl (E.tc 2, 1600, zaN 2)), (z + 273, .inl (E.tc 0, 6, zaN 0)), (z + 274, .inl (E.tc 0, 6, zaN 0)), (z + 275, .inl (E.tc 0, 24, zaN 0)), (z + 276, .inl (E.tc 0, 252, zaN 0)), (z + 277, .inl (E.tc 0, 84, zaN 0)), (z + 278, .inl (E.tc 3, 3, zaN 3)), (z + 279, .inl (E.tc 0, 14, zaN 0)), (z + 280, .inl (E.tc 0, 14, zaN 0)), (z + 281, .inl (E.tc 0, 16384, zaN 0)), (z + 282, .inl (E.tc 0, 16384, zaN 0)), (z + 283, .inl (E.tc 1, 16384, zaN 1)), (z + 284, .inl (E.tc 0, 16384, zaN 0)), (z + 285, .inl (E.tc 0, 16384, zaN 0)), (z + 286, .inl (E.tc 1, 1365, zaN 1)), (z + 287, .inl (E.tc 1, 3015, zaN 1)), (z + 288, .inl (E.tc 0, 3015, zaN 0)), (z + 289, .inl (E.tc 3, 16384, zaN 3))]
def wA5 (E : En) (z : Nat) : va_W := wP5 E z ++ ((((wM5 E z ++ wT5 E z) ++ wS1 E z) ++ wS2 E z) ++ wS3 E z)
theorem va_P.lft {D : va_G} {cl : List vw_C} {a b : va_W} {H : Heap} (h : va_P D cl (a ++ b) H) : va_P D cl a H := fun k q hk => h k q (by rw [List.getElem?_append_left (List.getElem?_eq_some_iff.mp hk).1]; exact hk)
theorem va_P.rgt {D : va_G} {cl : List vw_C} {a b : va_W} {H : Heap} (h : va_P D cl (a ++ b) H) : va_P D cl b H := fun k q hk => h (a.length + k) q (by rw [List.getElem?_append_right (by omega)]; rw [show a.length + k - a.length = k by omega]; exact hk)
theorem va_at.ext {D : va_G} {cl : List vw_C} {a n : Nat} {cA : ClassId} {f g : Nat → Option Nat} {H : Heap} (h : va_at D cl (a, .inl (cA, n, .inr (.inr (.inr (.inr f))))) H) (hfg : ∀ i, i < n → f i = g i) : va_at D cl (a, .inl (cA, n, .inr (.inr (.inr (.inr g))))) H := by
  have h1 : H[a]? = some (vp_cell cA (n, .inr (.inr (.inr (.inr f))))) := h
  show H[a]? = some (vp_cell cA (n, .inr (.inr (.inr (.inr g)))))
  rw [h1, vp_cell_q, vp_cell_q]
  congr 1
  unfold arrV
  congr 1
  apply Array.ext
  · simp
  · intro j b1 b2
    have hj : j < n := by simpa using b1
    simp [hfg j hj]
set_option maxHeartbeats 8000000 in
set_option maxRecDepth 4096 in
theorem wl_low {D : va_G} {tc : Nat → ClassId} {z : Nat} {aK aV : Nat → Nat} {H : Heap} (h1 : va_P D clz (wP5 (EZ D tc z aK aV) z) H) (h3 : va_P D clz (wT5 (EZ D tc z aK aV) z) H) (h4 : va_P D clz (wS1 (EZ D tc z aK aV) z) H) (h5 : va_P D clz (wS2 (EZ D tc z aK aV) z) H) (h6 : va_P D clz (wS3 (EZ D tc z aK aV) z) H) : ∀ k, k < 66 → k ≠ 47 → k ≠ 51 → k ≠ 65 → va_at D clz ((EZ D tc z aK aV).ad k, cE ΛZ (EZ D tc z aK aV) wZ0 k) H := by
  intro k hk n1 n2 n3
  match k, hk with
  | 47, _ => exact absurd rfl n1
  | 51, _ => exact absurd rfl n2
  | 65, _ => exact absurd rfl n3
  | 0, _ => exact h1 3 _ rfl
  | 1, _ => exact h1 4 _ rfl
  | 2, _ => exact h1 5 _ rfl
  | 3, _ => exact h1 6 _ rfl
  | 4, _ => exact h1 7 _ rfl
  | 5, _ => exact h1 8 _ rfl
  | 6, _ => exact h1 9 _ rfl
  | 7, _ => exact h1 10 _ rfl
  | 8, _ => exact h1 11 _ rfl
  | 9, _ => exact h1 12 _ rfl
  | 10, _ => exact h1 13 _ rfl
  | 11, _ => exact h1 14 _ rfl
  | 12, _ => exact h1 15 _ rfl
  | 13, _ => exact h1 16 _ rfl
  | 14, _ => exact h1 17 _ rfl
  | 15, _ => exact h1 18 _ rfl
  | 16, _ => exact h1 19 _ rfl
  | 17, _ => exact h1 20 _ rfl
  | 18, _ => exact h4 0 _ rfl
  | 19, _ => exact h4 1 _ rfl
  | 20, _ => exact h4 2 _ rfl
  | 21, _ => exact h4 3 _ rfl
  | 22, _ => exact h4 4 _ rfl
  | 23, _ => exact h4 5 _ rfl
  | 24, _ => exact h4 6 _ rfl
  | 25, _ => exact h4 7 _ rfl
  | 26, _ => exact h4 8 _ rfl
  | 27, _ => exact h5 0 _ rfl
  | 28, _ => exact h5 1 _ rfl
  | 29, _ => exact h5 2 _ rfl
  | 30, _ => exact h5 3 _ rfl
  | 31, _ => exact h5 4 _ rfl
  | 32, _ => exact h5 5 _ rfl
  | 33, _ => exact h5 6 _ rfl
  | 34, _ => exact h5 7 _ rfl
  | 35, _ => exact h5 8 _ rfl
  | 36, _ => exact h6 0 _ rfl
  | 37, _ => exact h6 1 _ rfl
  | 38, _ => exact h6 2 _ rfl
  | 39, _ => exact h6 3 _ rfl
  | 40, _ => exact h6 4 _ rfl
  | 41, _ => exact h6 5 _ rfl
  | 42, _ => exact h6 6 _ rfl
  | 43, _ => exact h6 7 _ rfl
  | 44, _ => exact h6 8 _ rfl
  | 45, _ => exact h1 0 _ rfl
  | 46, _ => exact h1 1 _ rfl
  | 48, _ => exact h1 22 _ rfl
  | 49, _ => exact h1 2 _ rfl
  | 50, _ => exact h1 23 _ rfl
  | 52, _ => exact h1 25 _ rfl
  | 53, _ => exact h1 26 _ rfl
  | 54, _ => exact h1 27 _ rfl
  | 55, _ => exact h1 28 _ rfl
  | 56, _ => exact h1 29 _ rfl
  | 57, _ => exact h1 30 _ rfl
  | 58, _ => exact h1 31 _ rfl
  | 59, _ => exact h1 32 _ rfl
  | 60, _ => exact h1 33 _ rfl
  | 61, _ => exact h1 34 _ rfl
  | 62, _ => exact h1 35 _ rfl
  | 63, _ => exact h1 36 _ rfl
  | 64, _ => exact h3 0 _ rfl
  | k + 66, hk => omega
set_option maxHeartbeats 8000000 in
set_option maxRecDepth 4096 in
theorem wl_high {D : va_G} {tc : Nat → ClassId} {z : Nat} {aK aV : Nat → Nat} {H : Heap} (h7 : va_P D clz (wR6 (EZ D tc z aK aV) z) H) : ∀ k, 267 ≤ k → k < 290 → va_at D clz ((EZ D tc z aK aV).ad k, cE ΛZ (EZ D tc z aK aV) wZ0 k) H := by
  intro k hk0 hk
  obtain ⟨j, rfl⟩ : ∃ j, k = 267 + j := ⟨k - 267, by omega⟩
  have hj : j < 23 := by omega
  clear hk0 hk
  match j, hj with
  | 0, _ => exact h7 0 _ rfl
  | 1, _ => exact h7 1 _ rfl
  | 2, _ => exact h7 2 _ rfl
  | 3, _ => exact h7 3 _ rfl
  | 4, _ => exact h7 4 _ rfl
  | 5, _ => exact h7 5 _ rfl
  | 6, _ => exact h7 6 _ rfl
  | 7, _ => exact h7 7 _ rfl
  | 8, _ => exact h7 8 _ rfl
  | 9, _ => exact h7 9 _ rfl
  | 10, _ => exact h7 10 _ rfl
  | 11, _ => exact h7 11 _ rfl
  | 12, _ => exact h7 12 _ rfl
  | 13, _ => exact h7 13 _ rfl
  | 14, _ => exact h7 14 _ rfl
  | 15, _ => exact h7 15 _ rfl
  | 16, _ => exact h7 16 _ rfl
  | 17, _ => exact h7 17 _ rfl
  | 18, _ => exact h7 18 _ rfl
  | 19, _ => exact h7 19 _ rfl
  | 20, _ => exact h7 20 _ rfl
  | 21, _ => exact h7 21 _ rfl
  | 22, _ => exact h7 22 _ rfl
  | j + 23, hj => omega
theorem wl_47 {D : va_G} {tc : Nat → ClassId} {z : Nat} {aK aV : Nat → Nat} {H : Heap} (h1 : va_P D clz (wP5 (EZ D tc z aK aV) z) H) : va_at D clz ((EZ D tc z aK aV).ad 47, cE ΛZ (EZ D tc z aK aV) wZ0 47) H := by
  refine va_at.ext (h1 21 _ rfl) (fun i hi => ?_)
  match i, hi with
  | 0, _ => rfl
  | 1, _ => rfl
  | 2, _ => rfl
  | i + 3, hi => omega
theorem wl_51 {D : va_G} {tc : Nat → ClassId} {z : Nat} {aK aV : Nat → Nat} {H : Heap} (h1 : va_P D clz (wP5 (EZ D tc z aK aV) z) H) : va_at D clz ((EZ D tc z aK aV).ad 51, cE ΛZ (EZ D tc z aK aV) wZ0 51) H := by
  refine va_at.ext (h1 24 _ rfl) (fun i hi => ?_)
  match i, hi with
  | 0, _ => rfl
  | 1, _ => rfl
  | 2, _ => rfl
  | 3, _ => rfl
  | i + 4, hi => omega
theorem alZ_66 {i : Nat} (hi : i < 201) : alZ (66 + i) = 38 + i := by
  unfold alZ
  rw [if_neg (by omega), if_neg (by omega), if_neg (by omega), if_pos (by omega)]
  omega
theorem wl_65 {D : va_G} {tc : Nat → ClassId} {z : Nat} {aK aV : Nat → Nat} {H : Heap} (h1 : va_P D clz (wP5 (EZ D tc z aK aV) z) H) : va_at D clz ((EZ D tc z aK aV).ad 65, cE ΛZ (EZ D tc z aK aV) wZ0 65) H := by
  refine va_at.ext (h1 37 _ rfl) (fun i hi => ?_)
  have e : (EZ D tc z aK aV).ad (66 + i) = z + alZ (66 + i) := if_pos (by omega)
  show some _ = some ((EZ D tc z aK aV).ad (66 + i))
  rw [e, alZ_66 hi]
  congr 1
  omega
theorem wl_row {D : va_G} {tc : Nat → ClassId} {z : Nat} {aK aV : Nat → Nat} {H : Heap} (h2 : va_P D clz (wM5 (EZ D tc z aK aV) z) H) {k : Nat} (hk1 : 66 ≤ k) (hk2 : k < 267) : va_at D clz ((EZ D tc z aK aV).ad k, cE ΛZ (EZ D tc z aK aV) wZ0 k) H := by
  obtain ⟨j, rfl⟩ : ∃ j, k = 66 + j := ⟨k - 66, by omega⟩
  have hj : j < 201 := by omega
  have hkd : kd (66 + j) = .inr (1, 15) := by
    unfold kd
    rw [if_neg (by omega)]
    split <;> first | rfl | omega
  have e : (EZ D tc z aK aV).ad (66 + j) = z + alZ (66 + j) := if_pos (by omega)
  have hc : cE ΛZ (EZ D tc z aK aV) wZ0 (66 + j) = .inl (tc 1, 15, zaN 1) := by
    unfold cE
    rw [show ΛZ.2.1 (66 + j) = .inr (1, 15) from hkd]
    rfl
  rw [hc, e, alZ_66 hj]
  have := h2 j (z + (38 + j), .inl (tc 1, 15, zaN 1)) (by
    unfold wM5
    rw [List.getElem?_map, List.getElem?_range hj]
    simp
    constructor
    · omega
    · rfl)
  exact this
theorem wl_all {D : va_G} {tc : Nat → ClassId} {z : Nat} {aK aV : Nat → Nat} {H : Heap} (h : va_P D clz (wA5 (EZ D tc z aK aV) z ++ wR6 (EZ D tc z aK aV) z) H) : va_P D clz (wl ΛZ (EZ D tc z aK aV) wZ0) H := by
  intro k q hk
  obtain ⟨hlt, rfl⟩ := wl_inv hk
  have hlt : k < 290 := hlt
  have h0 := h.lft
  have h1 := h0.lft
  have hr := h0.rgt
  have h6 := hr.rgt
  have h5 := hr.lft.rgt
  have h4 := hr.lft.lft.rgt
  have h3 := hr.lft.lft.lft.rgt
  have h2 := hr.lft.lft.lft.lft
  by_cases a1 : k < 66
  · by_cases n1 : k = 47
    · subst n1; exact wl_47 h1
    by_cases n2 : k = 51
    · subst n2; exact wl_51 h1
    by_cases n3 : k = 65
    · subst n3; exact wl_65 h1
    exact wl_low h1 h3 h4 h5 h6 k a1 n1 n2 n3
  · by_cases a2 : k < 267
    · exact wl_row h2 (by omega) a2
    · exact wl_high h.rgt k (by omega) hlt
