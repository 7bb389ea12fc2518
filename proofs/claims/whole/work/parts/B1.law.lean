/-! ===== the law's cases (the table is printed by gen/mklaw.py) ===== -/
abbrev mLaw : MI := (x, code, 4, ret)
def dcd (pc : Nat) (ins : Instr) (n : Nat) : Bool := match decode code pc with
  | .ok (i, k) => decide (i = ins) && decide (k = n)
  | .error _ => false
theorem dcd_ok {pc n : Nat} {ins : Instr} (h : dcd pc ins n = true) : decode code pc = .ok (ins, n) := by
  unfold dcd at h
  cases hd : decode code pc with
  | error e => rw [hd] at h; cases h
  | ok q =>
    obtain ⟨i, k⟩ := q
    rw [hd] at h
    simp only [Bool.and_eq_true, decide_eq_true_eq] at h
    rw [h.1, h.2]
def ckI (pc k : Nat) : Bool := dcd pc (.aload_n 0) 1 && (dcd (pc + 1) (.iload_n 3) 1 && (dcd (pc + 2) (.iconst (k : Int)) 1 && (dcd (pc + 3) .iadd 1 && (dcd (pc + 4) .iaload 1 && decide (k < 6)))))
/-- an argument's kind: below 10 the number of an int, below 20 (from 10 on) of a truth, else the long -/
def akL (k : Nat) : Nat := if k < 10 then 5 else if k < 20 then 13 else 20
def akC (k : Nat) : Nat := if k < 20 then 1 else 2
def ckK (pc k : Nat) : Bool := if k < 10 then ckI pc k else if k < 20 then ckI pc (k - 10) && (dcd (pc + 5) (.ifCond .eq 7) 3 && (dcd (pc + 8) (.iconst 1) 1 && (dcd (pc + 9) (.goto 4) 3 && dcd (pc + 12) (.iconst 0) 1))) else ckI pc 3 && (dcd (pc + 5) .i2l 1 && (dcd (pc + 6) (.bipush 32) 2 && (dcd (pc + 8) .lshl 1 && (ckI (pc + 9) 4 && (dcd (pc + 14) .i2l 1 && (dcd (pc + 15) (.ldc2_w 238) 3 && (dcd (pc + 18) .land 1 && dcd (pc + 19) .lor 1)))))))
def akS : List Nat → Nat
  | [] => 0
  | k :: r => akL k + akS r
def akN : List Nat → Nat
  | [] => 0
  | k :: r => akC k + akN r
def ckA : Nat → List Nat → Bool
  | _, [] => true
  | pc, k :: r => ckK pc k && ckA (pc + akL k) r
def akV (xs : Nat → Int32) (i k : Nat) : Value := if k < 10 then .int (xs (i + k)) else if k < 20 then .int (bI (decide (¬ xs (i + (k - 10)) = 0))) else .long (((xs (i + 3)).toInt64 <<< ((32 : Int32).toInt64 &&& 63)) ||| ((xs (i + 4)).toInt64 &&& 4294967295))
theorem akV_ct (xs : Nat → Int32) (i : Nat) (ks : List Nat) : ct (ks.map (akV xs i)) = akN ks := by
  induction ks with
  | nil => rfl
  | cons k r ih =>
    simp only [List.map_cons, ct, akN, ih]
    congr 1
    unfold akV akC
    by_cases h1 : k < 10
    · simp [h1, show k < 20 by omega, ctv]
    · by_cases h2 : k < 20
      · simp [h1, h2, ctv]
      · simp [h1, h2, ctv]
theorem akV_pe (ad : Nat → Nat) (xs : Nat → Int32) (i : Nat) (ks : List Nat) : (ks.map (akV xs i)).map (pe ad) = ks.map (akV xs i) := by
  rw [List.map_map]
  congr 1
  funext k
  show pe ad (akV xs i k) = akV xs i k
  unfold akV
  split
  · rfl
  · split <;> rfl
def NoR : Nx → Prop
  | .inl (some (some _, _)) => False
  | _ => True
theorem NoR_sw (y : Int32) (L st : List Value) (w : Wd) (df : Nat) : ∀ ks : List Nat, NoR (swK y L st w df ks)
  | [] => trivial
  | [_] => trivial
  | k :: t :: r => by
    unfold swK
    split
    · exact trivial
    · exact NoR_sw y L st w df r
theorem NoR_ar (a b : Nat) (sp dp n : Int32) (pc : Nat) (L r : List Value) (w : Wd) : NoR (arC a b sp dp n pc L r w) := by
  unfold arC
  repeat' split
  all_goals exact trivial
set_option maxHeartbeats 4000000 in
theorem zst_no {ins : Instr} {a b c : Nat} {lw : List Nat} {pc : Nat} {L st : List Value} {w : Wd} (h1 : ins ≠ .ireturn) (h2 : ins ≠ .lreturn) : NoR (zst ins a b c lw pc L st w) := by
  cases ins <;> simp only [zst]
  all_goals (repeat' split)
  all_goals first
    | exact trivial
    | exact NoR_sw _ _ _ _ _ _
    | exact NoR_ar _ _ _ _ _ _ _ _ _
    | exact absurd rfl h1
    | exact absurd rfl h2
/-- an answer's sort, by the method's type -/
theorem ret_sort : ∀ (f m pc : Nat) (L st : List Value) (w : Wd) (r : Value) (w' : Wd), zrun f m pc L st w = some (some r, w') → ((MT m).2.2.2 = some .long ∧ ∃ y, r = .long y) ∨ (¬ (MT m).2.2.2 = some .long ∧ ∃ y, r = .int y) := by
  intro f
  induction f with
  | zero => intro m pc L st w r w' h; cases h
  | succ f ih =>
    intro m pc L st w r w' h
    rw [zrun] at h
    have hc := ck_all m pc
    cases hz : zop (TT m pc) pc L st w with
    | inl q =>
      simp only [hz] at h
      subst h
      generalize TT m pc = o at hc hz
      obtain ⟨ins, a, b, c, lw⟩ := o
      unfold zop at hz
      simp only at hz
      by_cases e1 : ins = .ireturn
      · subst e1
        simp only [zst] at hz
        have hne : ¬ (Instr.ireturn = Instr.nop) := by decide
        simp only [chk, hne, decide_false, Bool.false_or] at hc
        split at hc
        · rename_i i n hd
          simp only [Bool.and_eq_true, decide_eq_true_eq] at hc
          obtain ⟨h1, h2⟩ := hc
          simp only [chk2, Bool.and_eq_true, decide_eq_true_eq] at h2
          have h3 := h2.2
          refine Or.inr ⟨?_, ?_⟩
          · match c, h3 with
            | 0, h3 => rw [of_decide_eq_true h3]; decide
            | 1, h3 => rw [of_decide_eq_true h3]; decide
            | 2, h3 => rw [of_decide_eq_true h3]; decide
            | c + 3, h3 => rw [of_decide_eq_true h3]; decide
          · split at hz
            · split at hz
              · unfold xR at hz
                cases hz
                exact ⟨_, rfl⟩
              · cases hz
            · cases hz
        · cases hc
      by_cases e2 : ins = .lreturn
      · subst e2
        simp only [zst] at hz
        have hne : ¬ (Instr.lreturn = Instr.nop) := by decide
        simp only [chk, hne, decide_false, Bool.false_or] at hc
        split at hc
        · rename_i i n hd
          simp only [Bool.and_eq_true, decide_eq_true_eq] at hc
          obtain ⟨h1, h2⟩ := hc
          simp only [chk2, Bool.and_eq_true, decide_eq_true_eq] at h2
          refine Or.inl ⟨h2.2, ?_⟩
          split at hz
          · unfold xR at hz
            cases hz
            exact ⟨_, rfl⟩
          · cases hz
        · cases hc
      have := zst_no (a := a) (b := b) (c := c) (lw := lw) (pc := pc) (L := L) (st := st) (w := w) e1 e2
      rw [hz] at this
      exact this.elim
    | inr q =>
      cases q with
      | inl q =>
        obtain ⟨pc', L', st', w1⟩ := q
        simp only [hz] at h
        exact ih _ _ _ _ _ _ _ h
      | inr q =>
        obtain ⟨m', As, pc', L', rest, w1⟩ := q
        simp only [hz] at h
        cases hc2 : zrun f m' 0 (iniL m' As) [] w1 with
        | none => simp [hc2] at h
        | some y =>
          obtain ⟨r1, w2⟩ := y
          simp only [hc2] at h
          exact ih _ _ _ _ _ _ _ h
/-- the cases: where, kinds of the arguments, entries, methods, words, a long answer -/
def lwC : Nat → Nat × List Nat × Nat × Nat × Nat × Nat × Nat × Nat × Bool := fun k => match k with
  | 0 => (272, [1, 2, 3, 4, 5], 13, 17, 99, 176, 340, 1213, false)
  | 1 => (335, [1], 18, 22, 101, 178, 348, 1221, false)
  | 2 => (358, [], 23, 27, 102, 194, 352, 1229, false)
  | 3 => (371, [1], 28, 31, 103, 191, 491, 1225, false)
  | 4 => (394, [1, 2], 32, 36, 109, 206, 495, 1310, false)
  | 5 => (427, [1], 37, 40, 110, 210, 513, 1342, false)
  | 6 => (450, [1], 41, 44, 111, 216, 517, 1359, false)
  | 7 => (473, [1], 45, 48, 112, 217, 545, 1380, false)
  | 8 => (496, [1], 49, 52, 113, 218, 550, 1384, false)
  | 9 => (519, [1], 53, 56, 114, 221, 564, 1396, false)
  | 10 => (542, [1], 57, 60, 115, 226, 573, 1408, false)
  | 11 => (565, [1], 61, 64, 116, 227, 581, 1429, false)
  | 12 => (588, [1, 2], 65, 68, 117, 228, 593, 1433, false)
  | 13 => (621, [1], 69, 72, 119, 229, 598, 1438, false)
  | 14 => (644, [1], 73, 76, 120, 230, 606, 1442, false)
  | 15 => (667, [1], 77, 80, 121, 231, 610, 1446, false)
  | 16 => (690, [], 81, 84, 122, 232, 614, 1450, false)
  | 17 => (703, [1], 85, 88, 123, 236, 618, 1454, false)
  | 18 => (726, [1], 89, 92, 124, 237, 645, 1473, false)
  | 19 => (749, [1], 93, 96, 125, 238, 649, 1477, false)
  | 20 => (772, [1, 12], 97, 101, 128, 248, 657, 1481, false)
  | 21 => (821, [1, 2, 13], 102, 106, 131, 249, 717, 1517, false)
  | 22 => (880, [1, 2, 13], 107, 110, 132, 250, 729, 1525, false)
  | 23 => (939, [1, 2, 13], 111, 114, 133, 251, 733, 1529, false)
  | 24 => (998, [1], 115, 118, 136, 252, 771, 1537, false)
  | 25 => (1021, [1], 119, 122, 137, 253, 783, 1545, false)
  | 26 => (1044, [1, 2], 123, 126, 139, 254, 795, 1549, false)
  | 27 => (1077, [1, 2], 127, 130, 140, 256, 804, 1553, false)
  | 28 => (1110, [1, 2], 131, 134, 141, 257, 817, 1561, false)
  | 29 => (1143, [1], 135, 138, 143, 258, 821, 1565, false)
  | 30 => (1166, [1], 139, 142, 145, 259, 830, 1569, false)
  | 31 => (1189, [1, 2, 13, 4], 143, 147, 134, 261, 757, 1573, false)
  | 32 => (1258, [1, 2, 13], 148, 151, 135, 262, 758, 1577, false)
  | 33 => (1317, [1, 2], 152, 155, 146, 264, 834, 1582, false)
  | 34 => (1350, [1, 2, 3], 156, 160, 147, 265, 842, 1590, false)
  | 35 => (1393, [1, 2], 161, 164, 148, 266, 846, 1594, false)
  | 36 => (1426, [1, 2], 165, 168, 144, 267, 825, 1598, false)
  | 37 => (1459, [1, 2, 13], 169, 172, 129, 268, 713, 1602, false)
  | 38 => (1518, [1], 173, 176, 138, 269, 791, 1607, false)
  | 39 => (1541, [1, 2], 177, 180, 149, 271, 855, 1611, false)
  | 40 => (1574, [], 181, 184, 151, 272, 880, 1619, false)
  | 41 => (1587, [1, 2], 185, 189, 152, 274, 884, 1623, true)
  | 42 => (1621, [1], 190, 193, 153, 275, 909, 1634, false)
  | 43 => (1644, [1, 2], 194, 197, 154, 278, 917, 1638, true)
  | 44 => (1678, [1, 2], 198, 201, 155, 279, 941, 1650, false)
  | 45 => (1711, [1], 202, 205, 156, 280, 950, 1654, false)
  | 46 => (1734, [1, 2], 206, 209, 157, 285, 959, 1658, true)
  | 47 => (1768, [1, 2], 210, 213, 158, 286, 975, 1677, false)
  | 48 => (1801, [1, 2], 214, 217, 159, 291, 983, 1681, false)
  | 49 => (1834, [1, 2], 218, 221, 160, 292, 1006, 1706, false)
  | 50 => (1867, [1], 222, 225, 164, 293, 1010, 1710, false)
  | 51 => (1890, [1], 226, 229, 165, 294, 1031, 1714, false)
  | 52 => (1913, [1], 230, 233, 166, 295, 1035, 1718, false)
  | 53 => (1936, [1, 2, 3], 234, 237, 167, 172, 1039, 1191, false)
  | 54 => (1979, [1, 2, 20], 240, 244, 168, 174, 1048, 1202, false)
  | 55 => (2052, [1, 2, 3, 4, 5], 245, 248, 169, 175, 1055, 1209, false)
  | _ => (0, [], 0, 0, 0, 0, 0, 0, false)
theorem lw_sw : decode code 33 = .ok (.tableswitch 2082 0 55 #[239, 302, 325, 338, 361, 394, 417, 440, 463, 486, 509, 532, 555, 588, 611, 634, 657, 670, 693, 716, 739, 788, 847, 906, 965, 988, 1011, 1044, 1077, 1110, 1133, 1156, 1225, 1284, 1317, 1360, 1393, 1426, 1485, 1508, 1541, 1554, 1588, 1611, 1645, 1678, 1701, 1735, 1768, 1801, 1834, 1857, 1880, 1903, 1946, 2019], 239) := by decide +kernel
def lwO : Array Int := #[239, 302, 325, 338, 361, 394, 417, 440, 463, 486, 509, 532, 555, 588, 611, 634, 657, 670, 693, 716, 739, 788, 847, 906, 965, 988, 1011, 1044, 1077, 1110, 1133, 1156, 1225, 1284, 1317, 1360, 1393, 1426, 1485, 1508, 1541, 1554, 1588, 1611, 1645, 1678, 1701, 1735, 1768, 1801, 1834, 1857, 1880, 1903, 1946, 2019]

