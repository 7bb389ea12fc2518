theorem chk_of {M : MI} {d n : Nat} {T : Nat → Op} (h1 : ∀ pc, n ≤ pc → T pc = opN) (h2 : (List.range n).all (fun pc => chk M d pc (T pc)) = true) (pc : Nat) : chk M d pc (T pc) = true := by
  by_cases h : pc < n
  · exact List.all_eq_true.mp h2 pc (List.mem_range.mpr h)
  · rw [h1 pc (Nat.not_lt.mp h)]
    rfl
theorem nt_0 : ∀ pc, 17 ≤ pc → T_0 pc = opN := by
  intro pc h
  unfold T_0
  rw [if_neg (Nat.not_lt.mpr h)]
set_option maxRecDepth 100000 in
theorem ck_0 : ∀ pc, chk mX0_noHeight 0 pc (T_0 pc) = true := chk_of nt_0 (by decide +kernel)
theorem nt_1 : ∀ pc, 18 ≤ pc → T_1 pc = opN := by
  intro pc h
  unfold T_1
  rw [if_neg (Nat.not_lt.mpr h)]
set_option maxRecDepth 100000 in
theorem ck_1 : ∀ pc, chk mX0_noLength 0 pc (T_1 pc) = true := chk_of nt_1 (by decide +kernel)
theorem nt_2 : ∀ pc, 25 ≤ pc → T_2 pc = opN := by
  intro pc h
  unfold T_2
  rw [if_neg (Nat.not_lt.mpr h)]
set_option maxRecDepth 100000 in
theorem ck_2 : ∀ pc, chk mX0_noChain 1 pc (T_2 pc) = true := chk_of nt_2 (by decide +kernel)
theorem nt_3 : ∀ pc, 25 ≤ pc → T_3 pc = opN := by
  intro pc h
  unfold T_3
  rw [if_neg (Nat.not_lt.mpr h)]
set_option maxRecDepth 100000 in
theorem ck_3 : ∀ pc, chk mX0_noPowers 1 pc (T_3 pc) = true := chk_of nt_3 (by decide +kernel)
theorem nt_4 : ∀ pc, 12 ≤ pc → T_4 pc = opN := by
  intro pc h
  unfold T_4
  rw [if_neg (Nat.not_lt.mpr h)]
set_option maxRecDepth 100000 in
theorem ck_4 : ∀ pc, chk mX0_treeMoves 2 pc (T_4 pc) = true := chk_of nt_4 (by decide +kernel)
theorem nt_5 : ∀ pc, 36 ≤ pc → T_5 pc = opN := by
  intro pc h
  unfold T_5
  rw [if_neg (Nat.not_lt.mpr h)]
set_option maxRecDepth 100000 in
theorem ck_5 : ∀ pc, chk mX0_treeSlates 2 pc (T_5 pc) = true := chk_of nt_5 (by decide +kernel)
theorem nt_6 : ∀ pc, 67 ≤ pc → T_6 pc = opN := by
  intro pc h
  unfold T_6
  rw [if_neg (Nat.not_lt.mpr h)]
set_option maxRecDepth 100000 in
theorem ck_6 : ∀ pc, chk mX0_growTrees 1 pc (T_6 pc) = true := chk_of nt_6 (by decide +kernel)
theorem nt_7 : ∀ pc, 74 ≤ pc → T_7 pc = opN := by
  intro pc h
  unfold T_7
  rw [if_neg (Nat.not_lt.mpr h)]
set_option maxRecDepth 100000 in
theorem ck_7 : ∀ pc, chk mX0_treeAbove 0 pc (T_7 pc) = true := chk_of nt_7 (by decide +kernel)
theorem nt_8 : ∀ pc, 64 ≤ pc → T_8 pc = opN := by
  intro pc h
  unfold T_8
  rw [if_neg (Nat.not_lt.mpr h)]
set_option maxRecDepth 100000 in
theorem ck_8 : ∀ pc, chk mX0_chainMoves 2 pc (T_8 pc) = true := chk_of nt_8 (by decide +kernel)
theorem nt_9 : ∀ pc, 73 ≤ pc → T_9 pc = opN := by
  intro pc h
  unfold T_9
  rw [if_neg (Nat.not_lt.mpr h)]
set_option maxRecDepth 100000 in
theorem ck_9 : ∀ pc, chk mX0_workChain 1 pc (T_9 pc) = true := chk_of nt_9 (by decide +kernel)
theorem nt_10 : ∀ pc, 78 ≤ pc → T_10 pc = opN := by
  intro pc h
  unfold T_10
  rw [if_neg (Nat.not_lt.mpr h)]
set_option maxRecDepth 100000 in
theorem ck_10 : ∀ pc, chk mX0_chainBy 0 pc (T_10 pc) = true := chk_of nt_10 (by decide +kernel)
theorem nt_11 : ∀ pc, 50 ≤ pc → T_11 pc = opN := by
  intro pc h
  unfold T_11
  rw [if_neg (Nat.not_lt.mpr h)]
set_option maxRecDepth 100000 in
theorem ck_11 : ∀ pc, chk mX0_chainMiddle 3 pc (T_11 pc) = true := chk_of nt_11 (by decide +kernel)
theorem nt_12 : ∀ pc, 31 ≤ pc → T_12 pc = opN := by
  intro pc h
  unfold T_12
  rw [if_neg (Nat.not_lt.mpr h)]
set_option maxRecDepth 100000 in
theorem ck_12 : ∀ pc, chk mX0_chainSlates 3 pc (T_12 pc) = true := chk_of nt_12 (by decide +kernel)
theorem nt_13 : ∀ pc, 30 ≤ pc → T_13 pc = opN := by
  intro pc h
  unfold T_13
  rw [if_neg (Nat.not_lt.mpr h)]
set_option maxRecDepth 100000 in
theorem ck_13 : ∀ pc, chk mX0_powerBelow 0 pc (T_13 pc) = true := chk_of nt_13 (by decide +kernel)
theorem nt_14 : ∀ pc, 47 ≤ pc → T_14 pc = opN := by
  intro pc h
  unfold T_14
  rw [if_neg (Nat.not_lt.mpr h)]
set_option maxRecDepth 100000 in
theorem ck_14 : ∀ pc, chk mX0_powerMoves 1 pc (T_14 pc) = true := chk_of nt_14 (by decide +kernel)
theorem nt_15 : ∀ pc, 47 ≤ pc → T_15 pc = opN := by
  intro pc h
  unfold T_15
  rw [if_neg (Nat.not_lt.mpr h)]
set_option maxRecDepth 100000 in
theorem ck_15 : ∀ pc, chk mX0_powerMoves 2 pc (T_15 pc) = true := chk_of nt_15 (by decide +kernel)
theorem nt_16 : ∀ pc, 47 ≤ pc → T_16 pc = opN := by
  intro pc h
  unfold T_16
  rw [if_neg (Nat.not_lt.mpr h)]
set_option maxRecDepth 100000 in
theorem ck_16 : ∀ pc, chk mX0_powerMoves 3 pc (T_16 pc) = true := chk_of nt_16 (by decide +kernel)
theorem nt_17 : ∀ pc, 47 ≤ pc → T_17 pc = opN := by
  intro pc h
  unfold T_17
  rw [if_neg (Nat.not_lt.mpr h)]
set_option maxRecDepth 100000 in
theorem ck_17 : ∀ pc, chk mX0_powerMoves 4 pc (T_17 pc) = true := chk_of nt_17 (by decide +kernel)
theorem nt_18 : ∀ pc, 47 ≤ pc → T_18 pc = opN := by
  intro pc h
  unfold T_18
  rw [if_neg (Nat.not_lt.mpr h)]
set_option maxRecDepth 100000 in
theorem ck_18 : ∀ pc, chk mX0_powerMoves 5 pc (T_18 pc) = true := chk_of nt_18 (by decide +kernel)
theorem nt_19 : ∀ pc, 47 ≤ pc → T_19 pc = opN := by
  intro pc h
  unfold T_19
  rw [if_neg (Nat.not_lt.mpr h)]
set_option maxRecDepth 100000 in
theorem ck_19 : ∀ pc, chk mX0_powerMoves 6 pc (T_19 pc) = true := chk_of nt_19 (by decide +kernel)
theorem nt_20 : ∀ pc, 47 ≤ pc → T_20 pc = opN := by
  intro pc h
  unfold T_20
  rw [if_neg (Nat.not_lt.mpr h)]
set_option maxRecDepth 100000 in
theorem ck_20 : ∀ pc, chk mX0_powerMoves 7 pc (T_20 pc) = true := chk_of nt_20 (by decide +kernel)
theorem nt_21 : ∀ pc, 47 ≤ pc → T_21 pc = opN := by
  intro pc h
  unfold T_21
  rw [if_neg (Nat.not_lt.mpr h)]
set_option maxRecDepth 100000 in
theorem ck_21 : ∀ pc, chk mX0_powerMoves 8 pc (T_21 pc) = true := chk_of nt_21 (by decide +kernel)
theorem nt_22 : ∀ pc, 47 ≤ pc → T_22 pc = opN := by
  intro pc h
  unfold T_22
  rw [if_neg (Nat.not_lt.mpr h)]
set_option maxRecDepth 100000 in
theorem ck_22 : ∀ pc, chk mX0_powerMoves 9 pc (T_22 pc) = true := chk_of nt_22 (by decide +kernel)
theorem nt_23 : ∀ pc, 47 ≤ pc → T_23 pc = opN := by
  intro pc h
  unfold T_23
  rw [if_neg (Nat.not_lt.mpr h)]
set_option maxRecDepth 100000 in
theorem ck_23 : ∀ pc, chk mX0_powerMoves 10 pc (T_23 pc) = true := chk_of nt_23 (by decide +kernel)
theorem nt_24 : ∀ pc, 31 ≤ pc → T_24 pc = opN := by
  intro pc h
  unfold T_24
  rw [if_neg (Nat.not_lt.mpr h)]
set_option maxRecDepth 100000 in
theorem ck_24 : ∀ pc, chk mX0_powerSlates 1 pc (T_24 pc) = true := chk_of nt_24 (by decide +kernel)
theorem nt_25 : ∀ pc, 31 ≤ pc → T_25 pc = opN := by
  intro pc h
  unfold T_25
  rw [if_neg (Nat.not_lt.mpr h)]
set_option maxRecDepth 100000 in
theorem ck_25 : ∀ pc, chk mX0_powerSlates 2 pc (T_25 pc) = true := chk_of nt_25 (by decide +kernel)
theorem nt_26 : ∀ pc, 31 ≤ pc → T_26 pc = opN := by
  intro pc h
  unfold T_26
  rw [if_neg (Nat.not_lt.mpr h)]
set_option maxRecDepth 100000 in
theorem ck_26 : ∀ pc, chk mX0_powerSlates 3 pc (T_26 pc) = true := chk_of nt_26 (by decide +kernel)
theorem nt_27 : ∀ pc, 31 ≤ pc → T_27 pc = opN := by
  intro pc h
  unfold T_27
  rw [if_neg (Nat.not_lt.mpr h)]
set_option maxRecDepth 100000 in
theorem ck_27 : ∀ pc, chk mX0_powerSlates 4 pc (T_27 pc) = true := chk_of nt_27 (by decide +kernel)
theorem nt_28 : ∀ pc, 31 ≤ pc → T_28 pc = opN := by
  intro pc h
  unfold T_28
  rw [if_neg (Nat.not_lt.mpr h)]
set_option maxRecDepth 100000 in
theorem ck_28 : ∀ pc, chk mX0_powerSlates 5 pc (T_28 pc) = true := chk_of nt_28 (by decide +kernel)
theorem nt_29 : ∀ pc, 31 ≤ pc → T_29 pc = opN := by
  intro pc h
  unfold T_29
  rw [if_neg (Nat.not_lt.mpr h)]
set_option maxRecDepth 100000 in
theorem ck_29 : ∀ pc, chk mX0_powerSlates 6 pc (T_29 pc) = true := chk_of nt_29 (by decide +kernel)
theorem nt_30 : ∀ pc, 31 ≤ pc → T_30 pc = opN := by
  intro pc h
  unfold T_30
  rw [if_neg (Nat.not_lt.mpr h)]
set_option maxRecDepth 100000 in
theorem ck_30 : ∀ pc, chk mX0_powerSlates 7 pc (T_30 pc) = true := chk_of nt_30 (by decide +kernel)
theorem nt_31 : ∀ pc, 31 ≤ pc → T_31 pc = opN := by
  intro pc h
  unfold T_31
  rw [if_neg (Nat.not_lt.mpr h)]
set_option maxRecDepth 100000 in
theorem ck_31 : ∀ pc, chk mX0_powerSlates 8 pc (T_31 pc) = true := chk_of nt_31 (by decide +kernel)
theorem nt_32 : ∀ pc, 31 ≤ pc → T_32 pc = opN := by
  intro pc h
  unfold T_32
  rw [if_neg (Nat.not_lt.mpr h)]
set_option maxRecDepth 100000 in
theorem ck_32 : ∀ pc, chk mX0_powerSlates 9 pc (T_32 pc) = true := chk_of nt_32 (by decide +kernel)
theorem nt_33 : ∀ pc, 31 ≤ pc → T_33 pc = opN := by
  intro pc h
  unfold T_33
  rw [if_neg (Nat.not_lt.mpr h)]
set_option maxRecDepth 100000 in
theorem ck_33 : ∀ pc, chk mX0_powerSlates 10 pc (T_33 pc) = true := chk_of nt_33 (by decide +kernel)
theorem nt_34 : ∀ pc, 83 ≤ pc → T_34 pc = opN := by
  intro pc h
  unfold T_34
  rw [if_neg (Nat.not_lt.mpr h)]
set_option maxRecDepth 100000 in
theorem ck_34 : ∀ pc, chk mX1_tell 11 pc (T_34 pc) = true := chk_of nt_34 (by decide +kernel)
theorem nt_35 : ∀ pc, 129 ≤ pc → T_35 pc = opN := by
  intro pc h
  unfold T_35
  rw [if_neg (Nat.not_lt.mpr h)]
set_option maxRecDepth 100000 in
theorem ck_35 : ∀ pc, chk mX1_readLine 10 pc (T_35 pc) = true := chk_of nt_35 (by decide +kernel)
theorem nt_36 : ∀ pc, 83 ≤ pc → T_36 pc = opN := by
  intro pc h
  unfold T_36
  rw [if_neg (Nat.not_lt.mpr h)]
set_option maxRecDepth 100000 in
theorem ck_36 : ∀ pc, chk mX1_readSum 9 pc (T_36 pc) = true := chk_of nt_36 (by decide +kernel)
theorem nt_37 : ∀ pc, 29 ≤ pc → T_37 pc = opN := by
  intro pc h
  unfold T_37
  rw [if_neg (Nat.not_lt.mpr h)]
set_option maxRecDepth 100000 in
theorem ck_37 : ∀ pc, chk mX1_readBy 8 pc (T_37 pc) = true := chk_of nt_37 (by decide +kernel)
theorem nt_38 : ∀ pc, 52 ≤ pc → T_38 pc = opN := by
  intro pc h
  unfold T_38
  rw [if_neg (Nat.not_lt.mpr h)]
set_option maxRecDepth 100000 in
theorem ck_38 : ∀ pc, chk mX1_readNumber 2 pc (T_38 pc) = true := chk_of nt_38 (by decide +kernel)
theorem nt_39 : ∀ pc, 43 ≤ pc → T_39 pc = opN := by
  intro pc h
  unfold T_39
  rw [if_neg (Nat.not_lt.mpr h)]
set_option maxRecDepth 100000 in
theorem ck_39 : ∀ pc, chk mX1_tokenNumber 1 pc (T_39 pc) = true := chk_of nt_39 (by decide +kernel)
theorem nt_40 : ∀ pc, 82 ≤ pc → T_40 pc = opN := by
  intro pc h
  unfold T_40
  rw [if_neg (Nat.not_lt.mpr h)]
set_option maxRecDepth 100000 in
theorem ck_40 : ∀ pc, chk mX1_lineWord 8 pc (T_40 pc) = true := chk_of nt_40 (by decide +kernel)
theorem nt_41 : ∀ pc, 68 ≤ pc → T_41 pc = opN := by
  intro pc h
  unfold T_41
  rw [if_neg (Nat.not_lt.mpr h)]
set_option maxRecDepth 100000 in
theorem ck_41 : ∀ pc, chk mX1_isWord 7 pc (T_41 pc) = true := chk_of nt_41 (by decide +kernel)
theorem nt_42 : ∀ pc, 14 ≤ pc → T_42 pc = opN := by
  intro pc h
  unfold T_42
  rw [if_neg (Nat.not_lt.mpr h)]
set_option maxRecDepth 100000 in
theorem ck_42 : ∀ pc, chk mX1_refuse 0 pc (T_42 pc) = true := chk_of nt_42 (by decide +kernel)
theorem nt_43 : ∀ pc, 168 ≤ pc → T_43 pc = opN := by
  intro pc h
  unfold T_43
  rw [if_neg (Nat.not_lt.mpr h)]
set_option maxRecDepth 100000 in
theorem ck_43 : ∀ pc, chk mX1_advance 1 pc (T_43 pc) = true := chk_of nt_43 (by decide +kernel)
theorem nt_44 : ∀ pc, 40 ≤ pc → T_44 pc = opN := by
  intro pc h
  unfold T_44
  rw [if_neg (Nat.not_lt.mpr h)]
set_option maxRecDepth 100000 in
theorem ck_44 : ∀ pc, chk mX1_kindOf 0 pc (T_44 pc) = true := chk_of nt_44 (by decide +kernel)
theorem nt_45 : ∀ pc, 31 ≤ pc → T_45 pc = opN := by
  intro pc h
  unfold T_45
  rw [if_neg (Nat.not_lt.mpr h)]
set_option maxRecDepth 100000 in
theorem ck_45 : ∀ pc, chk mX2_empty 0 pc (T_45 pc) = true := chk_of nt_45 (by decide +kernel)
theorem nt_46 : ∀ pc, 169 ≤ pc → T_46 pc = opN := by
  intro pc h
  unfold T_46
  rw [if_neg (Nat.not_lt.mpr h)]
set_option maxRecDepth 100000 in
theorem ck_46 : ∀ pc, chk mX2_take 1 pc (T_46 pc) = true := chk_of nt_46 (by decide +kernel)
theorem nt_47 : ∀ pc, 105 ≤ pc → T_47 pc = opN := by
  intro pc h
  unfold T_47
  rw [if_neg (Nat.not_lt.mpr h)]
set_option maxRecDepth 100000 in
theorem ck_47 : ∀ pc, chk mX2_addSum 2 pc (T_47 pc) = true := chk_of nt_47 (by decide +kernel)
theorem nt_48 : ∀ pc, 55 ≤ pc → T_48 pc = opN := by
  intro pc h
  unfold T_48
  rw [if_neg (Nat.not_lt.mpr h)]
set_option maxRecDepth 100000 in
theorem ck_48 : ∀ pc, chk mX2_comeOf 1 pc (T_48 pc) = true := chk_of nt_48 (by decide +kernel)
theorem nt_49 : ∀ pc, 121 ≤ pc → T_49 pc = opN := by
  intro pc h
  unfold T_49
  rw [if_neg (Nat.not_lt.mpr h)]
set_option maxRecDepth 100000 in
theorem ck_49 : ∀ pc, chk mX2_worked 1 pc (T_49 pc) = true := chk_of nt_49 (by decide +kernel)
theorem nt_50 : ∀ pc, 17 ≤ pc → T_50 pc = opN := by
  intro pc h
  unfold T_50
  rw [if_neg (Nat.not_lt.mpr h)]
set_option maxRecDepth 100000 in
theorem ck_50 : ∀ pc, chk mX2_has 0 pc (T_50 pc) = true := chk_of nt_50 (by decide +kernel)
theorem nt_51 : ∀ pc, 26 ≤ pc → T_51 pc = opN := by
  intro pc h
  unfold T_51
  rw [if_neg (Nat.not_lt.mpr h)]
set_option maxRecDepth 100000 in
theorem ck_51 : ∀ pc, chk mX2_hasNeeds 0 pc (T_51 pc) = true := chk_of nt_51 (by decide +kernel)
theorem nt_52 : ∀ pc, 24 ≤ pc → T_52 pc = opN := by
  intro pc h
  unfold T_52
  rw [if_neg (Nat.not_lt.mpr h)]
set_option maxRecDepth 100000 in
theorem ck_52 : ∀ pc, chk mX2_isAsWorked 2 pc (T_52 pc) = true := chk_of nt_52 (by decide +kernel)
theorem nt_53 : ∀ pc, 15 ≤ pc → T_53 pc = opN := by
  intro pc h
  unfold T_53
  rw [if_neg (Nat.not_lt.mpr h)]
set_option maxRecDepth 100000 in
theorem ck_53 : ∀ pc, chk mX2_total 0 pc (T_53 pc) = true := chk_of nt_53 (by decide +kernel)
theorem nt_54 : ∀ pc, 13 ≤ pc → T_54 pc = opN := by
  intro pc h
  unfold T_54
  rw [if_neg (Nat.not_lt.mpr h)]
set_option maxRecDepth 100000 in
theorem ck_54 : ∀ pc, chk mX2_free 1 pc (T_54 pc) = true := chk_of nt_54 (by decide +kernel)
theorem nt_55 : ∀ pc, 49 ≤ pc → T_55 pc = opN := by
  intro pc h
  unfold T_55
  rw [if_neg (Nat.not_lt.mpr h)]
set_option maxRecDepth 100000 in
theorem ck_55 : ∀ pc, chk mX2_right 1 pc (T_55 pc) = true := chk_of nt_55 (by decide +kernel)
theorem nt_56 : ∀ pc, 50 ≤ pc → T_56 pc = opN := by
  intro pc h
  unfold T_56
  rw [if_neg (Nat.not_lt.mpr h)]
set_option maxRecDepth 100000 in
theorem ck_56 : ∀ pc, chk mX2_doubted 3 pc (T_56 pc) = true := chk_of nt_56 (by decide +kernel)
theorem nt_57 : ∀ pc, 60 ≤ pc → T_57 pc = opN := by
  intro pc h
  unfold T_57
  rw [if_neg (Nat.not_lt.mpr h)]
set_option maxRecDepth 100000 in
theorem ck_57 : ∀ pc, chk mX2_movable 3 pc (T_57 pc) = true := chk_of nt_57 (by decide +kernel)
theorem nt_58 : ∀ pc, 84 ≤ pc → T_58 pc = opN := by
  intro pc h
  unfold T_58
  rw [if_neg (Nat.not_lt.mpr h)]
set_option maxRecDepth 100000 in
theorem ck_58 : ∀ pc, chk mX2_makeMove 3 pc (T_58 pc) = true := chk_of nt_58 (by decide +kernel)
theorem nt_59 : ∀ pc, 101 ≤ pc → T_59 pc = opN := by
  intro pc h
  unfold T_59
  rw [if_neg (Nat.not_lt.mpr h)]
set_option maxRecDepth 100000 in
theorem ck_59 : ∀ pc, chk mX2_makeSwap 2 pc (T_59 pc) = true := chk_of nt_59 (by decide +kernel)
theorem nt_60 : ∀ pc, 84 ≤ pc → T_60 pc = opN := by
  intro pc h
  unfold T_60
  rw [if_neg (Nat.not_lt.mpr h)]
set_option maxRecDepth 100000 in
theorem ck_60 : ∀ pc, chk mX2_play 4 pc (T_60 pc) = true := chk_of nt_60 (by decide +kernel)
theorem nt_61 : ∀ pc, 56 ≤ pc → T_61 pc = opN := by
  intro pc h
  unfold T_61
  rw [if_neg (Nat.not_lt.mpr h)]
set_option maxRecDepth 100000 in
theorem ck_61 : ∀ pc, chk mX2_showsAs 1 pc (T_61 pc) = true := chk_of nt_61 (by decide +kernel)
theorem nt_62 : ∀ pc, 107 ≤ pc → T_62 pc = opN := by
  intro pc h
  unfold T_62
  rw [if_neg (Nat.not_lt.mpr h)]
set_option maxRecDepth 100000 in
theorem ck_62 : ∀ pc, chk mX2_open 1 pc (T_62 pc) = true := chk_of nt_62 (by decide +kernel)
theorem nt_63 : ∀ pc, 26 ≤ pc → T_63 pc = opN := by
  intro pc h
  unfold T_63
  rw [if_neg (Nat.not_lt.mpr h)]
set_option maxRecDepth 100000 in
theorem ck_63 : ∀ pc, chk mX2_flip 0 pc (T_63 pc) = true := chk_of nt_63 (by decide +kernel)
theorem nt_64 : ∀ pc, 41 ≤ pc → T_64 pc = opN := by
  intro pc h
  unfold T_64
  rw [if_neg (Nat.not_lt.mpr h)]
set_option maxRecDepth 100000 in
theorem ck_64 : ∀ pc, chk mX2_offspring 0 pc (T_64 pc) = true := chk_of nt_64 (by decide +kernel)
theorem nt_65 : ∀ pc, 33 ≤ pc → T_65 pc = opN := by
  intro pc h
  unfold T_65
  rw [if_neg (Nat.not_lt.mpr h)]
set_option maxRecDepth 100000 in
theorem ck_65 : ∀ pc, chk mX2_turns 0 pc (T_65 pc) = true := chk_of nt_65 (by decide +kernel)
theorem nt_66 : ∀ pc, 31 ≤ pc → T_66 pc = opN := by
  intro pc h
  unfold T_66
  rw [if_neg (Nat.not_lt.mpr h)]
set_option maxRecDepth 100000 in
theorem ck_66 : ∀ pc, chk mX2_deepest 1 pc (T_66 pc) = true := chk_of nt_66 (by decide +kernel)
theorem nt_67 : ∀ pc, 40 ≤ pc → T_67 pc = opN := by
  intro pc h
  unfold T_67
  rw [if_neg (Nat.not_lt.mpr h)]
set_option maxRecDepth 100000 in
theorem ck_67 : ∀ pc, chk mX2_lastOnes 0 pc (T_67 pc) = true := chk_of nt_67 (by decide +kernel)
theorem nt_68 : ∀ pc, 10 ≤ pc → T_68 pc = opN := by
  intro pc h
  unfold T_68
  rw [if_neg (Nat.not_lt.mpr h)]
set_option maxRecDepth 100000 in
theorem ck_68 : ∀ pc, chk mX3_positions 0 pc (T_68 pc) = true := chk_of nt_68 (by decide +kernel)
theorem nt_69 : ∀ pc, 15 ≤ pc → T_69 pc = opN := by
  intro pc h
  unfold T_69
  rw [if_neg (Nat.not_lt.mpr h)]
set_option maxRecDepth 100000 in
theorem ck_69 : ∀ pc, chk mX3_reset 3 pc (T_69 pc) = true := chk_of nt_69 (by decide +kernel)
theorem nt_70 : ∀ pc, 24 ≤ pc → T_70 pc = opN := by
  intro pc h
  unfold T_70
  rw [if_neg (Nat.not_lt.mpr h)]
set_option maxRecDepth 100000 in
theorem ck_70 : ∀ pc, chk mX3_forget 2 pc (T_70 pc) = true := chk_of nt_70 (by decide +kernel)
theorem nt_71 : ∀ pc, 47 ≤ pc → T_71 pc = opN := by
  intro pc h
  unfold T_71
  rw [if_neg (Nat.not_lt.mpr h)]
set_option maxRecDepth 100000 in
theorem ck_71 : ∀ pc, chk mX3_put 0 pc (T_71 pc) = true := chk_of nt_71 (by decide +kernel)
theorem nt_72 : ∀ pc, 18 ≤ pc → T_72 pc = opN := by
  intro pc h
  unfold T_72
  rw [if_neg (Nat.not_lt.mpr h)]
set_option maxRecDepth 100000 in
theorem ck_72 : ∀ pc, chk mX3_putSource 1 pc (T_72 pc) = true := chk_of nt_72 (by decide +kernel)
theorem nt_73 : ∀ pc, 84 ≤ pc → T_73 pc = opN := by
  intro pc h
  unfold T_73
  rw [if_neg (Nat.not_lt.mpr h)]
set_option maxRecDepth 100000 in
theorem ck_73 : ∀ pc, chk mX3_expandNext 2 pc (T_73 pc) = true := chk_of nt_73 (by decide +kernel)
theorem nt_74 : ∀ pc, 31 ≤ pc → T_74 pc = opN := by
  intro pc h
  unfold T_74
  rw [if_neg (Nat.not_lt.mpr h)]
set_option maxRecDepth 100000 in
theorem ck_74 : ∀ pc, chk mX3_flood 3 pc (T_74 pc) = true := chk_of nt_74 (by decide +kernel)
theorem nt_75 : ∀ pc, 47 ≤ pc → T_75 pc = opN := by
  intro pc h
  unfold T_75
  rw [if_neg (Nat.not_lt.mpr h)]
set_option maxRecDepth 100000 in
theorem ck_75 : ∀ pc, chk mX3_floodTo 3 pc (T_75 pc) = true := chk_of nt_75 (by decide +kernel)
theorem nt_76 : ∀ pc, 15 ≤ pc → T_76 pc = opN := by
  intro pc h
  unfold T_76
  rw [if_neg (Nat.not_lt.mpr h)]
set_option maxRecDepth 100000 in
theorem ck_76 : ∀ pc, chk mX3_floodFrom 4 pc (T_76 pc) = true := chk_of nt_76 (by decide +kernel)
theorem nt_77 : ∀ pc, 45 ≤ pc → T_77 pc = opN := by
  intro pc h
  unfold T_77
  rw [if_neg (Nat.not_lt.mpr h)]
set_option maxRecDepth 100000 in
theorem ck_77 : ∀ pc, chk mX3_aim 4 pc (T_77 pc) = true := chk_of nt_77 (by decide +kernel)
theorem nt_78 : ∀ pc, 12 ≤ pc → T_78 pc = opN := by
  intro pc h
  unfold T_78
  rw [if_neg (Nat.not_lt.mpr h)]
set_option maxRecDepth 100000 in
theorem ck_78 : ∀ pc, chk mX3_floodToGoals 5 pc (T_78 pc) = true := chk_of nt_78 (by decide +kernel)
theorem nt_79 : ∀ pc, 18 ≤ pc → T_79 pc = opN := by
  intro pc h
  unfold T_79
  rw [if_neg (Nat.not_lt.mpr h)]
set_option maxRecDepth 100000 in
theorem ck_79 : ∀ pc, chk mX3_between 4 pc (T_79 pc) = true := chk_of nt_79 (by decide +kernel)
theorem nt_80 : ∀ pc, 32 ≤ pc → T_80 pc = opN := by
  intro pc h
  unfold T_80
  rw [if_neg (Nat.not_lt.mpr h)]
set_option maxRecDepth 100000 in
theorem ck_80 : ∀ pc, chk mX3_comesWithout 4 pc (T_80 pc) = true := chk_of nt_80 (by decide +kernel)
theorem nt_81 : ∀ pc, 72 ≤ pc → T_81 pc = opN := by
  intro pc h
  unfold T_81
  rw [if_neg (Nat.not_lt.mpr h)]
set_option maxRecDepth 100000 in
theorem ck_81 : ∀ pc, chk mX3_seek 3 pc (T_81 pc) = true := chk_of nt_81 (by decide +kernel)
theorem nt_82 : ∀ pc, 70 ≤ pc → T_82 pc = opN := by
  intro pc h
  unfold T_82
  rw [if_neg (Nat.not_lt.mpr h)]
set_option maxRecDepth 100000 in
theorem ck_82 : ∀ pc, chk mX3_choiceOnWay 3 pc (T_82 pc) = true := chk_of nt_82 (by decide +kernel)
theorem nt_83 : ∀ pc, 85 ≤ pc → T_83 pc = opN := by
  intro pc h
  unfold T_83
  rw [if_neg (Nat.not_lt.mpr h)]
set_option maxRecDepth 100000 in
theorem ck_83 : ∀ pc, chk mX3_choiceToGoals 2 pc (T_83 pc) = true := chk_of nt_83 (by decide +kernel)
theorem nt_84 : ∀ pc, 81 ≤ pc → T_84 pc = opN := by
  intro pc h
  unfold T_84
  rw [if_neg (Nat.not_lt.mpr h)]
set_option maxRecDepth 100000 in
theorem ck_84 : ∀ pc, chk mX3_routes 3 pc (T_84 pc) = true := chk_of nt_84 (by decide +kernel)
theorem nt_85 : ∀ pc, 97 ≤ pc → T_85 pc = opN := by
  intro pc h
  unfold T_85
  rw [if_neg (Nat.not_lt.mpr h)]
set_option maxRecDepth 100000 in
theorem ck_85 : ∀ pc, chk mX3_passRoutesOn 2 pc (T_85 pc) = true := chk_of nt_85 (by decide +kernel)
theorem nt_86 : ∀ pc, 29 ≤ pc → T_86 pc = opN := by
  intro pc h
  unfold T_86
  rw [if_neg (Nat.not_lt.mpr h)]
set_option maxRecDepth 100000 in
theorem ck_86 : ∀ pc, chk mX3_union 0 pc (T_86 pc) = true := chk_of nt_86 (by decide +kernel)
theorem nt_87 : ∀ pc, 73 ≤ pc → T_87 pc = opN := by
  intro pc h
  unfold T_87
  rw [if_neg (Nat.not_lt.mpr h)]
set_option maxRecDepth 100000 in
theorem ck_87 : ∀ pc, chk mX3_farthest 1 pc (T_87 pc) = true := chk_of nt_87 (by decide +kernel)
theorem nt_88 : ∀ pc, 81 ≤ pc → T_88 pc = opN := by
  intro pc h
  unfold T_88
  rw [if_neg (Nat.not_lt.mpr h)]
set_option maxRecDepth 100000 in
theorem ck_88 : ∀ pc, chk mX3_islands 4 pc (T_88 pc) = true := chk_of nt_88 (by decide +kernel)
theorem nt_89 : ∀ pc, 42 ≤ pc → T_89 pc = opN := by
  intro pc h
  unfold T_89
  rw [if_neg (Nat.not_lt.mpr h)]
set_option maxRecDepth 100000 in
theorem ck_89 : ∀ pc, chk mX3_nearestWith 0 pc (T_89 pc) = true := chk_of nt_89 (by decide +kernel)
theorem nt_90 : ∀ pc, 105 ≤ pc → T_90 pc = opN := by
  intro pc h
  unfold T_90
  rw [if_neg (Nat.not_lt.mpr h)]
set_option maxRecDepth 100000 in
theorem ck_90 : ∀ pc, chk mX3_goOnFrom 3 pc (T_90 pc) = true := chk_of nt_90 (by decide +kernel)
theorem nt_91 : ∀ pc, 42 ≤ pc → T_91 pc = opN := by
  intro pc h
  unfold T_91
  rw [if_neg (Nat.not_lt.mpr h)]
set_option maxRecDepth 100000 in
theorem ck_91 : ∀ pc, chk mX3_isDue 0 pc (T_91 pc) = true := chk_of nt_91 (by decide +kernel)
theorem nt_92 : ∀ pc, 37 ≤ pc → T_92 pc = opN := by
  intro pc h
  unfold T_92
  rw [if_neg (Nat.not_lt.mpr h)]
set_option maxRecDepth 100000 in
theorem ck_92 : ∀ pc, chk mX3_swapRows 0 pc (T_92 pc) = true := chk_of nt_92 (by decide +kernel)
theorem nt_93 : ∀ pc, 15 ≤ pc → T_93 pc = opN := by
  intro pc h
  unfold T_93
  rw [if_neg (Nat.not_lt.mpr h)]
set_option maxRecDepth 100000 in
theorem ck_93 : ∀ pc, chk mX4_noSlot 0 pc (T_93 pc) = true := chk_of nt_93 (by decide +kernel)
theorem nt_94 : ∀ pc, 16 ≤ pc → T_94 pc = opN := by
  intro pc h
  unfold T_94
  rw [if_neg (Nat.not_lt.mpr h)]
set_option maxRecDepth 100000 in
theorem ck_94 : ∀ pc, chk mX4_isBare 0 pc (T_94 pc) = true := chk_of nt_94 (by decide +kernel)
theorem nt_95 : ∀ pc, 25 ≤ pc → T_95 pc = opN := by
  intro pc h
  unfold T_95
  rw [if_neg (Nat.not_lt.mpr h)]
set_option maxRecDepth 100000 in
theorem ck_95 : ∀ pc, chk mX4_lay 1 pc (T_95 pc) = true := chk_of nt_95 (by decide +kernel)
theorem nt_96 : ∀ pc, 26 ≤ pc → T_96 pc = opN := by
  intro pc h
  unfold T_96
  rw [if_neg (Nat.not_lt.mpr h)]
set_option maxRecDepth 100000 in
theorem ck_96 : ∀ pc, chk mX4_isBeyond 0 pc (T_96 pc) = true := chk_of nt_96 (by decide +kernel)
theorem nt_97 : ∀ pc, 28 ≤ pc → T_97 pc = opN := by
  intro pc h
  unfold T_97
  rw [if_neg (Nat.not_lt.mpr h)]
set_option maxRecDepth 100000 in
theorem ck_97 : ∀ pc, chk mX4_rows 1 pc (T_97 pc) = true := chk_of nt_97 (by decide +kernel)
theorem nt_98 : ∀ pc, 44 ≤ pc → T_98 pc = opN := by
  intro pc h
  unfold T_98
  rw [if_neg (Nat.not_lt.mpr h)]
set_option maxRecDepth 100000 in
theorem ck_98 : ∀ pc, chk mX4_cut 0 pc (T_98 pc) = true := chk_of nt_98 (by decide +kernel)
theorem nt_99 : ∀ pc, 44 ≤ pc → T_99 pc = opN := by
  intro pc h
  unfold T_99
  rw [if_neg (Nat.not_lt.mpr h)]
set_option maxRecDepth 100000 in
theorem ck_99 : ∀ pc, chk mX5_feed 1 pc (T_99 pc) = true := chk_of nt_99 (by decide +kernel)
theorem nt_100 : ∀ pc, 37 ≤ pc → T_100 pc = opN := by
  intro pc h
  unfold T_100
  rw [if_neg (Nat.not_lt.mpr h)]
set_option maxRecDepth 100000 in
theorem ck_100 : ∀ pc, chk mX5_tapeNumber 0 pc (T_100 pc) = true := chk_of nt_100 (by decide +kernel)
theorem nt_101 : ∀ pc, 21 ≤ pc → T_101 pc = opN := by
  intro pc h
  unfold T_101
  rw [if_neg (Nat.not_lt.mpr h)]
set_option maxRecDepth 100000 in
theorem ck_101 : ∀ pc, chk mX5_end 0 pc (T_101 pc) = true := chk_of nt_101 (by decide +kernel)
theorem nt_102 : ∀ pc, 69 ≤ pc → T_102 pc = opN := by
  intro pc h
  unfold T_102
  rw [if_neg (Nat.not_lt.mpr h)]
set_option maxRecDepth 100000 in
theorem ck_102 : ∀ pc, chk mX5_school 12 pc (T_102 pc) = true := chk_of nt_102 (by decide +kernel)
theorem nt_103 : ∀ pc, 40 ≤ pc → T_103 pc = opN := by
  intro pc h
  unfold T_103
  rw [if_neg (Nat.not_lt.mpr h)]
set_option maxRecDepth 100000 in
theorem ck_103 : ∀ pc, chk mX5_fault 0 pc (T_103 pc) = true := chk_of nt_103 (by decide +kernel)
theorem nt_104 : ∀ pc, 16 ≤ pc → T_104 pc = opN := by
  intro pc h
  unfold T_104
  rw [if_neg (Nat.not_lt.mpr h)]
set_option maxRecDepth 100000 in
theorem ck_104 : ∀ pc, chk mX5_noSchool 0 pc (T_104 pc) = true := chk_of nt_104 (by decide +kernel)
theorem nt_105 : ∀ pc, 21 ≤ pc → T_105 pc = opN := by
  intro pc h
  unfold T_105
  rw [if_neg (Nat.not_lt.mpr h)]
set_option maxRecDepth 100000 in
theorem ck_105 : ∀ pc, chk mX5_noSum 0 pc (T_105 pc) = true := chk_of nt_105 (by decide +kernel)
theorem nt_106 : ∀ pc, 25 ≤ pc → T_106 pc = opN := by
  intro pc h
  unfold T_106
  rw [if_neg (Nat.not_lt.mpr h)]
set_option maxRecDepth 100000 in
theorem ck_106 : ∀ pc, chk mX5_noSet 1 pc (T_106 pc) = true := chk_of nt_106 (by decide +kernel)
theorem nt_107 : ∀ pc, 24 ≤ pc → T_107 pc = opN := by
  intro pc h
  unfold T_107
  rw [if_neg (Nat.not_lt.mpr h)]
set_option maxRecDepth 100000 in
theorem ck_107 : ∀ pc, chk mX5_noLimit 1 pc (T_107 pc) = true := chk_of nt_107 (by decide +kernel)
theorem nt_108 : ∀ pc, 22 ≤ pc → T_108 pc = opN := by
  intro pc h
  unfold T_108
  rw [if_neg (Nat.not_lt.mpr h)]
set_option maxRecDepth 100000 in
theorem ck_108 : ∀ pc, chk mX5_noPlay 2 pc (T_108 pc) = true := chk_of nt_108 (by decide +kernel)
theorem nt_109 : ∀ pc, 120 ≤ pc → T_109 pc = opN := by
  intro pc h
  unfold T_109
  rw [if_neg (Nat.not_lt.mpr h)]
set_option maxRecDepth 100000 in
theorem ck_109 : ∀ pc, chk mX5_sum 1 pc (T_109 pc) = true := chk_of nt_109 (by decide +kernel)
theorem nt_110 : ∀ pc, 23 ≤ pc → T_110 pc = opN := by
  intro pc h
  unfold T_110
  rw [if_neg (Nat.not_lt.mpr h)]
set_option maxRecDepth 100000 in
theorem ck_110 : ∀ pc, chk mX5_value 1 pc (T_110 pc) = true := chk_of nt_110 (by decide +kernel)
theorem nt_111 : ∀ pc, 63 ≤ pc → T_111 pc = opN := by
  intro pc h
  unfold T_111
  rw [if_neg (Nat.not_lt.mpr h)]
set_option maxRecDepth 100000 in
theorem ck_111 : ∀ pc, chk mX5_stands 4 pc (T_111 pc) = true := chk_of nt_111 (by decide +kernel)
theorem nt_112 : ∀ pc, 36 ≤ pc → T_112 pc = opN := by
  intro pc h
  unfold T_112
  rw [if_neg (Nat.not_lt.mpr h)]
set_option maxRecDepth 100000 in
theorem ck_112 : ∀ pc, chk mX5_board 1 pc (T_112 pc) = true := chk_of nt_112 (by decide +kernel)
theorem nt_113 : ∀ pc, 75 ≤ pc → T_113 pc = opN := by
  intro pc h
  unfold T_113
  rw [if_neg (Nat.not_lt.mpr h)]
set_option maxRecDepth 100000 in
theorem ck_113 : ∀ pc, chk mX5_slates 2 pc (T_113 pc) = true := chk_of nt_113 (by decide +kernel)
theorem nt_114 : ∀ pc, 22 ≤ pc → T_114 pc = opN := by
  intro pc h
  unfold T_114
  rw [if_neg (Nat.not_lt.mpr h)]
set_option maxRecDepth 100000 in
theorem ck_114 : ∀ pc, chk mX5_move 4 pc (T_114 pc) = true := chk_of nt_114 (by decide +kernel)
theorem nt_115 : ∀ pc, 35 ≤ pc → T_115 pc = opN := by
  intro pc h
  unfold T_115
  rw [if_neg (Nat.not_lt.mpr h)]
set_option maxRecDepth 100000 in
theorem ck_115 : ∀ pc, chk mX5_swap 3 pc (T_115 pc) = true := chk_of nt_115 (by decide +kernel)
theorem nt_116 : ∀ pc, 72 ≤ pc → T_116 pc = opN := by
  intro pc h
  unfold T_116
  rw [if_neg (Nat.not_lt.mpr h)]
set_option maxRecDepth 100000 in
theorem ck_116 : ∀ pc, chk mX5_may 4 pc (T_116 pc) = true := chk_of nt_116 (by decide +kernel)
theorem nt_117 : ∀ pc, 57 ≤ pc → T_117 pc = opN := by
  intro pc h
  unfold T_117
  rw [if_neg (Nat.not_lt.mpr h)]
set_option maxRecDepth 100000 in
theorem ck_117 : ∀ pc, chk mX5_smudge 1 pc (T_117 pc) = true := chk_of nt_117 (by decide +kernel)
theorem nt_118 : ∀ pc, 23 ≤ pc → T_118 pc = opN := by
  intro pc h
  unfold T_118
  rw [if_neg (Nat.not_lt.mpr h)]
set_option maxRecDepth 100000 in
theorem ck_118 : ∀ pc, chk mX5_noLoan 1 pc (T_118 pc) = true := chk_of nt_118 (by decide +kernel)
theorem nt_119 : ∀ pc, 48 ≤ pc → T_119 pc = opN := by
  intro pc h
  unfold T_119
  rw [if_neg (Nat.not_lt.mpr h)]
set_option maxRecDepth 100000 in
theorem ck_119 : ∀ pc, chk mX5_lend 2 pc (T_119 pc) = true := chk_of nt_119 (by decide +kernel)
theorem nt_120 : ∀ pc, 60 ≤ pc → T_120 pc = opN := by
  intro pc h
  unfold T_120
  rw [if_neg (Nat.not_lt.mpr h)]
set_option maxRecDepth 100000 in
theorem ck_120 : ∀ pc, chk mX5_give 2 pc (T_120 pc) = true := chk_of nt_120 (by decide +kernel)
theorem nt_121 : ∀ pc, 75 ≤ pc → T_121 pc = opN := by
  intro pc h
  unfold T_121
  rw [if_neg (Nat.not_lt.mpr h)]
set_option maxRecDepth 100000 in
theorem ck_121 : ∀ pc, chk mX5_lose 1 pc (T_121 pc) = true := chk_of nt_121 (by decide +kernel)
theorem nt_122 : ∀ pc, 21 ≤ pc → T_122 pc = opN := by
  intro pc h
  unfold T_122
  rw [if_neg (Nat.not_lt.mpr h)]
set_option maxRecDepth 100000 in
theorem ck_122 : ∀ pc, chk mX5_clear 1 pc (T_122 pc) = true := chk_of nt_122 (by decide +kernel)
theorem nt_123 : ∀ pc, 20 ≤ pc → T_123 pc = opN := by
  intro pc h
  unfold T_123
  rw [if_neg (Nat.not_lt.mpr h)]
set_option maxRecDepth 100000 in
theorem ck_123 : ∀ pc, chk mX5_judge 6 pc (T_123 pc) = true := chk_of nt_123 (by decide +kernel)
theorem nt_124 : ∀ pc, 26 ≤ pc → T_124 pc = opN := by
  intro pc h
  unfold T_124
  rw [if_neg (Nat.not_lt.mpr h)]
set_option maxRecDepth 100000 in
theorem ck_124 : ∀ pc, chk mX5_ends 6 pc (T_124 pc) = true := chk_of nt_124 (by decide +kernel)
theorem nt_125 : ∀ pc, 93 ≤ pc → T_125 pc = opN := by
  intro pc h
  unfold T_125
  rw [if_neg (Nat.not_lt.mpr h)]
set_option maxRecDepth 100000 in
theorem ck_125 : ∀ pc, chk mX5_backwards 6 pc (T_125 pc) = true := chk_of nt_125 (by decide +kernel)
theorem nt_126 : ∀ pc, 39 ≤ pc → T_126 pc = opN := by
  intro pc h
  unfold T_126
  rw [if_neg (Nat.not_lt.mpr h)]
set_option maxRecDepth 100000 in
theorem ck_126 : ∀ pc, chk mX5_refusalToPlay 1 pc (T_126 pc) = true := chk_of nt_126 (by decide +kernel)
theorem nt_127 : ∀ pc, 59 ≤ pc → T_127 pc = opN := by
  intro pc h
  unfold T_127
  rw [if_neg (Nat.not_lt.mpr h)]
set_option maxRecDepth 100000 in
theorem ck_127 : ∀ pc, chk mX5_playInThought 5 pc (T_127 pc) = true := chk_of nt_127 (by decide +kernel)
theorem nt_128 : ∀ pc, 23 ≤ pc → T_128 pc = opN := by
  intro pc h
  unfold T_128
  rw [if_neg (Nat.not_lt.mpr h)]
set_option maxRecDepth 100000 in
theorem ck_128 : ∀ pc, chk mX5_fewest 6 pc (T_128 pc) = true := chk_of nt_128 (by decide +kernel)
theorem nt_129 : ∀ pc, 32 ≤ pc → T_129 pc = opN := by
  intro pc h
  unfold T_129
  rw [if_neg (Nat.not_lt.mpr h)]
set_option maxRecDepth 100000 in
theorem ck_129 : ∀ pc, chk mX5_within 6 pc (T_129 pc) = true := chk_of nt_129 (by decide +kernel)
theorem nt_130 : ∀ pc, 55 ≤ pc → T_130 pc = opN := by
  intro pc h
  unfold T_130
  rw [if_neg (Nat.not_lt.mpr h)]
set_option maxRecDepth 100000 in
theorem ck_130 : ∀ pc, chk mX5_slatesWithin 5 pc (T_130 pc) = true := chk_of nt_130 (by decide +kernel)
theorem nt_131 : ∀ pc, 26 ≤ pc → T_131 pc = opN := by
  intro pc h
  unfold T_131
  rw [if_neg (Nat.not_lt.mpr h)]
set_option maxRecDepth 100000 in
theorem ck_131 : ∀ pc, chk mX5_steps 5 pc (T_131 pc) = true := chk_of nt_131 (by decide +kernel)
theorem nt_132 : ∀ pc, 32 ≤ pc → T_132 pc = opN := by
  intro pc h
  unfold T_132
  rw [if_neg (Nat.not_lt.mpr h)]
set_option maxRecDepth 100000 in
theorem ck_132 : ∀ pc, chk mX5_go 5 pc (T_132 pc) = true := chk_of nt_132 (by decide +kernel)
theorem nt_133 : ∀ pc, 9 ≤ pc → T_133 pc = opN := by
  intro pc h
  unfold T_133
  rw [if_neg (Nat.not_lt.mpr h)]
set_option maxRecDepth 100000 in
theorem ck_133 : ∀ pc, chk mX5_next 6 pc (T_133 pc) = true := chk_of nt_133 (by decide +kernel)
theorem nt_134 : ∀ pc, 71 ≤ pc → T_134 pc = opN := by
  intro pc h
  unfold T_134
  rw [if_neg (Nat.not_lt.mpr h)]
set_option maxRecDepth 100000 in
theorem ck_134 : ∀ pc, chk mX5_path 5 pc (T_134 pc) = true := chk_of nt_134 (by decide +kernel)
theorem nt_135 : ∀ pc, 59 ≤ pc → T_135 pc = opN := by
  intro pc h
  unfold T_135
  rw [if_neg (Nat.not_lt.mpr h)]
set_option maxRecDepth 100000 in
theorem ck_135 : ∀ pc, chk mX5_ways 5 pc (T_135 pc) = true := chk_of nt_135 (by decide +kernel)
theorem nt_136 : ∀ pc, 34 ≤ pc → T_136 pc = opN := by
  intro pc h
  unfold T_136
  rw [if_neg (Nat.not_lt.mpr h)]
set_option maxRecDepth 100000 in
theorem ck_136 : ∀ pc, chk mX5_reach 5 pc (T_136 pc) = true := chk_of nt_136 (by decide +kernel)
theorem nt_137 : ∀ pc, 34 ≤ pc → T_137 pc = opN := by
  intro pc h
  unfold T_137
  rw [if_neg (Nat.not_lt.mpr h)]
set_option maxRecDepth 100000 in
theorem ck_137 : ∀ pc, chk mX5_ever 5 pc (T_137 pc) = true := chk_of nt_137 (by decide +kernel)
theorem nt_138 : ∀ pc, 28 ≤ pc → T_138 pc = opN := by
  intro pc h
  unfold T_138
  rw [if_neg (Nat.not_lt.mpr h)]
set_option maxRecDepth 100000 in
theorem ck_138 : ∀ pc, chk mX5_made 5 pc (T_138 pc) = true := chk_of nt_138 (by decide +kernel)
theorem nt_139 : ∀ pc, 66 ≤ pc → T_139 pc = opN := by
  intro pc h
  unfold T_139
  rw [if_neg (Nat.not_lt.mpr h)]
set_option maxRecDepth 100000 in
theorem ck_139 : ∀ pc, chk mX5_far 5 pc (T_139 pc) = true := chk_of nt_139 (by decide +kernel)
theorem nt_140 : ∀ pc, 21 ≤ pc → T_140 pc = opN := by
  intro pc h
  unfold T_140
  rw [if_neg (Nat.not_lt.mpr h)]
set_option maxRecDepth 100000 in
theorem ck_140 : ∀ pc, chk mX5_keep 7 pc (T_140 pc) = true := chk_of nt_140 (by decide +kernel)
theorem nt_141 : ∀ pc, 38 ≤ pc → T_141 pc = opN := by
  intro pc h
  unfold T_141
  rw [if_neg (Nat.not_lt.mpr h)]
set_option maxRecDepth 100000 in
theorem ck_141 : ∀ pc, chk mX5_cost 7 pc (T_141 pc) = true := chk_of nt_141 (by decide +kernel)
theorem nt_142 : ∀ pc, 105 ≤ pc → T_142 pc = opN := by
  intro pc h
  unfold T_142
  rw [if_neg (Nat.not_lt.mpr h)]
set_option maxRecDepth 100000 in
theorem ck_142 : ∀ pc, chk mX5_bestKept 6 pc (T_142 pc) = true := chk_of nt_142 (by decide +kernel)
theorem nt_143 : ∀ pc, 129 ≤ pc → T_143 pc = opN := by
  intro pc h
  unfold T_143
  rw [if_neg (Nat.not_lt.mpr h)]
set_option maxRecDepth 100000 in
theorem ck_143 : ∀ pc, chk mX5_worst 6 pc (T_143 pc) = true := chk_of nt_143 (by decide +kernel)
theorem nt_144 : ∀ pc, 139 ≤ pc → T_144 pc = opN := by
  intro pc h
  unfold T_144
  rw [if_neg (Nat.not_lt.mpr h)]
set_option maxRecDepth 100000 in
theorem ck_144 : ∀ pc, chk mX5_breaks 6 pc (T_144 pc) = true := chk_of nt_144 (by decide +kernel)
theorem nt_145 : ∀ pc, 57 ≤ pc → T_145 pc = opN := by
  intro pc h
  unfold T_145
  rw [if_neg (Nat.not_lt.mpr h)]
set_option maxRecDepth 100000 in
theorem ck_145 : ∀ pc, chk mX5_lacks 5 pc (T_145 pc) = true := chk_of nt_145 (by decide +kernel)
theorem nt_146 : ∀ pc, 107 ≤ pc → T_146 pc = opN := by
  intro pc h
  unfold T_146
  rw [if_neg (Nat.not_lt.mpr h)]
set_option maxRecDepth 100000 in
theorem ck_146 : ∀ pc, chk mX5_must 5 pc (T_146 pc) = true := chk_of nt_146 (by decide +kernel)
theorem nt_147 : ∀ pc, 34 ≤ pc → T_147 pc = opN := by
  intro pc h
  unfold T_147
  rw [if_neg (Nat.not_lt.mpr h)]
set_option maxRecDepth 100000 in
theorem ck_147 : ∀ pc, chk mX5_apart 5 pc (T_147 pc) = true := chk_of nt_147 (by decide +kernel)
theorem nt_148 : ∀ pc, 39 ≤ pc → T_148 pc = opN := by
  intro pc h
  unfold T_148
  rw [if_neg (Nat.not_lt.mpr h)]
set_option maxRecDepth 100000 in
theorem ck_148 : ∀ pc, chk mX5_groups 5 pc (T_148 pc) = true := chk_of nt_148 (by decide +kernel)
theorem nt_149 : ∀ pc, 124 ≤ pc → T_149 pc = opN := by
  intro pc h
  unfold T_149
  rw [if_neg (Nat.not_lt.mpr h)]
set_option maxRecDepth 100000 in
theorem ck_149 : ∀ pc, chk mX5_series 6 pc (T_149 pc) = true := chk_of nt_149 (by decide +kernel)
theorem nt_150 : ∀ pc, 92 ≤ pc → T_150 pc = opN := by
  intro pc h
  unfold T_150
  rw [if_neg (Nat.not_lt.mpr h)]
set_option maxRecDepth 100000 in
theorem ck_150 : ∀ pc, chk mX5_movesForAll 5 pc (T_150 pc) = true := chk_of nt_150 (by decide +kernel)
theorem nt_151 : ∀ pc, 107 ≤ pc → T_151 pc = opN := by
  intro pc h
  unfold T_151
  rw [if_neg (Nat.not_lt.mpr h)]
set_option maxRecDepth 100000 in
theorem ck_151 : ∀ pc, chk mX5_culprits 4 pc (T_151 pc) = true := chk_of nt_151 (by decide +kernel)
theorem nt_152 : ∀ pc, 38 ≤ pc → T_152 pc = opN := by
  intro pc h
  unfold T_152
  rw [if_neg (Nat.not_lt.mpr h)]
set_option maxRecDepth 100000 in
theorem ck_152 : ∀ pc, chk mX5_tree 3 pc (T_152 pc) = true := chk_of nt_152 (by decide +kernel)
theorem nt_153 : ∀ pc, 25 ≤ pc → T_153 pc = opN := by
  intro pc h
  unfold T_153
  rw [if_neg (Nat.not_lt.mpr h)]
set_option maxRecDepth 100000 in
theorem ck_153 : ∀ pc, chk mX5_tall 3 pc (T_153 pc) = true := chk_of nt_153 (by decide +kernel)
theorem nt_154 : ∀ pc, 28 ≤ pc → T_154 pc = opN := by
  intro pc h
  unfold T_154
  rw [if_neg (Nat.not_lt.mpr h)]
set_option maxRecDepth 100000 in
theorem ck_154 : ∀ pc, chk mX5_chain 3 pc (T_154 pc) = true := chk_of nt_154 (by decide +kernel)
theorem nt_155 : ∀ pc, 27 ≤ pc → T_155 pc = opN := by
  intro pc h
  unfold T_155
  rw [if_neg (Nat.not_lt.mpr h)]
set_option maxRecDepth 100000 in
theorem ck_155 : ∀ pc, chk mX5_middle 4 pc (T_155 pc) = true := chk_of nt_155 (by decide +kernel)
theorem nt_156 : ∀ pc, 25 ≤ pc → T_156 pc = opN := by
  intro pc h
  unfold T_156
  rw [if_neg (Nat.not_lt.mpr h)]
set_option maxRecDepth 100000 in
theorem ck_156 : ∀ pc, chk mX5_least 4 pc (T_156 pc) = true := chk_of nt_156 (by decide +kernel)
theorem nt_157 : ∀ pc, 24 ≤ pc → T_157 pc = opN := by
  intro pc h
  unfold T_157
  rw [if_neg (Nat.not_lt.mpr h)]
set_option maxRecDepth 100000 in
theorem ck_157 : ∀ pc, chk mX5_powers 11 pc (T_157 pc) = true := chk_of nt_157 (by decide +kernel)
theorem nt_158 : ∀ pc, 23 ≤ pc → T_158 pc = opN := by
  intro pc h
  unfold T_158
  rw [if_neg (Nat.not_lt.mpr h)]
set_option maxRecDepth 100000 in
theorem ck_158 : ∀ pc, chk mX5_taken 11 pc (T_158 pc) = true := chk_of nt_158 (by decide +kernel)
theorem nt_159 : ∀ pc, 21 ≤ pc → T_159 pc = opN := by
  intro pc h
  unfold T_159
  rw [if_neg (Nat.not_lt.mpr h)]
set_option maxRecDepth 100000 in
theorem ck_159 : ∀ pc, chk mX5_walk 5 pc (T_159 pc) = true := chk_of nt_159 (by decide +kernel)
theorem nt_160 : ∀ pc, 27 ≤ pc → T_160 pc = opN := by
  intro pc h
  unfold T_160
  rw [if_neg (Nat.not_lt.mpr h)]
set_option maxRecDepth 100000 in
theorem ck_160 : ∀ pc, chk mX5_seen 5 pc (T_160 pc) = true := chk_of nt_160 (by decide +kernel)
theorem nt_161 : ∀ pc, 35 ≤ pc → T_161 pc = opN := by
  intro pc h
  unfold T_161
  rw [if_neg (Nat.not_lt.mpr h)]
set_option maxRecDepth 100000 in
theorem ck_161 : ∀ pc, chk mX5_noWalk 1 pc (T_161 pc) = true := chk_of nt_161 (by decide +kernel)
theorem nt_162 : ∀ pc, 138 ≤ pc → T_162 pc = opN := by
  intro pc h
  unfold T_162
  rw [if_neg (Nat.not_lt.mpr h)]
set_option maxRecDepth 100000 in
theorem ck_162 : ∀ pc, chk mX5_stroll 4 pc (T_162 pc) = true := chk_of nt_162 (by decide +kernel)
theorem nt_163 : ∀ pc, 35 ≤ pc → T_163 pc = opN := by
  intro pc h
  unfold T_163
  rw [if_neg (Nat.not_lt.mpr h)]
set_option maxRecDepth 100000 in
theorem ck_163 : ∀ pc, chk mX5_bitAt 0 pc (T_163 pc) = true := chk_of nt_163 (by decide +kernel)
theorem nt_164 : ∀ pc, 114 ≤ pc → T_164 pc = opN := by
  intro pc h
  unfold T_164
  rw [if_neg (Nat.not_lt.mpr h)]
set_option maxRecDepth 100000 in
theorem ck_164 : ∀ pc, chk mX5_count 2 pc (T_164 pc) = true := chk_of nt_164 (by decide +kernel)
theorem nt_165 : ∀ pc, 34 ≤ pc → T_165 pc = opN := by
  intro pc h
  unfold T_165
  rw [if_neg (Nat.not_lt.mpr h)]
set_option maxRecDepth 100000 in
theorem ck_165 : ∀ pc, chk mX5_image 2 pc (T_165 pc) = true := chk_of nt_165 (by decide +kernel)
theorem nt_166 : ∀ pc, 39 ≤ pc → T_166 pc = opN := by
  intro pc h
  unfold T_166
  rw [if_neg (Nat.not_lt.mpr h)]
set_option maxRecDepth 100000 in
theorem ck_166 : ∀ pc, chk mX5_back 2 pc (T_166 pc) = true := chk_of nt_166 (by decide +kernel)
theorem nt_167 : ∀ pc, 48 ≤ pc → T_167 pc = opN := by
  intro pc h
  unfold T_167
  rw [if_neg (Nat.not_lt.mpr h)]
set_option maxRecDepth 100000 in
theorem ck_167 : ∀ pc, chk mX5_row 2 pc (T_167 pc) = true := chk_of nt_167 (by decide +kernel)
theorem nt_168 : ∀ pc, 74 ≤ pc → T_168 pc = opN := by
  intro pc h
  unfold T_168
  rw [if_neg (Nat.not_lt.mpr h)]
set_option maxRecDepth 100000 in
theorem ck_168 : ∀ pc, chk mX5_write 1 pc (T_168 pc) = true := chk_of nt_168 (by decide +kernel)
theorem nt_169 : ∀ pc, 134 ≤ pc → T_169 pc = opN := by
  intro pc h
  unfold T_169
  rw [if_neg (Nat.not_lt.mpr h)]
set_option maxRecDepth 100000 in
theorem ck_169 : ∀ pc, chk mX5_paste 1 pc (T_169 pc) = true := chk_of nt_169 (by decide +kernel)
theorem nt_170 : ∀ pc, 19 ≤ pc → T_170 pc = opN := by
  intro pc h
  unfold T_170
  rw [if_neg (Nat.not_lt.mpr h)]
set_option maxRecDepth 100000 in
theorem ck_170 : ∀ pc, chk mX6_in 0 pc (T_170 pc) = true := chk_of nt_170 (by decide +kernel)
theorem nt_171 : ∀ pc, 10 ≤ pc → T_171 pc = opN := by
  intro pc h
  unfold T_171
  rw [if_neg (Nat.not_lt.mpr h)]
set_option maxRecDepth 100000 in
theorem ck_171 : ∀ pc, chk mX6_isSlot 1 pc (T_171 pc) = true := chk_of nt_171 (by decide +kernel)
theorem nt_172 : ∀ pc, 84 ≤ pc → T_172 pc = opN := by
  intro pc h
  unfold T_172
  rw [if_neg (Nat.not_lt.mpr h)]
set_option maxRecDepth 100000 in
theorem ck_172 : ∀ pc, chk mX6_row 2 pc (T_172 pc) = true := chk_of nt_172 (by decide +kernel)
theorem nt_173 : ∀ pc, 36 ≤ pc → T_173 pc = opN := by
  intro pc h
  unfold T_173
  rw [if_neg (Nat.not_lt.mpr h)]
set_option maxRecDepth 100000 in
theorem ck_173 : ∀ pc, chk mX6_cut 0 pc (T_173 pc) = true := chk_of nt_173 (by decide +kernel)
theorem nt_174 : ∀ pc, 72 ≤ pc → T_174 pc = opN := by
  intro pc h
  unfold T_174
  rw [if_neg (Nat.not_lt.mpr h)]
set_option maxRecDepth 100000 in
theorem ck_174 : ∀ pc, chk mX6_write 2 pc (T_174 pc) = true := chk_of nt_174 (by decide +kernel)
theorem nt_175 : ∀ pc, 192 ≤ pc → T_175 pc = opN := by
  intro pc h
  unfold T_175
  rw [if_neg (Nat.not_lt.mpr h)]
set_option maxRecDepth 100000 in
theorem ck_175 : ∀ pc, chk mX6_paste 2 pc (T_175 pc) = true := chk_of nt_175 (by decide +kernel)
theorem nt_176 : ∀ pc, 52 ≤ pc → T_176 pc = opN := by
  intro pc h
  unfold T_176
  rw [if_neg (Nat.not_lt.mpr h)]
set_option maxRecDepth 100000 in
theorem ck_176 : ∀ pc, chk mX6_feed 1 pc (T_176 pc) = true := chk_of nt_176 (by decide +kernel)
theorem nt_177 : ∀ pc, 37 ≤ pc → T_177 pc = opN := by
  intro pc h
  unfold T_177
  rw [if_neg (Nat.not_lt.mpr h)]
set_option maxRecDepth 100000 in
theorem ck_177 : ∀ pc, chk mX6_four 0 pc (T_177 pc) = true := chk_of nt_177 (by decide +kernel)
theorem nt_178 : ∀ pc, 28 ≤ pc → T_178 pc = opN := by
  intro pc h
  unfold T_178
  rw [if_neg (Nat.not_lt.mpr h)]
set_option maxRecDepth 100000 in
theorem ck_178 : ∀ pc, chk mX6_end 1 pc (T_178 pc) = true := chk_of nt_178 (by decide +kernel)
theorem nt_179 : ∀ pc, 34 ≤ pc → T_179 pc = opN := by
  intro pc h
  unfold T_179
  rw [if_neg (Nat.not_lt.mpr h)]
set_option maxRecDepth 100000 in
theorem ck_179 : ∀ pc, chk mX6_isByte 0 pc (T_179 pc) = true := chk_of nt_179 (by decide +kernel)
theorem nt_180 : ∀ pc, 308 ≤ pc → T_180 pc = opN := by
  intro pc h
  unfold T_180
  rw [if_neg (Nat.not_lt.mpr h)]
set_option maxRecDepth 100000 in
theorem ck_180 : ∀ pc, chk mX6_next 1 pc (T_180 pc) = true := chk_of nt_180 (by decide +kernel)
theorem nt_181 : ∀ pc, 13 ≤ pc → T_181 pc = opN := by
  intro pc h
  unfold T_181
  rw [if_neg (Nat.not_lt.mpr h)]
set_option maxRecDepth 100000 in
theorem ck_181 : ∀ pc, chk mX6_isGood 0 pc (T_181 pc) = true := chk_of nt_181 (by decide +kernel)
theorem nt_182 : ∀ pc, 22 ≤ pc → T_182 pc = opN := by
  intro pc h
  unfold T_182
  rw [if_neg (Nat.not_lt.mpr h)]
set_option maxRecDepth 100000 in
theorem ck_182 : ∀ pc, chk mX6_fails 0 pc (T_182 pc) = true := chk_of nt_182 (by decide +kernel)
theorem nt_183 : ∀ pc, 30 ≤ pc → T_183 pc = opN := by
  intro pc h
  unfold T_183
  rw [if_neg (Nat.not_lt.mpr h)]
set_option maxRecDepth 100000 in
theorem ck_183 : ∀ pc, chk mX6_is 0 pc (T_183 pc) = true := chk_of nt_183 (by decide +kernel)
theorem nt_184 : ∀ pc, 16 ≤ pc → T_184 pc = opN := by
  intro pc h
  unfold T_184
  rw [if_neg (Nat.not_lt.mpr h)]
set_option maxRecDepth 100000 in
theorem ck_184 : ∀ pc, chk mX6_takes 2 pc (T_184 pc) = true := chk_of nt_184 (by decide +kernel)
theorem nt_185 : ∀ pc, 14 ≤ pc → T_185 pc = opN := by
  intro pc h
  unfold T_185
  rw [if_neg (Nat.not_lt.mpr h)]
set_option maxRecDepth 100000 in
theorem ck_185 : ∀ pc, chk mX6_asks 3 pc (T_185 pc) = true := chk_of nt_185 (by decide +kernel)
theorem nt_186 : ∀ pc, 57 ≤ pc → T_186 pc = opN := by
  intro pc h
  unfold T_186
  rw [if_neg (Nat.not_lt.mpr h)]
set_option maxRecDepth 100000 in
theorem ck_186 : ∀ pc, chk mX6_number 2 pc (T_186 pc) = true := chk_of nt_186 (by decide +kernel)
theorem nt_187 : ∀ pc, 13 ≤ pc → T_187 pc = opN := by
  intro pc h
  unfold T_187
  rw [if_neg (Nat.not_lt.mpr h)]
set_option maxRecDepth 100000 in
theorem ck_187 : ∀ pc, chk mX6_number_ 4 pc (T_187 pc) = true := chk_of nt_187 (by decide +kernel)
theorem nt_188 : ∀ pc, 25 ≤ pc → T_188 pc = opN := by
  intro pc h
  unfold T_188
  rw [if_neg (Nat.not_lt.mpr h)]
set_option maxRecDepth 100000 in
theorem ck_188 : ∀ pc, chk mX6_ends 2 pc (T_188 pc) = true := chk_of nt_188 (by decide +kernel)
theorem nt_189 : ∀ pc, 20 ≤ pc → T_189 pc = opN := by
  intro pc h
  unfold T_189
  rw [if_neg (Nat.not_lt.mpr h)]
set_option maxRecDepth 100000 in
theorem ck_189 : ∀ pc, chk mX6_begins 2 pc (T_189 pc) = true := chk_of nt_189 (by decide +kernel)
theorem nt_190 : ∀ pc, 33 ≤ pc → T_190 pc = opN := by
  intro pc h
  unfold T_190
  rw [if_neg (Nat.not_lt.mpr h)]
set_option maxRecDepth 100000 in
theorem ck_190 : ∀ pc, chk mX6_isOver 0 pc (T_190 pc) = true := chk_of nt_190 (by decide +kernel)
theorem nt_191 : ∀ pc, 30 ≤ pc → T_191 pc = opN := by
  intro pc h
  unfold T_191
  rw [if_neg (Nat.not_lt.mpr h)]
set_option maxRecDepth 100000 in
theorem ck_191 : ∀ pc, chk mX6_fault 0 pc (T_191 pc) = true := chk_of nt_191 (by decide +kernel)
theorem nt_192 : ∀ pc, 237 ≤ pc → T_192 pc = opN := by
  intro pc h
  unfold T_192
  rw [if_neg (Nat.not_lt.mpr h)]
set_option maxRecDepth 100000 in
theorem ck_192 : ∀ pc, chk mX6_line 5 pc (T_192 pc) = true := chk_of nt_192 (by decide +kernel)
theorem nt_193 : ∀ pc, 38 ≤ pc → T_193 pc = opN := by
  intro pc h
  unfold T_193
  rw [if_neg (Nat.not_lt.mpr h)]
set_option maxRecDepth 100000 in
theorem ck_193 : ∀ pc, chk mX6_clears 0 pc (T_193 pc) = true := chk_of nt_193 (by decide +kernel)
theorem nt_194 : ∀ pc, 115 ≤ pc → T_194 pc = opN := by
  intro pc h
  unfold T_194
  rw [if_neg (Nat.not_lt.mpr h)]
set_option maxRecDepth 100000 in
theorem ck_194 : ∀ pc, chk mX6_school 6 pc (T_194 pc) = true := chk_of nt_194 (by decide +kernel)
theorem nt_195 : ∀ pc, 32 ≤ pc → T_195 pc = opN := by
  intro pc h
  unfold T_195
  rw [if_neg (Nat.not_lt.mpr h)]
set_option maxRecDepth 100000 in
theorem ck_195 : ∀ pc, chk mX6_copyRow 0 pc (T_195 pc) = true := chk_of nt_195 (by decide +kernel)
theorem nt_196 : ∀ pc, 53 ≤ pc → T_196 pc = opN := by
  intro pc h
  unfold T_196
  rw [if_neg (Nat.not_lt.mpr h)]
set_option maxRecDepth 100000 in
theorem ck_196 : ∀ pc, chk mX6_copySchool 1 pc (T_196 pc) = true := chk_of nt_196 (by decide +kernel)
theorem nt_197 : ∀ pc, 15 ≤ pc → T_197 pc = opN := by
  intro pc h
  unfold T_197
  rw [if_neg (Nat.not_lt.mpr h)]
set_option maxRecDepth 100000 in
theorem ck_197 : ∀ pc, chk mX6_isSchool 0 pc (T_197 pc) = true := chk_of nt_197 (by decide +kernel)
theorem nt_198 : ∀ pc, 16 ≤ pc → T_198 pc = opN := by
  intro pc h
  unfold T_198
  rw [if_neg (Nat.not_lt.mpr h)]
set_option maxRecDepth 100000 in
theorem ck_198 : ∀ pc, chk mX6_isSum 1 pc (T_198 pc) = true := chk_of nt_198 (by decide +kernel)
theorem nt_199 : ∀ pc, 33 ≤ pc → T_199 pc = opN := by
  intro pc h
  unfold T_199
  rw [if_neg (Nat.not_lt.mpr h)]
set_option maxRecDepth 100000 in
theorem ck_199 : ∀ pc, chk mX6_isSet 1 pc (T_199 pc) = true := chk_of nt_199 (by decide +kernel)
theorem nt_200 : ∀ pc, 22 ≤ pc → T_200 pc = opN := by
  intro pc h
  unfold T_200
  rw [if_neg (Nat.not_lt.mpr h)]
set_option maxRecDepth 100000 in
theorem ck_200 : ∀ pc, chk mX6_sizeOf 0 pc (T_200 pc) = true := chk_of nt_200 (by decide +kernel)
theorem nt_201 : ∀ pc, 9 ≤ pc → T_201 pc = opN := by
  intro pc h
  unfold T_201
  rw [if_neg (Nat.not_lt.mpr h)]
set_option maxRecDepth 100000 in
theorem ck_201 : ∀ pc, chk mX6_sortOf 0 pc (T_201 pc) = true := chk_of nt_201 (by decide +kernel)
theorem nt_202 : ∀ pc, 60 ≤ pc → T_202 pc = opN := by
  intro pc h
  unfold T_202
  rw [if_neg (Nat.not_lt.mpr h)]
set_option maxRecDepth 100000 in
theorem ck_202 : ∀ pc, chk mX6_needs 1 pc (T_202 pc) = true := chk_of nt_202 (by decide +kernel)
theorem nt_203 : ∀ pc, 39 ≤ pc → T_203 pc = opN := by
  intro pc h
  unfold T_203
  rw [if_neg (Nat.not_lt.mpr h)]
set_option maxRecDepth 100000 in
theorem ck_203 : ∀ pc, chk mX6_ancestors 2 pc (T_203 pc) = true := chk_of nt_203 (by decide +kernel)
theorem nt_204 : ∀ pc, 68 ≤ pc → T_204 pc = opN := by
  intro pc h
  unfold T_204
  rw [if_neg (Nat.not_lt.mpr h)]
set_option maxRecDepth 100000 in
theorem ck_204 : ∀ pc, chk mX6_depth 1 pc (T_204 pc) = true := chk_of nt_204 (by decide +kernel)
theorem nt_205 : ∀ pc, 30 ≤ pc → T_205 pc = opN := by
  intro pc h
  unfold T_205
  rw [if_neg (Nat.not_lt.mpr h)]
set_option maxRecDepth 100000 in
theorem ck_205 : ∀ pc, chk mX6_laysDepths 2 pc (T_205 pc) = true := chk_of nt_205 (by decide +kernel)
theorem nt_206 : ∀ pc, 113 ≤ pc → T_206 pc = opN := by
  intro pc h
  unfold T_206
  rw [if_neg (Nat.not_lt.mpr h)]
set_option maxRecDepth 100000 in
theorem ck_206 : ∀ pc, chk mX6_sum 3 pc (T_206 pc) = true := chk_of nt_206 (by decide +kernel)
theorem nt_207 : ∀ pc, 119 ≤ pc → T_207 pc = opN := by
  intro pc h
  unfold T_207
  rw [if_neg (Nat.not_lt.mpr h)]
set_option maxRecDepth 100000 in
theorem ck_207 : ∀ pc, chk mX6_works 1 pc (T_207 pc) = true := chk_of nt_207 (by decide +kernel)
theorem nt_208 : ∀ pc, 77 ≤ pc → T_208 pc = opN := by
  intro pc h
  unfold T_208
  rw [if_neg (Nat.not_lt.mpr h)]
set_option maxRecDepth 100000 in
theorem ck_208 : ∀ pc, chk mX6_workedOf 2 pc (T_208 pc) = true := chk_of nt_208 (by decide +kernel)
theorem nt_209 : ∀ pc, 35 ≤ pc → T_209 pc = opN := by
  intro pc h
  unfold T_209
  rw [if_neg (Nat.not_lt.mpr h)]
set_option maxRecDepth 100000 in
theorem ck_209 : ∀ pc, chk mX6_laysValues 3 pc (T_209 pc) = true := chk_of nt_209 (by decide +kernel)
theorem nt_210 : ∀ pc, 27 ≤ pc → T_210 pc = opN := by
  intro pc h
  unfold T_210
  rw [if_neg (Nat.not_lt.mpr h)]
set_option maxRecDepth 100000 in
theorem ck_210 : ∀ pc, chk mX6_value 4 pc (T_210 pc) = true := chk_of nt_210 (by decide +kernel)
theorem nt_211 : ∀ pc, 24 ≤ pc → T_211 pc = opN := by
  intro pc h
  unfold T_211
  rw [if_neg (Nat.not_lt.mpr h)]
set_option maxRecDepth 100000 in
theorem ck_211 : ∀ pc, chk mX6_isStanding 0 pc (T_211 pc) = true := chk_of nt_211 (by decide +kernel)
theorem nt_212 : ∀ pc, 14 ≤ pc → T_212 pc = opN := by
  intro pc h
  unfold T_212
  rw [if_neg (Nat.not_lt.mpr h)]
set_option maxRecDepth 100000 in
theorem ck_212 : ∀ pc, chk mX6_worked 3 pc (T_212 pc) = true := chk_of nt_212 (by decide +kernel)
theorem nt_213 : ∀ pc, 31 ≤ pc → T_213 pc = opN := by
  intro pc h
  unfold T_213
  rw [if_neg (Nat.not_lt.mpr h)]
set_option maxRecDepth 100000 in
theorem ck_213 : ∀ pc, chk mX6_allOf 0 pc (T_213 pc) = true := chk_of nt_213 (by decide +kernel)
theorem nt_214 : ∀ pc, 20 ≤ pc → T_214 pc = opN := by
  intro pc h
  unfold T_214
  rw [if_neg (Nat.not_lt.mpr h)]
set_option maxRecDepth 100000 in
theorem ck_214 : ∀ pc, chk mX6_freeOf 1 pc (T_214 pc) = true := chk_of nt_214 (by decide +kernel)
theorem nt_215 : ∀ pc, 27 ≤ pc → T_215 pc = opN := by
  intro pc h
  unfold T_215
  rw [if_neg (Nat.not_lt.mpr h)]
set_option maxRecDepth 100000 in
theorem ck_215 : ∀ pc, chk mX6_hasNeeds 2 pc (T_215 pc) = true := chk_of nt_215 (by decide +kernel)
theorem nt_216 : ∀ pc, 150 ≤ pc → T_216 pc = opN := by
  intro pc h
  unfold T_216
  rw [if_neg (Nat.not_lt.mpr h)]
set_option maxRecDepth 100000 in
theorem ck_216 : ∀ pc, chk mX6_stands 4 pc (T_216 pc) = true := chk_of nt_216 (by decide +kernel)
theorem nt_217 : ∀ pc, 38 ≤ pc → T_217 pc = opN := by
  intro pc h
  unfold T_217
  rw [if_neg (Nat.not_lt.mpr h)]
set_option maxRecDepth 100000 in
theorem ck_217 : ∀ pc, chk mX6_board 2 pc (T_217 pc) = true := chk_of nt_217 (by decide +kernel)
theorem nt_218 : ∀ pc, 61 ≤ pc → T_218 pc = opN := by
  intro pc h
  unfold T_218
  rw [if_neg (Nat.not_lt.mpr h)]
set_option maxRecDepth 100000 in
theorem ck_218 : ∀ pc, chk mX6_slates 2 pc (T_218 pc) = true := chk_of nt_218 (by decide +kernel)
theorem nt_219 : ∀ pc, 63 ≤ pc → T_219 pc = opN := by
  intro pc h
  unfold T_219
  rw [if_neg (Nat.not_lt.mpr h)]
set_option maxRecDepth 100000 in
theorem ck_219 : ∀ pc, chk mX6_whyNotMove 4 pc (T_219 pc) = true := chk_of nt_219 (by decide +kernel)
theorem nt_220 : ∀ pc, 43 ≤ pc → T_220 pc = opN := by
  intro pc h
  unfold T_220
  rw [if_neg (Nat.not_lt.mpr h)]
set_option maxRecDepth 100000 in
theorem ck_220 : ∀ pc, chk mX6_moves 4 pc (T_220 pc) = true := chk_of nt_220 (by decide +kernel)
theorem nt_221 : ∀ pc, 50 ≤ pc → T_221 pc = opN := by
  intro pc h
  unfold T_221
  rw [if_neg (Nat.not_lt.mpr h)]
set_option maxRecDepth 100000 in
theorem ck_221 : ∀ pc, chk mX6_move 5 pc (T_221 pc) = true := chk_of nt_221 (by decide +kernel)
theorem nt_222 : ∀ pc, 23 ≤ pc → T_222 pc = opN := by
  intro pc h
  unfold T_222
  rw [if_neg (Nat.not_lt.mpr h)]
set_option maxRecDepth 100000 in
theorem ck_222 : ∀ pc, chk mX6_isTurn 2 pc (T_222 pc) = true := chk_of nt_222 (by decide +kernel)
theorem nt_223 : ∀ pc, 28 ≤ pc → T_223 pc = opN := by
  intro pc h
  unfold T_223
  rw [if_neg (Nat.not_lt.mpr h)]
set_option maxRecDepth 100000 in
theorem ck_223 : ∀ pc, chk mX6_canSwap 0 pc (T_223 pc) = true := chk_of nt_223 (by decide +kernel)
theorem nt_224 : ∀ pc, 17 ≤ pc → T_224 pc = opN := by
  intro pc h
  unfold T_224
  rw [if_neg (Nat.not_lt.mpr h)]
set_option maxRecDepth 100000 in
theorem ck_224 : ∀ pc, chk mX6_bothOf 0 pc (T_224 pc) = true := chk_of nt_224 (by decide +kernel)
theorem nt_225 : ∀ pc, 100 ≤ pc → T_225 pc = opN := by
  intro pc h
  unfold T_225
  rw [if_neg (Nat.not_lt.mpr h)]
set_option maxRecDepth 100000 in
theorem ck_225 : ∀ pc, chk mX6_swaps 4 pc (T_225 pc) = true := chk_of nt_225 (by decide +kernel)
theorem nt_226 : ∀ pc, 54 ≤ pc → T_226 pc = opN := by
  intro pc h
  unfold T_226
  rw [if_neg (Nat.not_lt.mpr h)]
set_option maxRecDepth 100000 in
theorem ck_226 : ∀ pc, chk mX6_swap 5 pc (T_226 pc) = true := chk_of nt_226 (by decide +kernel)
theorem nt_227 : ∀ pc, 112 ≤ pc → T_227 pc = opN := by
  intro pc h
  unfold T_227
  rw [if_neg (Nat.not_lt.mpr h)]
set_option maxRecDepth 100000 in
theorem ck_227 : ∀ pc, chk mX6_may 5 pc (T_227 pc) = true := chk_of nt_227 (by decide +kernel)
theorem nt_228 : ∀ pc, 56 ≤ pc → T_228 pc = opN := by
  intro pc h
  unfold T_228
  rw [if_neg (Nat.not_lt.mpr h)]
set_option maxRecDepth 100000 in
theorem ck_228 : ∀ pc, chk mX6_smudge 2 pc (T_228 pc) = true := chk_of nt_228 (by decide +kernel)
theorem nt_229 : ∀ pc, 59 ≤ pc → T_229 pc = opN := by
  intro pc h
  unfold T_229
  rw [if_neg (Nat.not_lt.mpr h)]
set_option maxRecDepth 100000 in
theorem ck_229 : ∀ pc, chk mX6_lend 1 pc (T_229 pc) = true := chk_of nt_229 (by decide +kernel)
theorem nt_230 : ∀ pc, 69 ≤ pc → T_230 pc = opN := by
  intro pc h
  unfold T_230
  rw [if_neg (Nat.not_lt.mpr h)]
set_option maxRecDepth 100000 in
theorem ck_230 : ∀ pc, chk mX6_give 2 pc (T_230 pc) = true := chk_of nt_230 (by decide +kernel)
theorem nt_231 : ∀ pc, 68 ≤ pc → T_231 pc = opN := by
  intro pc h
  unfold T_231
  rw [if_neg (Nat.not_lt.mpr h)]
set_option maxRecDepth 100000 in
theorem ck_231 : ∀ pc, chk mX6_lose 2 pc (T_231 pc) = true := chk_of nt_231 (by decide +kernel)
theorem nt_232 : ∀ pc, 24 ≤ pc → T_232 pc = opN := by
  intro pc h
  unfold T_232
  rw [if_neg (Nat.not_lt.mpr h)]
set_option maxRecDepth 100000 in
theorem ck_232 : ∀ pc, chk mX6_clear 1 pc (T_232 pc) = true := chk_of nt_232 (by decide +kernel)
theorem nt_233 : ∀ pc, 93 ≤ pc → T_233 pc = opN := by
  intro pc h
  unfold T_233
  rw [if_neg (Nat.not_lt.mpr h)]
set_option maxRecDepth 100000 in
theorem ck_233 : ∀ pc, chk mX6_does 5 pc (T_233 pc) = true := chk_of nt_233 (by decide +kernel)
theorem nt_234 : ∀ pc, 44 ≤ pc → T_234 pc = opN := by
  intro pc h
  unfold T_234
  rw [if_neg (Nat.not_lt.mpr h)]
set_option maxRecDepth 100000 in
theorem ck_234 : ∀ pc, chk mX6_judged 6 pc (T_234 pc) = true := chk_of nt_234 (by decide +kernel)
theorem nt_235 : ∀ pc, 36 ≤ pc → T_235 pc = opN := by
  intro pc h
  unfold T_235
  rw [if_neg (Nat.not_lt.mpr h)]
set_option maxRecDepth 100000 in
theorem ck_235 : ∀ pc, chk mX6_whyNot 2 pc (T_235 pc) = true := chk_of nt_235 (by decide +kernel)
theorem nt_236 : ∀ pc, 25 ≤ pc → T_236 pc = opN := by
  intro pc h
  unfold T_236
  rw [if_neg (Nat.not_lt.mpr h)]
set_option maxRecDepth 100000 in
theorem ck_236 : ∀ pc, chk mX6_judge 7 pc (T_236 pc) = true := chk_of nt_236 (by decide +kernel)
theorem nt_237 : ∀ pc, 31 ≤ pc → T_237 pc = opN := by
  intro pc h
  unfold T_237
  rw [if_neg (Nat.not_lt.mpr h)]
set_option maxRecDepth 100000 in
theorem ck_237 : ∀ pc, chk mX6_ends_ 7 pc (T_237 pc) = true := chk_of nt_237 (by decide +kernel)
theorem nt_238 : ∀ pc, 139 ≤ pc → T_238 pc = opN := by
  intro pc h
  unfold T_238
  rw [if_neg (Nat.not_lt.mpr h)]
set_option maxRecDepth 100000 in
theorem ck_238 : ∀ pc, chk mX6_backwards 7 pc (T_238 pc) = true := chk_of nt_238 (by decide +kernel)
theorem nt_239 : ∀ pc, 33 ≤ pc → T_239 pc = opN := by
  intro pc h
  unfold T_239
  rw [if_neg (Nat.not_lt.mpr h)]
set_option maxRecDepth 100000 in
theorem ck_239 : ∀ pc, chk mX6_begin 0 pc (T_239 pc) = true := chk_of nt_239 (by decide +kernel)
theorem nt_240 : ∀ pc, 59 ≤ pc → T_240 pc = opN := by
  intro pc h
  unfold T_240
  rw [if_neg (Nat.not_lt.mpr h)]
set_option maxRecDepth 100000 in
theorem ck_240 : ∀ pc, chk mX6_comes 0 pc (T_240 pc) = true := chk_of nt_240 (by decide +kernel)
theorem nt_241 : ∀ pc, 81 ≤ pc → T_241 pc = opN := by
  intro pc h
  unfold T_241
  rw [if_neg (Nat.not_lt.mpr h)]
set_option maxRecDepth 100000 in
theorem ck_241 : ∀ pc, chk mX6_behind 3 pc (T_241 pc) = true := chk_of nt_241 (by decide +kernel)
theorem nt_242 : ∀ pc, 80 ≤ pc → T_242 pc = opN := by
  intro pc h
  unfold T_242
  rw [if_neg (Nat.not_lt.mpr h)]
set_option maxRecDepth 100000 in
theorem ck_242 : ∀ pc, chk mX6_spreadsAt 4 pc (T_242 pc) = true := chk_of nt_242 (by decide +kernel)
theorem nt_243 : ∀ pc, 28 ≤ pc → T_243 pc = opN := by
  intro pc h
  unfold T_243
  rw [if_neg (Nat.not_lt.mpr h)]
set_option maxRecDepth 100000 in
theorem ck_243 : ∀ pc, chk mX6_spreadsFrom 5 pc (T_243 pc) = true := chk_of nt_243 (by decide +kernel)
theorem nt_244 : ∀ pc, 7 ≤ pc → T_244 pc = opN := by
  intro pc h
  unfold T_244
  rw [if_neg (Nat.not_lt.mpr h)]
set_option maxRecDepth 100000 in
theorem ck_244 : ∀ pc, chk mX6_spreads 6 pc (T_244 pc) = true := chk_of nt_244 (by decide +kernel)
theorem nt_245 : ∀ pc, 69 ≤ pc → T_245 pc = opN := by
  intro pc h
  unfold T_245
  rw [if_neg (Nat.not_lt.mpr h)]
set_option maxRecDepth 100000 in
theorem ck_245 : ∀ pc, chk mX6_laysTo 7 pc (T_245 pc) = true := chk_of nt_245 (by decide +kernel)
theorem nt_246 : ∀ pc, 24 ≤ pc → T_246 pc = opN := by
  intro pc h
  unfold T_246
  rw [if_neg (Nat.not_lt.mpr h)]
set_option maxRecDepth 100000 in
theorem ck_246 : ∀ pc, chk mX6_laysFrom 7 pc (T_246 pc) = true := chk_of nt_246 (by decide +kernel)
theorem nt_247 : ∀ pc, 10 ≤ pc → T_247 pc = opN := by
  intro pc h
  unfold T_247
  rw [if_neg (Nat.not_lt.mpr h)]
set_option maxRecDepth 100000 in
theorem ck_247 : ∀ pc, chk mX6_areSlates 1 pc (T_247 pc) = true := chk_of nt_247 (by decide +kernel)
theorem nt_248 : ∀ pc, 46 ≤ pc → T_248 pc = opN := by
  intro pc h
  unfold T_248
  rw [if_neg (Nat.not_lt.mpr h)]
set_option maxRecDepth 100000 in
theorem ck_248 : ∀ pc, chk mX6_fewest 8 pc (T_248 pc) = true := chk_of nt_248 (by decide +kernel)
theorem nt_249 : ∀ pc, 37 ≤ pc → T_249 pc = opN := by
  intro pc h
  unfold T_249
  rw [if_neg (Nat.not_lt.mpr h)]
set_option maxRecDepth 100000 in
theorem ck_249 : ∀ pc, chk mX6_steps 8 pc (T_249 pc) = true := chk_of nt_249 (by decide +kernel)
theorem nt_250 : ∀ pc, 42 ≤ pc → T_250 pc = opN := by
  intro pc h
  unfold T_250
  rw [if_neg (Nat.not_lt.mpr h)]
set_option maxRecDepth 100000 in
theorem ck_250 : ∀ pc, chk mX6_go 8 pc (T_250 pc) = true := chk_of nt_250 (by decide +kernel)
theorem nt_251 : ∀ pc, 42 ≤ pc → T_251 pc = opN := by
  intro pc h
  unfold T_251
  rw [if_neg (Nat.not_lt.mpr h)]
set_option maxRecDepth 100000 in
theorem ck_251 : ∀ pc, chk mX6_next_ 8 pc (T_251 pc) = true := chk_of nt_251 (by decide +kernel)
theorem nt_252 : ∀ pc, 38 ≤ pc → T_252 pc = opN := by
  intro pc h
  unfold T_252
  rw [if_neg (Nat.not_lt.mpr h)]
set_option maxRecDepth 100000 in
theorem ck_252 : ∀ pc, chk mX6_reach 8 pc (T_252 pc) = true := chk_of nt_252 (by decide +kernel)
theorem nt_253 : ∀ pc, 62 ≤ pc → T_253 pc = opN := by
  intro pc h
  unfold T_253
  rw [if_neg (Nat.not_lt.mpr h)]
set_option maxRecDepth 100000 in
theorem ck_253 : ∀ pc, chk mX6_ever 8 pc (T_253 pc) = true := chk_of nt_253 (by decide +kernel)
theorem nt_254 : ∀ pc, 123 ≤ pc → T_254 pc = opN := by
  intro pc h
  unfold T_254
  rw [if_neg (Nat.not_lt.mpr h)]
set_option maxRecDepth 100000 in
theorem ck_254 : ∀ pc, chk mX6_far 8 pc (T_254 pc) = true := chk_of nt_254 (by decide +kernel)
theorem nt_255 : ∀ pc, 82 ≤ pc → T_255 pc = opN := by
  intro pc h
  unfold T_255
  rw [if_neg (Nat.not_lt.mpr h)]
set_option maxRecDepth 100000 in
theorem ck_255 : ∀ pc, chk mX6_keeps 8 pc (T_255 pc) = true := chk_of nt_255 (by decide +kernel)
theorem nt_256 : ∀ pc, 32 ≤ pc → T_256 pc = opN := by
  intro pc h
  unfold T_256
  rw [if_neg (Nat.not_lt.mpr h)]
set_option maxRecDepth 100000 in
theorem ck_256 : ∀ pc, chk mX6_keep 9 pc (T_256 pc) = true := chk_of nt_256 (by decide +kernel)
theorem nt_257 : ∀ pc, 46 ≤ pc → T_257 pc = opN := by
  intro pc h
  unfold T_257
  rw [if_neg (Nat.not_lt.mpr h)]
set_option maxRecDepth 100000 in
theorem ck_257 : ∀ pc, chk mX6_cost 9 pc (T_257 pc) = true := chk_of nt_257 (by decide +kernel)
theorem nt_258 : ∀ pc, 117 ≤ pc → T_258 pc = opN := by
  intro pc h
  unfold T_258
  rw [if_neg (Nat.not_lt.mpr h)]
set_option maxRecDepth 100000 in
theorem ck_258 : ∀ pc, chk mX6_worst 8 pc (T_258 pc) = true := chk_of nt_258 (by decide +kernel)
theorem nt_259 : ∀ pc, 61 ≤ pc → T_259 pc = opN := by
  intro pc h
  unfold T_259
  rw [if_neg (Nat.not_lt.mpr h)]
set_option maxRecDepth 100000 in
theorem ck_259 : ∀ pc, chk mX6_lacks 8 pc (T_259 pc) = true := chk_of nt_259 (by decide +kernel)
theorem nt_260 : ∀ pc, 76 ≤ pc → T_260 pc = opN := by
  intro pc h
  unfold T_260
  rw [if_neg (Nat.not_lt.mpr h)]
set_option maxRecDepth 100000 in
theorem ck_260 : ∀ pc, chk mX6_nearer 4 pc (T_260 pc) = true := chk_of nt_260 (by decide +kernel)
theorem nt_261 : ∀ pc, 100 ≤ pc → T_261 pc = opN := by
  intro pc h
  unfold T_261
  rw [if_neg (Nat.not_lt.mpr h)]
set_option maxRecDepth 100000 in
theorem ck_261 : ∀ pc, chk mX6_path 8 pc (T_261 pc) = true := chk_of nt_261 (by decide +kernel)
theorem nt_262 : ∀ pc, 215 ≤ pc → T_262 pc = opN := by
  intro pc h
  unfold T_262
  rw [if_neg (Nat.not_lt.mpr h)]
set_option maxRecDepth 100000 in
theorem ck_262 : ∀ pc, chk mX6_ways 8 pc (T_262 pc) = true := chk_of nt_262 (by decide +kernel)
theorem nt_263 : ∀ pc, 43 ≤ pc → T_263 pc = opN := by
  intro pc h
  unfold T_263
  rw [if_neg (Nat.not_lt.mpr h)]
set_option maxRecDepth 100000 in
theorem ck_263 : ∀ pc, chk mX6_isReached 8 pc (T_263 pc) = true := chk_of nt_263 (by decide +kernel)
theorem nt_264 : ∀ pc, 107 ≤ pc → T_264 pc = opN := by
  intro pc h
  unfold T_264
  rw [if_neg (Nat.not_lt.mpr h)]
set_option maxRecDepth 100000 in
theorem ck_264 : ∀ pc, chk mX6_must 9 pc (T_264 pc) = true := chk_of nt_264 (by decide +kernel)
theorem nt_265 : ∀ pc, 54 ≤ pc → T_265 pc = opN := by
  intro pc h
  unfold T_265
  rw [if_neg (Nat.not_lt.mpr h)]
set_option maxRecDepth 100000 in
theorem ck_265 : ∀ pc, chk mX6_apart 8 pc (T_265 pc) = true := chk_of nt_265 (by decide +kernel)
theorem nt_266 : ∀ pc, 146 ≤ pc → T_266 pc = opN := by
  intro pc h
  unfold T_266
  rw [if_neg (Nat.not_lt.mpr h)]
set_option maxRecDepth 100000 in
theorem ck_266 : ∀ pc, chk mX6_groups 6 pc (T_266 pc) = true := chk_of nt_266 (by decide +kernel)
theorem nt_267 : ∀ pc, 152 ≤ pc → T_267 pc = opN := by
  intro pc h
  unfold T_267
  rw [if_neg (Nat.not_lt.mpr h)]
set_option maxRecDepth 100000 in
theorem ck_267 : ∀ pc, chk mX6_breaks 8 pc (T_267 pc) = true := chk_of nt_267 (by decide +kernel)
theorem nt_268 : ∀ pc, 73 ≤ pc → T_268 pc = opN := by
  intro pc h
  unfold T_268
  rw [if_neg (Nat.not_lt.mpr h)]
set_option maxRecDepth 100000 in
theorem ck_268 : ∀ pc, chk mX6_within 8 pc (T_268 pc) = true := chk_of nt_268 (by decide +kernel)
theorem nt_269 : ∀ pc, 57 ≤ pc → T_269 pc = opN := by
  intro pc h
  unfold T_269
  rw [if_neg (Nat.not_lt.mpr h)]
set_option maxRecDepth 100000 in
theorem ck_269 : ∀ pc, chk mX6_made 8 pc (T_269 pc) = true := chk_of nt_269 (by decide +kernel)
theorem nt_270 : ∀ pc, 199 ≤ pc → T_270 pc = opN := by
  intro pc h
  unfold T_270
  rw [if_neg (Nat.not_lt.mpr h)]
set_option maxRecDepth 100000 in
theorem ck_270 : ∀ pc, chk mX6_goesOn 5 pc (T_270 pc) = true := chk_of nt_270 (by decide +kernel)
theorem nt_271 : ∀ pc, 231 ≤ pc → T_271 pc = opN := by
  intro pc h
  unfold T_271
  rw [if_neg (Nat.not_lt.mpr h)]
set_option maxRecDepth 100000 in
theorem ck_271 : ∀ pc, chk mX6_series 8 pc (T_271 pc) = true := chk_of nt_271 (by decide +kernel)
theorem nt_272 : ∀ pc, 166 ≤ pc → T_272 pc = opN := by
  intro pc h
  unfold T_272
  rw [if_neg (Nat.not_lt.mpr h)]
set_option maxRecDepth 100000 in
theorem ck_272 : ∀ pc, chk mX6_culprits 4 pc (T_272 pc) = true := chk_of nt_272 (by decide +kernel)
theorem nt_273 : ∀ pc, 163 ≤ pc → T_273 pc = opN := by
  intro pc h
  unfold T_273
  rw [if_neg (Nat.not_lt.mpr h)]
set_option maxRecDepth 100000 in
theorem ck_273 : ∀ pc, chk mX6_laysTrees 0 pc (T_273 pc) = true := chk_of nt_273 (by decide +kernel)
theorem nt_274 : ∀ pc, 50 ≤ pc → T_274 pc = opN := by
  intro pc h
  unfold T_274
  rw [if_neg (Nat.not_lt.mpr h)]
set_option maxRecDepth 100000 in
theorem ck_274 : ∀ pc, chk mX6_tree 1 pc (T_274 pc) = true := chk_of nt_274 (by decide +kernel)
theorem nt_275 : ∀ pc, 51 ≤ pc → T_275 pc = opN := by
  intro pc h
  unfold T_275
  rw [if_neg (Nat.not_lt.mpr h)]
set_option maxRecDepth 100000 in
theorem ck_275 : ∀ pc, chk mX6_tall 1 pc (T_275 pc) = true := chk_of nt_275 (by decide +kernel)
theorem nt_276 : ∀ pc, 253 ≤ pc → T_276 pc = opN := by
  intro pc h
  unfold T_276
  rw [if_neg (Nat.not_lt.mpr h)]
set_option maxRecDepth 100000 in
theorem ck_276 : ∀ pc, chk mX6_laysChains 0 pc (T_276 pc) = true := chk_of nt_276 (by decide +kernel)
theorem nt_277 : ∀ pc, 10 ≤ pc → T_277 pc = opN := by
  intro pc h
  unfold T_277
  rw [if_neg (Nat.not_lt.mpr h)]
set_option maxRecDepth 100000 in
theorem ck_277 : ∀ pc, chk mX6_isChain 1 pc (T_277 pc) = true := chk_of nt_277 (by decide +kernel)
theorem nt_278 : ∀ pc, 41 ≤ pc → T_278 pc = opN := by
  intro pc h
  unfold T_278
  rw [if_neg (Nat.not_lt.mpr h)]
set_option maxRecDepth 100000 in
theorem ck_278 : ∀ pc, chk mX6_chain 2 pc (T_278 pc) = true := chk_of nt_278 (by decide +kernel)
theorem nt_279 : ∀ pc, 40 ≤ pc → T_279 pc = opN := by
  intro pc h
  unfold T_279
  rw [if_neg (Nat.not_lt.mpr h)]
set_option maxRecDepth 100000 in
theorem ck_279 : ∀ pc, chk mX6_middle 2 pc (T_279 pc) = true := chk_of nt_279 (by decide +kernel)
theorem nt_280 : ∀ pc, 56 ≤ pc → T_280 pc = opN := by
  intro pc h
  unfold T_280
  rw [if_neg (Nat.not_lt.mpr h)]
set_option maxRecDepth 100000 in
theorem ck_280 : ∀ pc, chk mX6_least 2 pc (T_280 pc) = true := chk_of nt_280 (by decide +kernel)
theorem nt_281 : ∀ pc, 18 ≤ pc → T_281 pc = opN := by
  intro pc h
  unfold T_281
  rw [if_neg (Nat.not_lt.mpr h)]
set_option maxRecDepth 100000 in
theorem ck_281 : ∀ pc, chk mX6_powerBelow 0 pc (T_281 pc) = true := chk_of nt_281 (by decide +kernel)
theorem nt_282 : ∀ pc, 61 ≤ pc → T_282 pc = opN := by
  intro pc h
  unfold T_282
  rw [if_neg (Nat.not_lt.mpr h)]
set_option maxRecDepth 100000 in
theorem ck_282 : ∀ pc, chk mX6_laysPower 0 pc (T_282 pc) = true := chk_of nt_282 (by decide +kernel)
theorem nt_283 : ∀ pc, 139 ≤ pc → T_283 pc = opN := by
  intro pc h
  unfold T_283
  rw [if_neg (Nat.not_lt.mpr h)]
set_option maxRecDepth 100000 in
theorem ck_283 : ∀ pc, chk mX6_laysBy 1 pc (T_283 pc) = true := chk_of nt_283 (by decide +kernel)
theorem nt_284 : ∀ pc, 27 ≤ pc → T_284 pc = opN := by
  intro pc h
  unfold T_284
  rw [if_neg (Nat.not_lt.mpr h)]
set_option maxRecDepth 100000 in
theorem ck_284 : ∀ pc, chk mX6_arePowers 2 pc (T_284 pc) = true := chk_of nt_284 (by decide +kernel)
theorem nt_285 : ∀ pc, 28 ≤ pc → T_285 pc = opN := by
  intro pc h
  unfold T_285
  rw [if_neg (Nat.not_lt.mpr h)]
set_option maxRecDepth 100000 in
theorem ck_285 : ∀ pc, chk mX6_powers 3 pc (T_285 pc) = true := chk_of nt_285 (by decide +kernel)
theorem nt_286 : ∀ pc, 27 ≤ pc → T_286 pc = opN := by
  intro pc h
  unfold T_286
  rw [if_neg (Nat.not_lt.mpr h)]
set_option maxRecDepth 100000 in
theorem ck_286 : ∀ pc, chk mX6_taken 3 pc (T_286 pc) = true := chk_of nt_286 (by decide +kernel)
theorem nt_287 : ∀ pc, 33 ≤ pc → T_287 pc = opN := by
  intro pc h
  unfold T_287
  rw [if_neg (Nat.not_lt.mpr h)]
set_option maxRecDepth 100000 in
theorem ck_287 : ∀ pc, chk mX6_drawn 0 pc (T_287 pc) = true := chk_of nt_287 (by decide +kernel)
theorem nt_288 : ∀ pc, 135 ≤ pc → T_288 pc = opN := by
  intro pc h
  unfold T_288
  rw [if_neg (Nat.not_lt.mpr h)]
set_option maxRecDepth 100000 in
theorem ck_288 : ∀ pc, chk mX6_walksOn 4 pc (T_288 pc) = true := chk_of nt_288 (by decide +kernel)
theorem nt_289 : ∀ pc, 120 ≤ pc → T_289 pc = opN := by
  intro pc h
  unfold T_289
  rw [if_neg (Nat.not_lt.mpr h)]
set_option maxRecDepth 100000 in
theorem ck_289 : ∀ pc, chk mX6_walks 5 pc (T_289 pc) = true := chk_of nt_289 (by decide +kernel)
theorem nt_290 : ∀ pc, 37 ≤ pc → T_290 pc = opN := by
  intro pc h
  unfold T_290
  rw [if_neg (Nat.not_lt.mpr h)]
set_option maxRecDepth 100000 in
theorem ck_290 : ∀ pc, chk mX6_isWalk 1 pc (T_290 pc) = true := chk_of nt_290 (by decide +kernel)
theorem nt_291 : ∀ pc, 28 ≤ pc → T_291 pc = opN := by
  intro pc h
  unfold T_291
  rw [if_neg (Nat.not_lt.mpr h)]
set_option maxRecDepth 100000 in
theorem ck_291 : ∀ pc, chk mX6_walk 6 pc (T_291 pc) = true := chk_of nt_291 (by decide +kernel)
theorem nt_292 : ∀ pc, 28 ≤ pc → T_292 pc = opN := by
  intro pc h
  unfold T_292
  rw [if_neg (Nat.not_lt.mpr h)]
set_option maxRecDepth 100000 in
theorem ck_292 : ∀ pc, chk mX6_seen 6 pc (T_292 pc) = true := chk_of nt_292 (by decide +kernel)
theorem nt_293 : ∀ pc, 247 ≤ pc → T_293 pc = opN := by
  intro pc h
  unfold T_293
  rw [if_neg (Nat.not_lt.mpr h)]
set_option maxRecDepth 100000 in
theorem ck_293 : ∀ pc, chk mX6_count 3 pc (T_293 pc) = true := chk_of nt_293 (by decide +kernel)
theorem nt_294 : ∀ pc, 37 ≤ pc → T_294 pc = opN := by
  intro pc h
  unfold T_294
  rw [if_neg (Nat.not_lt.mpr h)]
set_option maxRecDepth 100000 in
theorem ck_294 : ∀ pc, chk mX6_image 2 pc (T_294 pc) = true := chk_of nt_294 (by decide +kernel)
theorem nt_295 : ∀ pc, 42 ≤ pc → T_295 pc = opN := by
  intro pc h
  unfold T_295
  rw [if_neg (Nat.not_lt.mpr h)]
set_option maxRecDepth 100000 in
theorem ck_295 : ∀ pc, chk mX6_back 2 pc (T_295 pc) = true := chk_of nt_295 (by decide +kernel)
theorem nt_296 : ∀ pc, 53 ≤ pc → T_296 pc = opN := by
  intro pc h
  unfold T_296
  rw [if_neg (Nat.not_lt.mpr h)]
set_option maxRecDepth 100000 in
theorem ck_296 : ∀ pc, chk mJ6_bitCount_0f7a4 0 pc (T_296 pc) = true := chk_of nt_296 (by decide +kernel)
theorem nt_297 : ∀ pc, 74 ≤ pc → T_297 pc = opN := by
  intro pc h
  unfold T_297
  rw [if_neg (Nat.not_lt.mpr h)]
set_option maxRecDepth 100000 in
theorem ck_297 : ∀ pc, chk mJ7_rangeCheck_23922 0 pc (T_297 pc) = true := chk_of nt_297 (by decide +kernel)
theorem nt_298 : ∀ pc, 23 ≤ pc → T_298 pc = opN := by
  intro pc h
  unfold T_298
  rw [if_neg (Nat.not_lt.mpr h)]
set_option maxRecDepth 100000 in
theorem ck_298 : ∀ pc, chk mJ7_fill_d0a16 0 pc (T_298 pc) = true := chk_of nt_298 (by decide +kernel)
theorem nt_299 : ∀ pc, 21 ≤ pc → T_299 pc = opN := by
  intro pc h
  unfold T_299
  rw [if_neg (Nat.not_lt.mpr h)]
set_option maxRecDepth 100000 in
theorem ck_299 : ∀ pc, chk mJ7_fill_53178 0 pc (T_299 pc) = true := chk_of nt_299 (by decide +kernel)
theorem nt_300 : ∀ pc, 28 ≤ pc → T_300 pc = opN := by
  intro pc h
  unfold T_300
  rw [if_neg (Nat.not_lt.mpr h)]
set_option maxRecDepth 100000 in
theorem ck_300 : ∀ pc, chk mJ7_fill_fda19 1 pc (T_300 pc) = true := chk_of nt_300 (by decide +kernel)
set_option maxRecDepth 100000 in
theorem cm_0 : chkM 0 = true := by decide +kernel
set_option maxRecDepth 100000 in
theorem cm_1 : chkM 1 = true := by decide +kernel
set_option maxRecDepth 100000 in
theorem cm_2 : chkM 2 = true := by decide +kernel
set_option maxRecDepth 100000 in
theorem cm_3 : chkM 3 = true := by decide +kernel
set_option maxRecDepth 100000 in
theorem cm_4 : chkM 4 = true := by decide +kernel
set_option maxRecDepth 100000 in
theorem cm_5 : chkM 5 = true := by decide +kernel
set_option maxRecDepth 100000 in
theorem cm_6 : chkM 6 = true := by decide +kernel
set_option maxRecDepth 100000 in
theorem cm_7 : chkM 7 = true := by decide +kernel
set_option maxRecDepth 100000 in
theorem cm_8 : chkM 8 = true := by decide +kernel
set_option maxRecDepth 100000 in
theorem cm_9 : chkM 9 = true := by decide +kernel
set_option maxRecDepth 100000 in
theorem cm_10 : chkM 10 = true := by decide +kernel
set_option maxRecDepth 100000 in
theorem cm_11 : chkM 11 = true := by decide +kernel
set_option maxRecDepth 100000 in
theorem cm_12 : chkM 12 = true := by decide +kernel
set_option maxRecDepth 100000 in
theorem cm_13 : chkM 13 = true := by decide +kernel
set_option maxRecDepth 100000 in
theorem cm_14 : chkM 14 = true := by decide +kernel
set_option maxRecDepth 100000 in
theorem cm_15 : chkM 15 = true := by decide +kernel
set_option maxRecDepth 100000 in
theorem cm_16 : chkM 16 = true := by decide +kernel
set_option maxRecDepth 100000 in
theorem cm_17 : chkM 17 = true := by decide +kernel
set_option maxRecDepth 100000 in
theorem cm_18 : chkM 18 = true := by decide +kernel
set_option maxRecDepth 100000 in
theorem cm_19 : chkM 19 = true := by decide +kernel
set_option maxRecDepth 100000 in
theorem cm_20 : chkM 20 = true := by decide +kernel
set_option maxRecDepth 100000 in
theorem cm_21 : chkM 21 = true := by decide +kernel
set_option maxRecDepth 100000 in
theorem cm_22 : chkM 22 = true := by decide +kernel
set_option maxRecDepth 100000 in
theorem cm_23 : chkM 23 = true := by decide +kernel
set_option maxRecDepth 100000 in
theorem cm_24 : chkM 24 = true := by decide +kernel
set_option maxRecDepth 100000 in
theorem cm_25 : chkM 25 = true := by decide +kernel
set_option maxRecDepth 100000 in
theorem cm_26 : chkM 26 = true := by decide +kernel
set_option maxRecDepth 100000 in
theorem cm_27 : chkM 27 = true := by decide +kernel
set_option maxRecDepth 100000 in
theorem cm_28 : chkM 28 = true := by decide +kernel
set_option maxRecDepth 100000 in
theorem cm_29 : chkM 29 = true := by decide +kernel
set_option maxRecDepth 100000 in
theorem cm_30 : chkM 30 = true := by decide +kernel
set_option maxRecDepth 100000 in
theorem cm_31 : chkM 31 = true := by decide +kernel
set_option maxRecDepth 100000 in
theorem cm_32 : chkM 32 = true := by decide +kernel
set_option maxRecDepth 100000 in
theorem cm_33 : chkM 33 = true := by decide +kernel
set_option maxRecDepth 100000 in
theorem cm_34 : chkM 34 = true := by decide +kernel
set_option maxRecDepth 100000 in
theorem cm_35 : chkM 35 = true := by decide +kernel
set_option maxRecDepth 100000 in
theorem cm_36 : chkM 36 = true := by decide +kernel
set_option maxRecDepth 100000 in
theorem cm_37 : chkM 37 = true := by decide +kernel
set_option maxRecDepth 100000 in
theorem cm_38 : chkM 38 = true := by decide +kernel
set_option maxRecDepth 100000 in
theorem cm_39 : chkM 39 = true := by decide +kernel
set_option maxRecDepth 100000 in
theorem cm_40 : chkM 40 = true := by decide +kernel
set_option maxRecDepth 100000 in
theorem cm_41 : chkM 41 = true := by decide +kernel
set_option maxRecDepth 100000 in
theorem cm_42 : chkM 42 = true := by decide +kernel
set_option maxRecDepth 100000 in
theorem cm_43 : chkM 43 = true := by decide +kernel
set_option maxRecDepth 100000 in
theorem cm_44 : chkM 44 = true := by decide +kernel
set_option maxRecDepth 100000 in
theorem cm_45 : chkM 45 = true := by decide +kernel
set_option maxRecDepth 100000 in
theorem cm_46 : chkM 46 = true := by decide +kernel
set_option maxRecDepth 100000 in
theorem cm_47 : chkM 47 = true := by decide +kernel
set_option maxRecDepth 100000 in
theorem cm_48 : chkM 48 = true := by decide +kernel
set_option maxRecDepth 100000 in
theorem cm_49 : chkM 49 = true := by decide +kernel
set_option maxRecDepth 100000 in
theorem cm_50 : chkM 50 = true := by decide +kernel
set_option maxRecDepth 100000 in
theorem cm_51 : chkM 51 = true := by decide +kernel
set_option maxRecDepth 100000 in
theorem cm_52 : chkM 52 = true := by decide +kernel
set_option maxRecDepth 100000 in
theorem cm_53 : chkM 53 = true := by decide +kernel
set_option maxRecDepth 100000 in
theorem cm_54 : chkM 54 = true := by decide +kernel
set_option maxRecDepth 100000 in
theorem cm_55 : chkM 55 = true := by decide +kernel
set_option maxRecDepth 100000 in
theorem cm_56 : chkM 56 = true := by decide +kernel
set_option maxRecDepth 100000 in
theorem cm_57 : chkM 57 = true := by decide +kernel
set_option maxRecDepth 100000 in
theorem cm_58 : chkM 58 = true := by decide +kernel
set_option maxRecDepth 100000 in
theorem cm_59 : chkM 59 = true := by decide +kernel
set_option maxRecDepth 100000 in
theorem cm_60 : chkM 60 = true := by decide +kernel
set_option maxRecDepth 100000 in
theorem cm_61 : chkM 61 = true := by decide +kernel
set_option maxRecDepth 100000 in
theorem cm_62 : chkM 62 = true := by decide +kernel
set_option maxRecDepth 100000 in
theorem cm_63 : chkM 63 = true := by decide +kernel
set_option maxRecDepth 100000 in
theorem cm_64 : chkM 64 = true := by decide +kernel
set_option maxRecDepth 100000 in
theorem cm_65 : chkM 65 = true := by decide +kernel
set_option maxRecDepth 100000 in
theorem cm_66 : chkM 66 = true := by decide +kernel
set_option maxRecDepth 100000 in
theorem cm_67 : chkM 67 = true := by decide +kernel
set_option maxRecDepth 100000 in
theorem cm_68 : chkM 68 = true := by decide +kernel
set_option maxRecDepth 100000 in
theorem cm_69 : chkM 69 = true := by decide +kernel
set_option maxRecDepth 100000 in
theorem cm_70 : chkM 70 = true := by decide +kernel
set_option maxRecDepth 100000 in
theorem cm_71 : chkM 71 = true := by decide +kernel
set_option maxRecDepth 100000 in
theorem cm_72 : chkM 72 = true := by decide +kernel
set_option maxRecDepth 100000 in
theorem cm_73 : chkM 73 = true := by decide +kernel
set_option maxRecDepth 100000 in
theorem cm_74 : chkM 74 = true := by decide +kernel
set_option maxRecDepth 100000 in
theorem cm_75 : chkM 75 = true := by decide +kernel
set_option maxRecDepth 100000 in
theorem cm_76 : chkM 76 = true := by decide +kernel
set_option maxRecDepth 100000 in
theorem cm_77 : chkM 77 = true := by decide +kernel
set_option maxRecDepth 100000 in
theorem cm_78 : chkM 78 = true := by decide +kernel
set_option maxRecDepth 100000 in
theorem cm_79 : chkM 79 = true := by decide +kernel
set_option maxRecDepth 100000 in
theorem cm_80 : chkM 80 = true := by decide +kernel
set_option maxRecDepth 100000 in
theorem cm_81 : chkM 81 = true := by decide +kernel
set_option maxRecDepth 100000 in
theorem cm_82 : chkM 82 = true := by decide +kernel
set_option maxRecDepth 100000 in
theorem cm_83 : chkM 83 = true := by decide +kernel
set_option maxRecDepth 100000 in
theorem cm_84 : chkM 84 = true := by decide +kernel
set_option maxRecDepth 100000 in
theorem cm_85 : chkM 85 = true := by decide +kernel
set_option maxRecDepth 100000 in
theorem cm_86 : chkM 86 = true := by decide +kernel
set_option maxRecDepth 100000 in
theorem cm_87 : chkM 87 = true := by decide +kernel
set_option maxRecDepth 100000 in
theorem cm_88 : chkM 88 = true := by decide +kernel
set_option maxRecDepth 100000 in
theorem cm_89 : chkM 89 = true := by decide +kernel
set_option maxRecDepth 100000 in
theorem cm_90 : chkM 90 = true := by decide +kernel
set_option maxRecDepth 100000 in
theorem cm_91 : chkM 91 = true := by decide +kernel
set_option maxRecDepth 100000 in
theorem cm_92 : chkM 92 = true := by decide +kernel
set_option maxRecDepth 100000 in
theorem cm_93 : chkM 93 = true := by decide +kernel
set_option maxRecDepth 100000 in
theorem cm_94 : chkM 94 = true := by decide +kernel
set_option maxRecDepth 100000 in
theorem cm_95 : chkM 95 = true := by decide +kernel
set_option maxRecDepth 100000 in
theorem cm_96 : chkM 96 = true := by decide +kernel
set_option maxRecDepth 100000 in
theorem cm_97 : chkM 97 = true := by decide +kernel
set_option maxRecDepth 100000 in
theorem cm_98 : chkM 98 = true := by decide +kernel
set_option maxRecDepth 100000 in
theorem cm_99 : chkM 99 = true := by decide +kernel
set_option maxRecDepth 100000 in
theorem cm_100 : chkM 100 = true := by decide +kernel
set_option maxRecDepth 100000 in
theorem cm_101 : chkM 101 = true := by decide +kernel
set_option maxRecDepth 100000 in
theorem cm_102 : chkM 102 = true := by decide +kernel
set_option maxRecDepth 100000 in
theorem cm_103 : chkM 103 = true := by decide +kernel
set_option maxRecDepth 100000 in
theorem cm_104 : chkM 104 = true := by decide +kernel
set_option maxRecDepth 100000 in
theorem cm_105 : chkM 105 = true := by decide +kernel
set_option maxRecDepth 100000 in
theorem cm_106 : chkM 106 = true := by decide +kernel
set_option maxRecDepth 100000 in
theorem cm_107 : chkM 107 = true := by decide +kernel
set_option maxRecDepth 100000 in
theorem cm_108 : chkM 108 = true := by decide +kernel
set_option maxRecDepth 100000 in
theorem cm_109 : chkM 109 = true := by decide +kernel
set_option maxRecDepth 100000 in
theorem cm_110 : chkM 110 = true := by decide +kernel
set_option maxRecDepth 100000 in
theorem cm_111 : chkM 111 = true := by decide +kernel
set_option maxRecDepth 100000 in
theorem cm_112 : chkM 112 = true := by decide +kernel
set_option maxRecDepth 100000 in
theorem cm_113 : chkM 113 = true := by decide +kernel
set_option maxRecDepth 100000 in
theorem cm_114 : chkM 114 = true := by decide +kernel
set_option maxRecDepth 100000 in
theorem cm_115 : chkM 115 = true := by decide +kernel
set_option maxRecDepth 100000 in
theorem cm_116 : chkM 116 = true := by decide +kernel
set_option maxRecDepth 100000 in
theorem cm_117 : chkM 117 = true := by decide +kernel
set_option maxRecDepth 100000 in
theorem cm_118 : chkM 118 = true := by decide +kernel
set_option maxRecDepth 100000 in
theorem cm_119 : chkM 119 = true := by decide +kernel
set_option maxRecDepth 100000 in
theorem cm_120 : chkM 120 = true := by decide +kernel
set_option maxRecDepth 100000 in
theorem cm_121 : chkM 121 = true := by decide +kernel
set_option maxRecDepth 100000 in
theorem cm_122 : chkM 122 = true := by decide +kernel
set_option maxRecDepth 100000 in
theorem cm_123 : chkM 123 = true := by decide +kernel
set_option maxRecDepth 100000 in
theorem cm_124 : chkM 124 = true := by decide +kernel
set_option maxRecDepth 100000 in
theorem cm_125 : chkM 125 = true := by decide +kernel
set_option maxRecDepth 100000 in
theorem cm_126 : chkM 126 = true := by decide +kernel
set_option maxRecDepth 100000 in
theorem cm_127 : chkM 127 = true := by decide +kernel
set_option maxRecDepth 100000 in
theorem cm_128 : chkM 128 = true := by decide +kernel
set_option maxRecDepth 100000 in
theorem cm_129 : chkM 129 = true := by decide +kernel
set_option maxRecDepth 100000 in
theorem cm_130 : chkM 130 = true := by decide +kernel
set_option maxRecDepth 100000 in
theorem cm_131 : chkM 131 = true := by decide +kernel
set_option maxRecDepth 100000 in
theorem cm_132 : chkM 132 = true := by decide +kernel
set_option maxRecDepth 100000 in
theorem cm_133 : chkM 133 = true := by decide +kernel
set_option maxRecDepth 100000 in
theorem cm_134 : chkM 134 = true := by decide +kernel
set_option maxRecDepth 100000 in
theorem cm_135 : chkM 135 = true := by decide +kernel
set_option maxRecDepth 100000 in
theorem cm_136 : chkM 136 = true := by decide +kernel
set_option maxRecDepth 100000 in
theorem cm_137 : chkM 137 = true := by decide +kernel
set_option maxRecDepth 100000 in
theorem cm_138 : chkM 138 = true := by decide +kernel
set_option maxRecDepth 100000 in
theorem cm_139 : chkM 139 = true := by decide +kernel
set_option maxRecDepth 100000 in
theorem cm_140 : chkM 140 = true := by decide +kernel
set_option maxRecDepth 100000 in
theorem cm_141 : chkM 141 = true := by decide +kernel
set_option maxRecDepth 100000 in
theorem cm_142 : chkM 142 = true := by decide +kernel
set_option maxRecDepth 100000 in
theorem cm_143 : chkM 143 = true := by decide +kernel
set_option maxRecDepth 100000 in
theorem cm_144 : chkM 144 = true := by decide +kernel
set_option maxRecDepth 100000 in
theorem cm_145 : chkM 145 = true := by decide +kernel
set_option maxRecDepth 100000 in
theorem cm_146 : chkM 146 = true := by decide +kernel
set_option maxRecDepth 100000 in
theorem cm_147 : chkM 147 = true := by decide +kernel
set_option maxRecDepth 100000 in
theorem cm_148 : chkM 148 = true := by decide +kernel
set_option maxRecDepth 100000 in
theorem cm_149 : chkM 149 = true := by decide +kernel
set_option maxRecDepth 100000 in
theorem cm_150 : chkM 150 = true := by decide +kernel
set_option maxRecDepth 100000 in
theorem cm_151 : chkM 151 = true := by decide +kernel
set_option maxRecDepth 100000 in
theorem cm_152 : chkM 152 = true := by decide +kernel
set_option maxRecDepth 100000 in
theorem cm_153 : chkM 153 = true := by decide +kernel
set_option maxRecDepth 100000 in
theorem cm_154 : chkM 154 = true := by decide +kernel
set_option maxRecDepth 100000 in
theorem cm_155 : chkM 155 = true := by decide +kernel
set_option maxRecDepth 100000 in
theorem cm_156 : chkM 156 = true := by decide +kernel
set_option maxRecDepth 100000 in
theorem cm_157 : chkM 157 = true := by decide +kernel
set_option maxRecDepth 100000 in
theorem cm_158 : chkM 158 = true := by decide +kernel
set_option maxRecDepth 100000 in
theorem cm_159 : chkM 159 = true := by decide +kernel
set_option maxRecDepth 100000 in
theorem cm_160 : chkM 160 = true := by decide +kernel
set_option maxRecDepth 100000 in
theorem cm_161 : chkM 161 = true := by decide +kernel
set_option maxRecDepth 100000 in
theorem cm_162 : chkM 162 = true := by decide +kernel
set_option maxRecDepth 100000 in
theorem cm_163 : chkM 163 = true := by decide +kernel
set_option maxRecDepth 100000 in
theorem cm_164 : chkM 164 = true := by decide +kernel
set_option maxRecDepth 100000 in
theorem cm_165 : chkM 165 = true := by decide +kernel
set_option maxRecDepth 100000 in
theorem cm_166 : chkM 166 = true := by decide +kernel
set_option maxRecDepth 100000 in
theorem cm_167 : chkM 167 = true := by decide +kernel
set_option maxRecDepth 100000 in
theorem cm_168 : chkM 168 = true := by decide +kernel
set_option maxRecDepth 100000 in
theorem cm_169 : chkM 169 = true := by decide +kernel
set_option maxRecDepth 100000 in
theorem cm_170 : chkM 170 = true := by decide +kernel
set_option maxRecDepth 100000 in
theorem cm_171 : chkM 171 = true := by decide +kernel
set_option maxRecDepth 100000 in
theorem cm_172 : chkM 172 = true := by decide +kernel
set_option maxRecDepth 100000 in
theorem cm_173 : chkM 173 = true := by decide +kernel
set_option maxRecDepth 100000 in
theorem cm_174 : chkM 174 = true := by decide +kernel
set_option maxRecDepth 100000 in
theorem cm_175 : chkM 175 = true := by decide +kernel
set_option maxRecDepth 100000 in
theorem cm_176 : chkM 176 = true := by decide +kernel
set_option maxRecDepth 100000 in
theorem cm_177 : chkM 177 = true := by decide +kernel
set_option maxRecDepth 100000 in
theorem cm_178 : chkM 178 = true := by decide +kernel
set_option maxRecDepth 100000 in
theorem cm_179 : chkM 179 = true := by decide +kernel
set_option maxRecDepth 100000 in
theorem cm_180 : chkM 180 = true := by decide +kernel
set_option maxRecDepth 100000 in
theorem cm_181 : chkM 181 = true := by decide +kernel
set_option maxRecDepth 100000 in
theorem cm_182 : chkM 182 = true := by decide +kernel
set_option maxRecDepth 100000 in
theorem cm_183 : chkM 183 = true := by decide +kernel
set_option maxRecDepth 100000 in
theorem cm_184 : chkM 184 = true := by decide +kernel
set_option maxRecDepth 100000 in
theorem cm_185 : chkM 185 = true := by decide +kernel
set_option maxRecDepth 100000 in
theorem cm_186 : chkM 186 = true := by decide +kernel
set_option maxRecDepth 100000 in
theorem cm_187 : chkM 187 = true := by decide +kernel
set_option maxRecDepth 100000 in
theorem cm_188 : chkM 188 = true := by decide +kernel
set_option maxRecDepth 100000 in
theorem cm_189 : chkM 189 = true := by decide +kernel
set_option maxRecDepth 100000 in
theorem cm_190 : chkM 190 = true := by decide +kernel
set_option maxRecDepth 100000 in
theorem cm_191 : chkM 191 = true := by decide +kernel
set_option maxRecDepth 100000 in
theorem cm_192 : chkM 192 = true := by decide +kernel
set_option maxRecDepth 100000 in
theorem cm_193 : chkM 193 = true := by decide +kernel
set_option maxRecDepth 100000 in
theorem cm_194 : chkM 194 = true := by decide +kernel
set_option maxRecDepth 100000 in
theorem cm_195 : chkM 195 = true := by decide +kernel
set_option maxRecDepth 100000 in
theorem cm_196 : chkM 196 = true := by decide +kernel
set_option maxRecDepth 100000 in
theorem cm_197 : chkM 197 = true := by decide +kernel
set_option maxRecDepth 100000 in
theorem cm_198 : chkM 198 = true := by decide +kernel
set_option maxRecDepth 100000 in
theorem cm_199 : chkM 199 = true := by decide +kernel
set_option maxRecDepth 100000 in
theorem cm_200 : chkM 200 = true := by decide +kernel
set_option maxRecDepth 100000 in
theorem cm_201 : chkM 201 = true := by decide +kernel
set_option maxRecDepth 100000 in
theorem cm_202 : chkM 202 = true := by decide +kernel
set_option maxRecDepth 100000 in
theorem cm_203 : chkM 203 = true := by decide +kernel
set_option maxRecDepth 100000 in
theorem cm_204 : chkM 204 = true := by decide +kernel
set_option maxRecDepth 100000 in
theorem cm_205 : chkM 205 = true := by decide +kernel
set_option maxRecDepth 100000 in
theorem cm_206 : chkM 206 = true := by decide +kernel
set_option maxRecDepth 100000 in
theorem cm_207 : chkM 207 = true := by decide +kernel
set_option maxRecDepth 100000 in
theorem cm_208 : chkM 208 = true := by decide +kernel
set_option maxRecDepth 100000 in
theorem cm_209 : chkM 209 = true := by decide +kernel
set_option maxRecDepth 100000 in
theorem cm_210 : chkM 210 = true := by decide +kernel
set_option maxRecDepth 100000 in
theorem cm_211 : chkM 211 = true := by decide +kernel
set_option maxRecDepth 100000 in
theorem cm_212 : chkM 212 = true := by decide +kernel
set_option maxRecDepth 100000 in
theorem cm_213 : chkM 213 = true := by decide +kernel
set_option maxRecDepth 100000 in
theorem cm_214 : chkM 214 = true := by decide +kernel
set_option maxRecDepth 100000 in
theorem cm_215 : chkM 215 = true := by decide +kernel
set_option maxRecDepth 100000 in
theorem cm_216 : chkM 216 = true := by decide +kernel
set_option maxRecDepth 100000 in
theorem cm_217 : chkM 217 = true := by decide +kernel
set_option maxRecDepth 100000 in
theorem cm_218 : chkM 218 = true := by decide +kernel
set_option maxRecDepth 100000 in
theorem cm_219 : chkM 219 = true := by decide +kernel
set_option maxRecDepth 100000 in
theorem cm_220 : chkM 220 = true := by decide +kernel
set_option maxRecDepth 100000 in
theorem cm_221 : chkM 221 = true := by decide +kernel
set_option maxRecDepth 100000 in
theorem cm_222 : chkM 222 = true := by decide +kernel
set_option maxRecDepth 100000 in
theorem cm_223 : chkM 223 = true := by decide +kernel
set_option maxRecDepth 100000 in
theorem cm_224 : chkM 224 = true := by decide +kernel
set_option maxRecDepth 100000 in
theorem cm_225 : chkM 225 = true := by decide +kernel
set_option maxRecDepth 100000 in
theorem cm_226 : chkM 226 = true := by decide +kernel
set_option maxRecDepth 100000 in
theorem cm_227 : chkM 227 = true := by decide +kernel
set_option maxRecDepth 100000 in
theorem cm_228 : chkM 228 = true := by decide +kernel
set_option maxRecDepth 100000 in
theorem cm_229 : chkM 229 = true := by decide +kernel
set_option maxRecDepth 100000 in
theorem cm_230 : chkM 230 = true := by decide +kernel
set_option maxRecDepth 100000 in
theorem cm_231 : chkM 231 = true := by decide +kernel
set_option maxRecDepth 100000 in
theorem cm_232 : chkM 232 = true := by decide +kernel
set_option maxRecDepth 100000 in
theorem cm_233 : chkM 233 = true := by decide +kernel
set_option maxRecDepth 100000 in
theorem cm_234 : chkM 234 = true := by decide +kernel
set_option maxRecDepth 100000 in
theorem cm_235 : chkM 235 = true := by decide +kernel
set_option maxRecDepth 100000 in
theorem cm_236 : chkM 236 = true := by decide +kernel
set_option maxRecDepth 100000 in
theorem cm_237 : chkM 237 = true := by decide +kernel
set_option maxRecDepth 100000 in
theorem cm_238 : chkM 238 = true := by decide +kernel
set_option maxRecDepth 100000 in
theorem cm_239 : chkM 239 = true := by decide +kernel
set_option maxRecDepth 100000 in
theorem cm_240 : chkM 240 = true := by decide +kernel
set_option maxRecDepth 100000 in
theorem cm_241 : chkM 241 = true := by decide +kernel
set_option maxRecDepth 100000 in
theorem cm_242 : chkM 242 = true := by decide +kernel
set_option maxRecDepth 100000 in
theorem cm_243 : chkM 243 = true := by decide +kernel
set_option maxRecDepth 100000 in
theorem cm_244 : chkM 244 = true := by decide +kernel
set_option maxRecDepth 100000 in
theorem cm_245 : chkM 245 = true := by decide +kernel
set_option maxRecDepth 100000 in
theorem cm_246 : chkM 246 = true := by decide +kernel
set_option maxRecDepth 100000 in
theorem cm_247 : chkM 247 = true := by decide +kernel
set_option maxRecDepth 100000 in
theorem cm_248 : chkM 248 = true := by decide +kernel
set_option maxRecDepth 100000 in
theorem cm_249 : chkM 249 = true := by decide +kernel
set_option maxRecDepth 100000 in
theorem cm_250 : chkM 250 = true := by decide +kernel
set_option maxRecDepth 100000 in
theorem cm_251 : chkM 251 = true := by decide +kernel
set_option maxRecDepth 100000 in
theorem cm_252 : chkM 252 = true := by decide +kernel
set_option maxRecDepth 100000 in
theorem cm_253 : chkM 253 = true := by decide +kernel
set_option maxRecDepth 100000 in
theorem cm_254 : chkM 254 = true := by decide +kernel
set_option maxRecDepth 100000 in
theorem cm_255 : chkM 255 = true := by decide +kernel
set_option maxRecDepth 100000 in
theorem cm_256 : chkM 256 = true := by decide +kernel
set_option maxRecDepth 100000 in
theorem cm_257 : chkM 257 = true := by decide +kernel
set_option maxRecDepth 100000 in
theorem cm_258 : chkM 258 = true := by decide +kernel
set_option maxRecDepth 100000 in
theorem cm_259 : chkM 259 = true := by decide +kernel
set_option maxRecDepth 100000 in
theorem cm_260 : chkM 260 = true := by decide +kernel
set_option maxRecDepth 100000 in
theorem cm_261 : chkM 261 = true := by decide +kernel
set_option maxRecDepth 100000 in
theorem cm_262 : chkM 262 = true := by decide +kernel
set_option maxRecDepth 100000 in
theorem cm_263 : chkM 263 = true := by decide +kernel
set_option maxRecDepth 100000 in
theorem cm_264 : chkM 264 = true := by decide +kernel
set_option maxRecDepth 100000 in
theorem cm_265 : chkM 265 = true := by decide +kernel
set_option maxRecDepth 100000 in
theorem cm_266 : chkM 266 = true := by decide +kernel
set_option maxRecDepth 100000 in
theorem cm_267 : chkM 267 = true := by decide +kernel
set_option maxRecDepth 100000 in
theorem cm_268 : chkM 268 = true := by decide +kernel
set_option maxRecDepth 100000 in
theorem cm_269 : chkM 269 = true := by decide +kernel
set_option maxRecDepth 100000 in
theorem cm_270 : chkM 270 = true := by decide +kernel
set_option maxRecDepth 100000 in
theorem cm_271 : chkM 271 = true := by decide +kernel
set_option maxRecDepth 100000 in
theorem cm_272 : chkM 272 = true := by decide +kernel
set_option maxRecDepth 100000 in
theorem cm_273 : chkM 273 = true := by decide +kernel
set_option maxRecDepth 100000 in
theorem cm_274 : chkM 274 = true := by decide +kernel
set_option maxRecDepth 100000 in
theorem cm_275 : chkM 275 = true := by decide +kernel
set_option maxRecDepth 100000 in
theorem cm_276 : chkM 276 = true := by decide +kernel
set_option maxRecDepth 100000 in
theorem cm_277 : chkM 277 = true := by decide +kernel
set_option maxRecDepth 100000 in
theorem cm_278 : chkM 278 = true := by decide +kernel
set_option maxRecDepth 100000 in
theorem cm_279 : chkM 279 = true := by decide +kernel
set_option maxRecDepth 100000 in
theorem cm_280 : chkM 280 = true := by decide +kernel
set_option maxRecDepth 100000 in
theorem cm_281 : chkM 281 = true := by decide +kernel
set_option maxRecDepth 100000 in
theorem cm_282 : chkM 282 = true := by decide +kernel
set_option maxRecDepth 100000 in
theorem cm_283 : chkM 283 = true := by decide +kernel
set_option maxRecDepth 100000 in
theorem cm_284 : chkM 284 = true := by decide +kernel
set_option maxRecDepth 100000 in
theorem cm_285 : chkM 285 = true := by decide +kernel
set_option maxRecDepth 100000 in
theorem cm_286 : chkM 286 = true := by decide +kernel
set_option maxRecDepth 100000 in
theorem cm_287 : chkM 287 = true := by decide +kernel
set_option maxRecDepth 100000 in
theorem cm_288 : chkM 288 = true := by decide +kernel
set_option maxRecDepth 100000 in
theorem cm_289 : chkM 289 = true := by decide +kernel
set_option maxRecDepth 100000 in
theorem cm_290 : chkM 290 = true := by decide +kernel
set_option maxRecDepth 100000 in
theorem cm_291 : chkM 291 = true := by decide +kernel
set_option maxRecDepth 100000 in
theorem cm_292 : chkM 292 = true := by decide +kernel
set_option maxRecDepth 100000 in
theorem cm_293 : chkM 293 = true := by decide +kernel
set_option maxRecDepth 100000 in
theorem cm_294 : chkM 294 = true := by decide +kernel
set_option maxRecDepth 100000 in
theorem cm_295 : chkM 295 = true := by decide +kernel
set_option maxRecDepth 100000 in
theorem cm_296 : chkM 296 = true := by decide +kernel
set_option maxRecDepth 100000 in
theorem cm_297 : chkM 297 = true := by decide +kernel
set_option maxRecDepth 100000 in
theorem cm_298 : chkM 298 = true := by decide +kernel
set_option maxRecDepth 100000 in
theorem cm_299 : chkM 299 = true := by decide +kernel
set_option maxRecDepth 100000 in
theorem cm_300 : chkM 300 = true := by decide +kernel
theorem cm_all : ∀ m, m < nM → chkM m = true := by
  intro m h
  match m, h with
  | 0, _ => exact cm_0
  | 1, _ => exact cm_1
  | 2, _ => exact cm_2
  | 3, _ => exact cm_3
  | 4, _ => exact cm_4
  | 5, _ => exact cm_5
  | 6, _ => exact cm_6
  | 7, _ => exact cm_7
  | 8, _ => exact cm_8
  | 9, _ => exact cm_9
  | 10, _ => exact cm_10
  | 11, _ => exact cm_11
  | 12, _ => exact cm_12
  | 13, _ => exact cm_13
  | 14, _ => exact cm_14
  | 15, _ => exact cm_15
  | 16, _ => exact cm_16
  | 17, _ => exact cm_17
  | 18, _ => exact cm_18
  | 19, _ => exact cm_19
  | 20, _ => exact cm_20
  | 21, _ => exact cm_21
  | 22, _ => exact cm_22
  | 23, _ => exact cm_23
  | 24, _ => exact cm_24
  | 25, _ => exact cm_25
  | 26, _ => exact cm_26
  | 27, _ => exact cm_27
  | 28, _ => exact cm_28
  | 29, _ => exact cm_29
  | 30, _ => exact cm_30
  | 31, _ => exact cm_31
  | 32, _ => exact cm_32
  | 33, _ => exact cm_33
  | 34, _ => exact cm_34
  | 35, _ => exact cm_35
  | 36, _ => exact cm_36
  | 37, _ => exact cm_37
  | 38, _ => exact cm_38
  | 39, _ => exact cm_39
  | 40, _ => exact cm_40
  | 41, _ => exact cm_41
  | 42, _ => exact cm_42
  | 43, _ => exact cm_43
  | 44, _ => exact cm_44
  | 45, _ => exact cm_45
  | 46, _ => exact cm_46
  | 47, _ => exact cm_47
  | 48, _ => exact cm_48
  | 49, _ => exact cm_49
  | 50, _ => exact cm_50
  | 51, _ => exact cm_51
  | 52, _ => exact cm_52
  | 53, _ => exact cm_53
  | 54, _ => exact cm_54
  | 55, _ => exact cm_55
  | 56, _ => exact cm_56
  | 57, _ => exact cm_57
  | 58, _ => exact cm_58
  | 59, _ => exact cm_59
  | 60, _ => exact cm_60
  | 61, _ => exact cm_61
  | 62, _ => exact cm_62
  | 63, _ => exact cm_63
  | 64, _ => exact cm_64
  | 65, _ => exact cm_65
  | 66, _ => exact cm_66
  | 67, _ => exact cm_67
  | 68, _ => exact cm_68
  | 69, _ => exact cm_69
  | 70, _ => exact cm_70
  | 71, _ => exact cm_71
  | 72, _ => exact cm_72
  | 73, _ => exact cm_73
  | 74, _ => exact cm_74
  | 75, _ => exact cm_75
  | 76, _ => exact cm_76
  | 77, _ => exact cm_77
  | 78, _ => exact cm_78
  | 79, _ => exact cm_79
  | 80, _ => exact cm_80
  | 81, _ => exact cm_81
  | 82, _ => exact cm_82
  | 83, _ => exact cm_83
  | 84, _ => exact cm_84
  | 85, _ => exact cm_85
  | 86, _ => exact cm_86
  | 87, _ => exact cm_87
  | 88, _ => exact cm_88
  | 89, _ => exact cm_89
  | 90, _ => exact cm_90
  | 91, _ => exact cm_91
  | 92, _ => exact cm_92
  | 93, _ => exact cm_93
  | 94, _ => exact cm_94
  | 95, _ => exact cm_95
  | 96, _ => exact cm_96
  | 97, _ => exact cm_97
  | 98, _ => exact cm_98
  | 99, _ => exact cm_99
  | 100, _ => exact cm_100
  | 101, _ => exact cm_101
  | 102, _ => exact cm_102
  | 103, _ => exact cm_103
  | 104, _ => exact cm_104
  | 105, _ => exact cm_105
  | 106, _ => exact cm_106
  | 107, _ => exact cm_107
  | 108, _ => exact cm_108
  | 109, _ => exact cm_109
  | 110, _ => exact cm_110
  | 111, _ => exact cm_111
  | 112, _ => exact cm_112
  | 113, _ => exact cm_113
  | 114, _ => exact cm_114
  | 115, _ => exact cm_115
  | 116, _ => exact cm_116
  | 117, _ => exact cm_117
  | 118, _ => exact cm_118
  | 119, _ => exact cm_119
  | 120, _ => exact cm_120
  | 121, _ => exact cm_121
  | 122, _ => exact cm_122
  | 123, _ => exact cm_123
  | 124, _ => exact cm_124
  | 125, _ => exact cm_125
  | 126, _ => exact cm_126
  | 127, _ => exact cm_127
  | 128, _ => exact cm_128
  | 129, _ => exact cm_129
  | 130, _ => exact cm_130
  | 131, _ => exact cm_131
  | 132, _ => exact cm_132
  | 133, _ => exact cm_133
  | 134, _ => exact cm_134
  | 135, _ => exact cm_135
  | 136, _ => exact cm_136
  | 137, _ => exact cm_137
  | 138, _ => exact cm_138
  | 139, _ => exact cm_139
  | 140, _ => exact cm_140
  | 141, _ => exact cm_141
  | 142, _ => exact cm_142
  | 143, _ => exact cm_143
  | 144, _ => exact cm_144
  | 145, _ => exact cm_145
  | 146, _ => exact cm_146
  | 147, _ => exact cm_147
  | 148, _ => exact cm_148
  | 149, _ => exact cm_149
  | 150, _ => exact cm_150
  | 151, _ => exact cm_151
  | 152, _ => exact cm_152
  | 153, _ => exact cm_153
  | 154, _ => exact cm_154
  | 155, _ => exact cm_155
  | 156, _ => exact cm_156
  | 157, _ => exact cm_157
  | 158, _ => exact cm_158
  | 159, _ => exact cm_159
  | 160, _ => exact cm_160
  | 161, _ => exact cm_161
  | 162, _ => exact cm_162
  | 163, _ => exact cm_163
  | 164, _ => exact cm_164
  | 165, _ => exact cm_165
  | 166, _ => exact cm_166
  | 167, _ => exact cm_167
  | 168, _ => exact cm_168
  | 169, _ => exact cm_169
  | 170, _ => exact cm_170
  | 171, _ => exact cm_171
  | 172, _ => exact cm_172
  | 173, _ => exact cm_173
  | 174, _ => exact cm_174
  | 175, _ => exact cm_175
  | 176, _ => exact cm_176
  | 177, _ => exact cm_177
  | 178, _ => exact cm_178
  | 179, _ => exact cm_179
  | 180, _ => exact cm_180
  | 181, _ => exact cm_181
  | 182, _ => exact cm_182
  | 183, _ => exact cm_183
  | 184, _ => exact cm_184
  | 185, _ => exact cm_185
  | 186, _ => exact cm_186
  | 187, _ => exact cm_187
  | 188, _ => exact cm_188
  | 189, _ => exact cm_189
  | 190, _ => exact cm_190
  | 191, _ => exact cm_191
  | 192, _ => exact cm_192
  | 193, _ => exact cm_193
  | 194, _ => exact cm_194
  | 195, _ => exact cm_195
  | 196, _ => exact cm_196
  | 197, _ => exact cm_197
  | 198, _ => exact cm_198
  | 199, _ => exact cm_199
  | 200, _ => exact cm_200
  | 201, _ => exact cm_201
  | 202, _ => exact cm_202
  | 203, _ => exact cm_203
  | 204, _ => exact cm_204
  | 205, _ => exact cm_205
  | 206, _ => exact cm_206
  | 207, _ => exact cm_207
  | 208, _ => exact cm_208
  | 209, _ => exact cm_209
  | 210, _ => exact cm_210
  | 211, _ => exact cm_211
  | 212, _ => exact cm_212
  | 213, _ => exact cm_213
  | 214, _ => exact cm_214
  | 215, _ => exact cm_215
  | 216, _ => exact cm_216
  | 217, _ => exact cm_217
  | 218, _ => exact cm_218
  | 219, _ => exact cm_219
  | 220, _ => exact cm_220
  | 221, _ => exact cm_221
  | 222, _ => exact cm_222
  | 223, _ => exact cm_223
  | 224, _ => exact cm_224
  | 225, _ => exact cm_225
  | 226, _ => exact cm_226
  | 227, _ => exact cm_227
  | 228, _ => exact cm_228
  | 229, _ => exact cm_229
  | 230, _ => exact cm_230
  | 231, _ => exact cm_231
  | 232, _ => exact cm_232
  | 233, _ => exact cm_233
  | 234, _ => exact cm_234
  | 235, _ => exact cm_235
  | 236, _ => exact cm_236
  | 237, _ => exact cm_237
  | 238, _ => exact cm_238
  | 239, _ => exact cm_239
  | 240, _ => exact cm_240
  | 241, _ => exact cm_241
  | 242, _ => exact cm_242
  | 243, _ => exact cm_243
  | 244, _ => exact cm_244
  | 245, _ => exact cm_245
  | 246, _ => exact cm_246
  | 247, _ => exact cm_247
  | 248, _ => exact cm_248
  | 249, _ => exact cm_249
  | 250, _ => exact cm_250
  | 251, _ => exact cm_251
  | 252, _ => exact cm_252
  | 253, _ => exact cm_253
  | 254, _ => exact cm_254
  | 255, _ => exact cm_255
  | 256, _ => exact cm_256
  | 257, _ => exact cm_257
  | 258, _ => exact cm_258
  | 259, _ => exact cm_259
  | 260, _ => exact cm_260
  | 261, _ => exact cm_261
  | 262, _ => exact cm_262
  | 263, _ => exact cm_263
  | 264, _ => exact cm_264
  | 265, _ => exact cm_265
  | 266, _ => exact cm_266
  | 267, _ => exact cm_267
  | 268, _ => exact cm_268
  | 269, _ => exact cm_269
  | 270, _ => exact cm_270
  | 271, _ => exact cm_271
  | 272, _ => exact cm_272
  | 273, _ => exact cm_273
  | 274, _ => exact cm_274
  | 275, _ => exact cm_275
  | 276, _ => exact cm_276
  | 277, _ => exact cm_277
  | 278, _ => exact cm_278
  | 279, _ => exact cm_279
  | 280, _ => exact cm_280
  | 281, _ => exact cm_281
  | 282, _ => exact cm_282
  | 283, _ => exact cm_283
  | 284, _ => exact cm_284
  | 285, _ => exact cm_285
  | 286, _ => exact cm_286
  | 287, _ => exact cm_287
  | 288, _ => exact cm_288
  | 289, _ => exact cm_289
  | 290, _ => exact cm_290
  | 291, _ => exact cm_291
  | 292, _ => exact cm_292
  | 293, _ => exact cm_293
  | 294, _ => exact cm_294
  | 295, _ => exact cm_295
  | 296, _ => exact cm_296
  | 297, _ => exact cm_297
  | 298, _ => exact cm_298
  | 299, _ => exact cm_299
  | 300, _ => exact cm_300
  | _ + 301, h => exact absurd h (by unfold nM; omega)
set_option maxRecDepth 100000 in
theorem ck_all : ∀ m pc, chk (MT m) (rkM m) pc (TT m pc) = true := by
  intro m
  match m with
  | 0 => exact ck_0
  | 1 => exact ck_1
  | 2 => exact ck_2
  | 3 => exact ck_3
  | 4 => exact ck_4
  | 5 => exact ck_5
  | 6 => exact ck_6
  | 7 => exact ck_7
  | 8 => exact ck_8
  | 9 => exact ck_9
  | 10 => exact ck_10
  | 11 => exact ck_11
  | 12 => exact ck_12
  | 13 => exact ck_13
  | 14 => exact ck_14
  | 15 => exact ck_15
  | 16 => exact ck_16
  | 17 => exact ck_17
  | 18 => exact ck_18
  | 19 => exact ck_19
  | 20 => exact ck_20
  | 21 => exact ck_21
  | 22 => exact ck_22
  | 23 => exact ck_23
  | 24 => exact ck_24
  | 25 => exact ck_25
  | 26 => exact ck_26
  | 27 => exact ck_27
  | 28 => exact ck_28
  | 29 => exact ck_29
  | 30 => exact ck_30
  | 31 => exact ck_31
  | 32 => exact ck_32
  | 33 => exact ck_33
  | 34 => exact ck_34
  | 35 => exact ck_35
  | 36 => exact ck_36
  | 37 => exact ck_37
  | 38 => exact ck_38
  | 39 => exact ck_39
  | 40 => exact ck_40
  | 41 => exact ck_41
  | 42 => exact ck_42
  | 43 => exact ck_43
  | 44 => exact ck_44
  | 45 => exact ck_45
  | 46 => exact ck_46
  | 47 => exact ck_47
  | 48 => exact ck_48
  | 49 => exact ck_49
  | 50 => exact ck_50
  | 51 => exact ck_51
  | 52 => exact ck_52
  | 53 => exact ck_53
  | 54 => exact ck_54
  | 55 => exact ck_55
  | 56 => exact ck_56
  | 57 => exact ck_57
  | 58 => exact ck_58
  | 59 => exact ck_59
  | 60 => exact ck_60
  | 61 => exact ck_61
  | 62 => exact ck_62
  | 63 => exact ck_63
  | 64 => exact ck_64
  | 65 => exact ck_65
  | 66 => exact ck_66
  | 67 => exact ck_67
  | 68 => exact ck_68
  | 69 => exact ck_69
  | 70 => exact ck_70
  | 71 => exact ck_71
  | 72 => exact ck_72
  | 73 => exact ck_73
  | 74 => exact ck_74
  | 75 => exact ck_75
  | 76 => exact ck_76
  | 77 => exact ck_77
  | 78 => exact ck_78
  | 79 => exact ck_79
  | 80 => exact ck_80
  | 81 => exact ck_81
  | 82 => exact ck_82
  | 83 => exact ck_83
  | 84 => exact ck_84
  | 85 => exact ck_85
  | 86 => exact ck_86
  | 87 => exact ck_87
  | 88 => exact ck_88
  | 89 => exact ck_89
  | 90 => exact ck_90
  | 91 => exact ck_91
  | 92 => exact ck_92
  | 93 => exact ck_93
  | 94 => exact ck_94
  | 95 => exact ck_95
  | 96 => exact ck_96
  | 97 => exact ck_97
  | 98 => exact ck_98
  | 99 => exact ck_99
  | 100 => exact ck_100
  | 101 => exact ck_101
  | 102 => exact ck_102
  | 103 => exact ck_103
  | 104 => exact ck_104
  | 105 => exact ck_105
  | 106 => exact ck_106
  | 107 => exact ck_107
  | 108 => exact ck_108
  | 109 => exact ck_109
  | 110 => exact ck_110
  | 111 => exact ck_111
  | 112 => exact ck_112
  | 113 => exact ck_113
  | 114 => exact ck_114
  | 115 => exact ck_115
  | 116 => exact ck_116
  | 117 => exact ck_117
  | 118 => exact ck_118
  | 119 => exact ck_119
  | 120 => exact ck_120
  | 121 => exact ck_121
  | 122 => exact ck_122
  | 123 => exact ck_123
  | 124 => exact ck_124
  | 125 => exact ck_125
  | 126 => exact ck_126
  | 127 => exact ck_127
  | 128 => exact ck_128
  | 129 => exact ck_129
  | 130 => exact ck_130
  | 131 => exact ck_131
  | 132 => exact ck_132
  | 133 => exact ck_133
  | 134 => exact ck_134
  | 135 => exact ck_135
  | 136 => exact ck_136
  | 137 => exact ck_137
  | 138 => exact ck_138
  | 139 => exact ck_139
  | 140 => exact ck_140
  | 141 => exact ck_141
  | 142 => exact ck_142
  | 143 => exact ck_143
  | 144 => exact ck_144
  | 145 => exact ck_145
  | 146 => exact ck_146
  | 147 => exact ck_147
  | 148 => exact ck_148
  | 149 => exact ck_149
  | 150 => exact ck_150
  | 151 => exact ck_151
  | 152 => exact ck_152
  | 153 => exact ck_153
  | 154 => exact ck_154
  | 155 => exact ck_155
  | 156 => exact ck_156
  | 157 => exact ck_157
  | 158 => exact ck_158
  | 159 => exact ck_159
  | 160 => exact ck_160
  | 161 => exact ck_161
  | 162 => exact ck_162
  | 163 => exact ck_163
  | 164 => exact ck_164
  | 165 => exact ck_165
  | 166 => exact ck_166
  | 167 => exact ck_167
  | 168 => exact ck_168
  | 169 => exact ck_169
  | 170 => exact ck_170
  | 171 => exact ck_171
  | 172 => exact ck_172
  | 173 => exact ck_173
  | 174 => exact ck_174
  | 175 => exact ck_175
  | 176 => exact ck_176
  | 177 => exact ck_177
  | 178 => exact ck_178
  | 179 => exact ck_179
  | 180 => exact ck_180
  | 181 => exact ck_181
  | 182 => exact ck_182
  | 183 => exact ck_183
  | 184 => exact ck_184
  | 185 => exact ck_185
  | 186 => exact ck_186
  | 187 => exact ck_187
  | 188 => exact ck_188
  | 189 => exact ck_189
  | 190 => exact ck_190
  | 191 => exact ck_191
  | 192 => exact ck_192
  | 193 => exact ck_193
  | 194 => exact ck_194
  | 195 => exact ck_195
  | 196 => exact ck_196
  | 197 => exact ck_197
  | 198 => exact ck_198
  | 199 => exact ck_199
  | 200 => exact ck_200
  | 201 => exact ck_201
  | 202 => exact ck_202
  | 203 => exact ck_203
  | 204 => exact ck_204
  | 205 => exact ck_205
  | 206 => exact ck_206
  | 207 => exact ck_207
  | 208 => exact ck_208
  | 209 => exact ck_209
  | 210 => exact ck_210
  | 211 => exact ck_211
  | 212 => exact ck_212
  | 213 => exact ck_213
  | 214 => exact ck_214
  | 215 => exact ck_215
  | 216 => exact ck_216
  | 217 => exact ck_217
  | 218 => exact ck_218
  | 219 => exact ck_219
  | 220 => exact ck_220
  | 221 => exact ck_221
  | 222 => exact ck_222
  | 223 => exact ck_223
  | 224 => exact ck_224
  | 225 => exact ck_225
  | 226 => exact ck_226
  | 227 => exact ck_227
  | 228 => exact ck_228
  | 229 => exact ck_229
  | 230 => exact ck_230
  | 231 => exact ck_231
  | 232 => exact ck_232
  | 233 => exact ck_233
  | 234 => exact ck_234
  | 235 => exact ck_235
  | 236 => exact ck_236
  | 237 => exact ck_237
  | 238 => exact ck_238
  | 239 => exact ck_239
  | 240 => exact ck_240
  | 241 => exact ck_241
  | 242 => exact ck_242
  | 243 => exact ck_243
  | 244 => exact ck_244
  | 245 => exact ck_245
  | 246 => exact ck_246
  | 247 => exact ck_247
  | 248 => exact ck_248
  | 249 => exact ck_249
  | 250 => exact ck_250
  | 251 => exact ck_251
  | 252 => exact ck_252
  | 253 => exact ck_253
  | 254 => exact ck_254
  | 255 => exact ck_255
  | 256 => exact ck_256
  | 257 => exact ck_257
  | 258 => exact ck_258
  | 259 => exact ck_259
  | 260 => exact ck_260
  | 261 => exact ck_261
  | 262 => exact ck_262
  | 263 => exact ck_263
  | 264 => exact ck_264
  | 265 => exact ck_265
  | 266 => exact ck_266
  | 267 => exact ck_267
  | 268 => exact ck_268
  | 269 => exact ck_269
  | 270 => exact ck_270
  | 271 => exact ck_271
  | 272 => exact ck_272
  | 273 => exact ck_273
  | 274 => exact ck_274
  | 275 => exact ck_275
  | 276 => exact ck_276
  | 277 => exact ck_277
  | 278 => exact ck_278
  | 279 => exact ck_279
  | 280 => exact ck_280
  | 281 => exact ck_281
  | 282 => exact ck_282
  | 283 => exact ck_283
  | 284 => exact ck_284
  | 285 => exact ck_285
  | 286 => exact ck_286
  | 287 => exact ck_287
  | 288 => exact ck_288
  | 289 => exact ck_289
  | 290 => exact ck_290
  | 291 => exact ck_291
  | 292 => exact ck_292
  | 293 => exact ck_293
  | 294 => exact ck_294
  | 295 => exact ck_295
  | 296 => exact ck_296
  | 297 => exact ck_297
  | 298 => exact ck_298
  | 299 => exact ck_299
  | 300 => exact ck_300
  | _ + 301 => intro pc; rfl
