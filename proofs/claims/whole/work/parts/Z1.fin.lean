/-! ===== all calls, and the claim (printed by gen/mkfin.py) ===== -/
theorem ap_0 {A : Ab} {w : Wd} (xs : Nat → Int32) (i : Nat) (h : Rel A w) : Pair (cM1 0) (cM2 0) ((cK 0).map (akV xs i)) A w := pr_feed h (xs (i + 1)) (xs (i + 2)) (xs (i + 3)) (xs (i + 4)) (xs (i + 5))
theorem ap_1 {A : Ab} {w : Wd} (xs : Nat → Int32) (i : Nat) (h : Rel A w) : Pair (cM1 1) (cM2 1) ((cK 1).map (akV xs i)) A w := pr_end h (xs (i + 1))
theorem ap_2 {A : Ab} {w : Wd} (xs : Nat → Int32) (i : Nat) (h : Rel A w) : Pair (cM1 2) (cM2 2) ((cK 2).map (akV xs i)) A w := pr_school h 
theorem ap_3 {A : Ab} {w : Wd} (xs : Nat → Int32) (i : Nat) (h : Rel A w) : Pair (cM1 3) (cM2 3) ((cK 3).map (akV xs i)) A w := pr_fault h (xs (i + 1))
theorem ap_4 {A : Ab} {w : Wd} (xs : Nat → Int32) (i : Nat) (h : Rel A w) : Pair (cM1 4) (cM2 4) ((cK 4).map (akV xs i)) A w := pr_sum h (xs (i + 1)) (xs (i + 2))
theorem ap_5 {A : Ab} {w : Wd} (xs : Nat → Int32) (i : Nat) (h : Rel A w) : Pair (cM1 5) (cM2 5) ((cK 5).map (akV xs i)) A w := pr_value h (xs (i + 1))
theorem ap_6 {A : Ab} {w : Wd} (xs : Nat → Int32) (i : Nat) (h : Rel A w) : Pair (cM1 6) (cM2 6) ((cK 6).map (akV xs i)) A w := pr_stands h (xs (i + 1))
theorem ap_7 {A : Ab} {w : Wd} (xs : Nat → Int32) (i : Nat) (h : Rel A w) : Pair (cM1 7) (cM2 7) ((cK 7).map (akV xs i)) A w := pr_board h (xs (i + 1))
theorem ap_8 {A : Ab} {w : Wd} (xs : Nat → Int32) (i : Nat) (h : Rel A w) : Pair (cM1 8) (cM2 8) ((cK 8).map (akV xs i)) A w := pr_slates h (xs (i + 1))
theorem ap_9 {A : Ab} {w : Wd} (xs : Nat → Int32) (i : Nat) (h : Rel A w) : Pair (cM1 9) (cM2 9) ((cK 9).map (akV xs i)) A w := pr_move h (xs (i + 1))
theorem ap_10 {A : Ab} {w : Wd} (xs : Nat → Int32) (i : Nat) (h : Rel A w) : Pair (cM1 10) (cM2 10) ((cK 10).map (akV xs i)) A w := pr_swap h (xs (i + 1))
theorem ap_11 {A : Ab} {w : Wd} (xs : Nat → Int32) (i : Nat) (h : Rel A w) : Pair (cM1 11) (cM2 11) ((cK 11).map (akV xs i)) A w := pr_may h (xs (i + 1))
theorem ap_12 {A : Ab} {w : Wd} (xs : Nat → Int32) (i : Nat) (h : Rel A w) : Pair (cM1 12) (cM2 12) ((cK 12).map (akV xs i)) A w := pr_smudge h (xs (i + 1)) (xs (i + 2))
theorem ap_13 {A : Ab} {w : Wd} (xs : Nat → Int32) (i : Nat) (h : Rel A w) : Pair (cM1 13) (cM2 13) ((cK 13).map (akV xs i)) A w := pr_lend h (xs (i + 1))
theorem ap_14 {A : Ab} {w : Wd} (xs : Nat → Int32) (i : Nat) (h : Rel A w) : Pair (cM1 14) (cM2 14) ((cK 14).map (akV xs i)) A w := pr_give h (xs (i + 1))
theorem ap_15 {A : Ab} {w : Wd} (xs : Nat → Int32) (i : Nat) (h : Rel A w) : Pair (cM1 15) (cM2 15) ((cK 15).map (akV xs i)) A w := pr_lose h (xs (i + 1))
theorem ap_16 {A : Ab} {w : Wd} (xs : Nat → Int32) (i : Nat) (h : Rel A w) : Pair (cM1 16) (cM2 16) ((cK 16).map (akV xs i)) A w := pr_clear h 
theorem ap_17 {A : Ab} {w : Wd} (xs : Nat → Int32) (i : Nat) (h : Rel A w) : Pair (cM1 17) (cM2 17) ((cK 17).map (akV xs i)) A w := pr_judge h (xs (i + 1))
theorem ap_18 {A : Ab} {w : Wd} (xs : Nat → Int32) (i : Nat) (h : Rel A w) : Pair (cM1 18) (cM2 18) ((cK 18).map (akV xs i)) A w := pr_ends h (xs (i + 1))
theorem ap_19 {A : Ab} {w : Wd} (xs : Nat → Int32) (i : Nat) (h : Rel A w) : Pair (cM1 19) (cM2 19) ((cK 19).map (akV xs i)) A w := pr_backwards h (xs (i + 1))
theorem ap_20 {A : Ab} {w : Wd} (xs : Nat → Int32) (i : Nat) (h : Rel A w) : Pair (cM1 20) (cM2 20) ((cK 20).map (akV xs i)) A w := pr_fewest h (xs (i + 1)) (decide (¬ xs (i + 2) = 0))
theorem ap_21 {A : Ab} {w : Wd} (xs : Nat → Int32) (i : Nat) (h : Rel A w) : Pair (cM1 21) (cM2 21) ((cK 21).map (akV xs i)) A w := pr_steps h (xs (i + 1)) (xs (i + 2)) (decide (¬ xs (i + 3) = 0))
theorem ap_22 {A : Ab} {w : Wd} (xs : Nat → Int32) (i : Nat) (h : Rel A w) : Pair (cM1 22) (cM2 22) ((cK 22).map (akV xs i)) A w := pr_go h (xs (i + 1)) (xs (i + 2)) (decide (¬ xs (i + 3) = 0))
theorem ap_23 {A : Ab} {w : Wd} (xs : Nat → Int32) (i : Nat) (h : Rel A w) : Pair (cM1 23) (cM2 23) ((cK 23).map (akV xs i)) A w := pr_next h (xs (i + 1)) (xs (i + 2)) (decide (¬ xs (i + 3) = 0))
theorem ap_24 {A : Ab} {w : Wd} (xs : Nat → Int32) (i : Nat) (h : Rel A w) : Pair (cM1 24) (cM2 24) ((cK 24).map (akV xs i)) A w := pr_reach h (xs (i + 1))
theorem ap_25 {A : Ab} {w : Wd} (xs : Nat → Int32) (i : Nat) (h : Rel A w) : Pair (cM1 25) (cM2 25) ((cK 25).map (akV xs i)) A w := pr_ever h (xs (i + 1))
theorem ap_26 {A : Ab} {w : Wd} (xs : Nat → Int32) (i : Nat) (h : Rel A w) : Pair (cM1 26) (cM2 26) ((cK 26).map (akV xs i)) A w := pr_far h (xs (i + 1)) (xs (i + 2))
theorem ap_27 {A : Ab} {w : Wd} (xs : Nat → Int32) (i : Nat) (h : Rel A w) : Pair (cM1 27) (cM2 27) ((cK 27).map (akV xs i)) A w := pr_keep h (xs (i + 1)) (xs (i + 2))
theorem ap_28 {A : Ab} {w : Wd} (xs : Nat → Int32) (i : Nat) (h : Rel A w) : Pair (cM1 28) (cM2 28) ((cK 28).map (akV xs i)) A w := pr_cost h (xs (i + 1)) (xs (i + 2))
theorem ap_29 {A : Ab} {w : Wd} (xs : Nat → Int32) (i : Nat) (h : Rel A w) : Pair (cM1 29) (cM2 29) ((cK 29).map (akV xs i)) A w := pr_worst h (xs (i + 1))
theorem ap_30 {A : Ab} {w : Wd} (xs : Nat → Int32) (i : Nat) (h : Rel A w) : Pair (cM1 30) (cM2 30) ((cK 30).map (akV xs i)) A w := pr_lacks h (xs (i + 1))
theorem ap_31 {A : Ab} {w : Wd} (xs : Nat → Int32) (i : Nat) (h : Rel A w) : Pair (cM1 31) (cM2 31) ((cK 31).map (akV xs i)) A w := pr_path h (xs (i + 1)) (xs (i + 2)) (decide (¬ xs (i + 3) = 0)) (xs (i + 4))
theorem ap_32 {A : Ab} {w : Wd} (xs : Nat → Int32) (i : Nat) (h : Rel A w) : Pair (cM1 32) (cM2 32) ((cK 32).map (akV xs i)) A w := pr_ways h (xs (i + 1)) (xs (i + 2)) (decide (¬ xs (i + 3) = 0))
theorem ap_33 {A : Ab} {w : Wd} (xs : Nat → Int32) (i : Nat) (h : Rel A w) : Pair (cM1 33) (cM2 33) ((cK 33).map (akV xs i)) A w := pr_must h (xs (i + 1)) (xs (i + 2))
theorem ap_34 {A : Ab} {w : Wd} (xs : Nat → Int32) (i : Nat) (h : Rel A w) : Pair (cM1 34) (cM2 34) ((cK 34).map (akV xs i)) A w := pr_apart h (xs (i + 1)) (xs (i + 2)) (xs (i + 3))
theorem ap_35 {A : Ab} {w : Wd} (xs : Nat → Int32) (i : Nat) (h : Rel A w) : Pair (cM1 35) (cM2 35) ((cK 35).map (akV xs i)) A w := pr_groups h (xs (i + 1)) (xs (i + 2))
theorem ap_36 {A : Ab} {w : Wd} (xs : Nat → Int32) (i : Nat) (h : Rel A w) : Pair (cM1 36) (cM2 36) ((cK 36).map (akV xs i)) A w := pr_breaks h (xs (i + 1)) (xs (i + 2))
theorem ap_37 {A : Ab} {w : Wd} (xs : Nat → Int32) (i : Nat) (h : Rel A w) : Pair (cM1 37) (cM2 37) ((cK 37).map (akV xs i)) A w := pr_within h (xs (i + 1)) (xs (i + 2)) (decide (¬ xs (i + 3) = 0))
theorem ap_38 {A : Ab} {w : Wd} (xs : Nat → Int32) (i : Nat) (h : Rel A w) : Pair (cM1 38) (cM2 38) ((cK 38).map (akV xs i)) A w := pr_made h (xs (i + 1))
theorem ap_39 {A : Ab} {w : Wd} (xs : Nat → Int32) (i : Nat) (h : Rel A w) : Pair (cM1 39) (cM2 39) ((cK 39).map (akV xs i)) A w := pr_series h (xs (i + 1)) (xs (i + 2))
theorem ap_40 {A : Ab} {w : Wd} (xs : Nat → Int32) (i : Nat) (h : Rel A w) : Pair (cM1 40) (cM2 40) ((cK 40).map (akV xs i)) A w := pr_culprits h 
theorem ap_41 {A : Ab} {w : Wd} (xs : Nat → Int32) (i : Nat) (h : Rel A w) : Pair (cM1 41) (cM2 41) ((cK 41).map (akV xs i)) A w := pr_tree h (xs (i + 1)) (xs (i + 2))
theorem ap_42 {A : Ab} {w : Wd} (xs : Nat → Int32) (i : Nat) (h : Rel A w) : Pair (cM1 42) (cM2 42) ((cK 42).map (akV xs i)) A w := pr_tall h (xs (i + 1))
theorem ap_43 {A : Ab} {w : Wd} (xs : Nat → Int32) (i : Nat) (h : Rel A w) : Pair (cM1 43) (cM2 43) ((cK 43).map (akV xs i)) A w := pr_chain h (xs (i + 1)) (xs (i + 2))
theorem ap_44 {A : Ab} {w : Wd} (xs : Nat → Int32) (i : Nat) (h : Rel A w) : Pair (cM1 44) (cM2 44) ((cK 44).map (akV xs i)) A w := pr_middle h (xs (i + 1)) (xs (i + 2))
theorem ap_45 {A : Ab} {w : Wd} (xs : Nat → Int32) (i : Nat) (h : Rel A w) : Pair (cM1 45) (cM2 45) ((cK 45).map (akV xs i)) A w := pr_least h (xs (i + 1))
theorem ap_46 {A : Ab} {w : Wd} (xs : Nat → Int32) (i : Nat) (h : Rel A w) : Pair (cM1 46) (cM2 46) ((cK 46).map (akV xs i)) A w := pr_powers h (xs (i + 1)) (xs (i + 2))
theorem ap_47 {A : Ab} {w : Wd} (xs : Nat → Int32) (i : Nat) (h : Rel A w) : Pair (cM1 47) (cM2 47) ((cK 47).map (akV xs i)) A w := pr_taken h (xs (i + 1)) (xs (i + 2))
theorem ap_48 {A : Ab} {w : Wd} (xs : Nat → Int32) (i : Nat) (h : Rel A w) : Pair (cM1 48) (cM2 48) ((cK 48).map (akV xs i)) A w := pr_walk h (xs (i + 1)) (xs (i + 2))
theorem ap_49 {A : Ab} {w : Wd} (xs : Nat → Int32) (i : Nat) (h : Rel A w) : Pair (cM1 49) (cM2 49) ((cK 49).map (akV xs i)) A w := pr_seen h (xs (i + 1)) (xs (i + 2))
theorem ap_50 {A : Ab} {w : Wd} (xs : Nat → Int32) (i : Nat) (h : Rel A w) : Pair (cM1 50) (cM2 50) ((cK 50).map (akV xs i)) A w := pr_count h (xs (i + 1))
theorem ap_51 {A : Ab} {w : Wd} (xs : Nat → Int32) (i : Nat) (h : Rel A w) : Pair (cM1 51) (cM2 51) ((cK 51).map (akV xs i)) A w := pr_image h (xs (i + 1))
theorem ap_52 {A : Ab} {w : Wd} (xs : Nat → Int32) (i : Nat) (h : Rel A w) : Pair (cM1 52) (cM2 52) ((cK 52).map (akV xs i)) A w := pr_back h (xs (i + 1))
theorem ap_53 {A : Ab} {w : Wd} (xs : Nat → Int32) (i : Nat) (h : Rel A w) : Pair (cM1 53) (cM2 53) ((cK 53).map (akV xs i)) A w := pr_row h (xs (i + 1)) (xs (i + 2)) (xs (i + 3))
theorem ap_54 {A : Ab} {w : Wd} (xs : Nat → Int32) (i : Nat) (h : Rel A w) : Pair (cM1 54) (cM2 54) ((cK 54).map (akV xs i)) A w := pr_write h (xs (i + 1)) (xs (i + 2)) _
theorem ap_55 {A : Ab} {w : Wd} (xs : Nat → Int32) (i : Nat) (h : Rel A w) : Pair (cM1 55) (cM2 55) ((cK 55).map (akV xs i)) A w := pr_paste h (xs (i + 1)) (xs (i + 2)) (xs (i + 3)) (xs (i + 4)) (xs (i + 5))
theorem allP : AllP := by
  intro k hk A w xs i h
  match k, hk with
  | 0, _ => exact ap_0 xs i h
  | 1, _ => exact ap_1 xs i h
  | 2, _ => exact ap_2 xs i h
  | 3, _ => exact ap_3 xs i h
  | 4, _ => exact ap_4 xs i h
  | 5, _ => exact ap_5 xs i h
  | 6, _ => exact ap_6 xs i h
  | 7, _ => exact ap_7 xs i h
  | 8, _ => exact ap_8 xs i h
  | 9, _ => exact ap_9 xs i h
  | 10, _ => exact ap_10 xs i h
  | 11, _ => exact ap_11 xs i h
  | 12, _ => exact ap_12 xs i h
  | 13, _ => exact ap_13 xs i h
  | 14, _ => exact ap_14 xs i h
  | 15, _ => exact ap_15 xs i h
  | 16, _ => exact ap_16 xs i h
  | 17, _ => exact ap_17 xs i h
  | 18, _ => exact ap_18 xs i h
  | 19, _ => exact ap_19 xs i h
  | 20, _ => exact ap_20 xs i h
  | 21, _ => exact ap_21 xs i h
  | 22, _ => exact ap_22 xs i h
  | 23, _ => exact ap_23 xs i h
  | 24, _ => exact ap_24 xs i h
  | 25, _ => exact ap_25 xs i h
  | 26, _ => exact ap_26 xs i h
  | 27, _ => exact ap_27 xs i h
  | 28, _ => exact ap_28 xs i h
  | 29, _ => exact ap_29 xs i h
  | 30, _ => exact ap_30 xs i h
  | 31, _ => exact ap_31 xs i h
  | 32, _ => exact ap_32 xs i h
  | 33, _ => exact ap_33 xs i h
  | 34, _ => exact ap_34 xs i h
  | 35, _ => exact ap_35 xs i h
  | 36, _ => exact ap_36 xs i h
  | 37, _ => exact ap_37 xs i h
  | 38, _ => exact ap_38 xs i h
  | 39, _ => exact ap_39 xs i h
  | 40, _ => exact ap_40 xs i h
  | 41, _ => exact ap_41 xs i h
  | 42, _ => exact ap_42 xs i h
  | 43, _ => exact ap_43 xs i h
  | 44, _ => exact ap_44 xs i h
  | 45, _ => exact ap_45 xs i h
  | 46, _ => exact ap_46 xs i h
  | 47, _ => exact ap_47 xs i h
  | 48, _ => exact ap_48 xs i h
  | 49, _ => exact ap_49 xs i h
  | 50, _ => exact ap_50 xs i h
  | 51, _ => exact ap_51 xs i h
  | 52, _ => exact ap_52 xs i h
  | 53, _ => exact ap_53 xs i h
  | 54, _ => exact ap_54 xs i h
  | 55, _ => exact ap_55 xs i h
  | n + 56, z => omega
theorem i_vc : Claimed_1_1 ∧ Claimed_1_2 := i_vc_of (fun _ h => ckC_all h) allP
