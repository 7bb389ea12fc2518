/-! ===== the law's cases are where the table says ===== -/
theorem ckC_0 : ckC 0 = true := by decide +kernel
theorem ckC_1 : ckC 1 = true := by decide +kernel
theorem ckC_2 : ckC 2 = true := by decide +kernel
theorem ckC_3 : ckC 3 = true := by decide +kernel
theorem ckC_4 : ckC 4 = true := by decide +kernel
theorem ckC_5 : ckC 5 = true := by decide +kernel
theorem ckC_6 : ckC 6 = true := by decide +kernel
theorem ckC_7 : ckC 7 = true := by decide +kernel
theorem ckC_8 : ckC 8 = true := by decide +kernel
theorem ckC_9 : ckC 9 = true := by decide +kernel
theorem ckC_10 : ckC 10 = true := by decide +kernel
theorem ckC_11 : ckC 11 = true := by decide +kernel
theorem ckC_12 : ckC 12 = true := by decide +kernel
theorem ckC_13 : ckC 13 = true := by decide +kernel
theorem ckC_14 : ckC 14 = true := by decide +kernel
theorem ckC_15 : ckC 15 = true := by decide +kernel
theorem ckC_16 : ckC 16 = true := by decide +kernel
theorem ckC_17 : ckC 17 = true := by decide +kernel
theorem ckC_18 : ckC 18 = true := by decide +kernel
theorem ckC_19 : ckC 19 = true := by decide +kernel
theorem ckC_20 : ckC 20 = true := by decide +kernel
theorem ckC_21 : ckC 21 = true := by decide +kernel
theorem ckC_22 : ckC 22 = true := by decide +kernel
theorem ckC_23 : ckC 23 = true := by decide +kernel
theorem ckC_24 : ckC 24 = true := by decide +kernel
theorem ckC_25 : ckC 25 = true := by decide +kernel
theorem ckC_26 : ckC 26 = true := by decide +kernel
theorem ckC_27 : ckC 27 = true := by decide +kernel
theorem ckC_28 : ckC 28 = true := by decide +kernel
theorem ckC_29 : ckC 29 = true := by decide +kernel
theorem ckC_30 : ckC 30 = true := by decide +kernel
theorem ckC_31 : ckC 31 = true := by decide +kernel
theorem ckC_32 : ckC 32 = true := by decide +kernel
theorem ckC_33 : ckC 33 = true := by decide +kernel
theorem ckC_34 : ckC 34 = true := by decide +kernel
theorem ckC_35 : ckC 35 = true := by decide +kernel
theorem ckC_36 : ckC 36 = true := by decide +kernel
theorem ckC_37 : ckC 37 = true := by decide +kernel
theorem ckC_38 : ckC 38 = true := by decide +kernel
theorem ckC_39 : ckC 39 = true := by decide +kernel
theorem ckC_40 : ckC 40 = true := by decide +kernel
theorem ckC_41 : ckC 41 = true := by decide +kernel
theorem ckC_42 : ckC 42 = true := by decide +kernel
theorem ckC_43 : ckC 43 = true := by decide +kernel
theorem ckC_44 : ckC 44 = true := by decide +kernel
theorem ckC_45 : ckC 45 = true := by decide +kernel
theorem ckC_46 : ckC 46 = true := by decide +kernel
theorem ckC_47 : ckC 47 = true := by decide +kernel
theorem ckC_48 : ckC 48 = true := by decide +kernel
theorem ckC_49 : ckC 49 = true := by decide +kernel
theorem ckC_50 : ckC 50 = true := by decide +kernel
theorem ckC_51 : ckC 51 = true := by decide +kernel
theorem ckC_52 : ckC 52 = true := by decide +kernel
theorem ckC_53 : ckC 53 = true := by decide +kernel
theorem ckC_54 : ckC 54 = true := by decide +kernel
theorem ckC_55 : ckC 55 = true := by decide +kernel
theorem ckC_all {k : Nat} (h : k < 56) : ckC k = true := by
  match k, h with
  | 0, _ => exact ckC_0
  | 1, _ => exact ckC_1
  | 2, _ => exact ckC_2
  | 3, _ => exact ckC_3
  | 4, _ => exact ckC_4
  | 5, _ => exact ckC_5
  | 6, _ => exact ckC_6
  | 7, _ => exact ckC_7
  | 8, _ => exact ckC_8
  | 9, _ => exact ckC_9
  | 10, _ => exact ckC_10
  | 11, _ => exact ckC_11
  | 12, _ => exact ckC_12
  | 13, _ => exact ckC_13
  | 14, _ => exact ckC_14
  | 15, _ => exact ckC_15
  | 16, _ => exact ckC_16
  | 17, _ => exact ckC_17
  | 18, _ => exact ckC_18
  | 19, _ => exact ckC_19
  | 20, _ => exact ckC_20
  | 21, _ => exact ckC_21
  | 22, _ => exact ckC_22
  | 23, _ => exact ckC_23
  | 24, _ => exact ckC_24
  | 25, _ => exact ckC_25
  | 26, _ => exact ckC_26
  | 27, _ => exact ckC_27
  | 28, _ => exact ckC_28
  | 29, _ => exact ckC_29
  | 30, _ => exact ckC_30
  | 31, _ => exact ckC_31
  | 32, _ => exact ckC_32
  | 33, _ => exact ckC_33
  | 34, _ => exact ckC_34
  | 35, _ => exact ckC_35
  | 36, _ => exact ckC_36
  | 37, _ => exact ckC_37
  | 38, _ => exact ckC_38
  | 39, _ => exact ckC_39
  | 40, _ => exact ckC_40
  | 41, _ => exact ckC_41
  | 42, _ => exact ckC_42
  | 43, _ => exact ckC_43
  | 44, _ => exact ckC_44
  | 45, _ => exact ckC_45
  | 46, _ => exact ckC_46
  | 47, _ => exact ckC_47
  | 48, _ => exact ckC_48
  | 49, _ => exact ckC_49
  | 50, _ => exact ckC_50
  | 51, _ => exact ckC_51
  | 52, _ => exact ckC_52
  | 53, _ => exact ckC_53
  | 54, _ => exact ckC_54
  | 55, _ => exact ckC_55
  | k + 56, h => omega
