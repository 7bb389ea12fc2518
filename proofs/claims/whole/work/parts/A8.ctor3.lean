/-! ===== the constructor of the reference (printed by gen/mkctor.py) ===== -/
theorem nol_6 : Cond.methodLink (Rz 6) 1 Lib.objectInit ∈ GG := GGi 1069 (by decide +kernel) (by decide +kernel)
theorem nf6_7 : Cond.fieldLink (Rz 6) 7 (Tz 6 1).1 (Tz 6 1).2.1 (Tz 6 1).2.2.1 ∈ GG := GGi 1071 (by decide +kernel) (by decide +kernel)
theorem nf6_13 : Cond.fieldLink (Rz 6) 13 (Tz 6 2).1 (Tz 6 2).2.1 (Tz 6 2).2.2.1 ∈ GG := GGi 1072 (by decide +kernel) (by decide +kernel)
theorem nf6_16 : Cond.fieldLink (Rz 6) 16 (Tz 6 3).1 (Tz 6 3).2.1 (Tz 6 3).2.2.1 ∈ GG := GGi 1073 (by decide +kernel) (by decide +kernel)
theorem nf6_20 : Cond.fieldLink (Rz 6) 20 (Tz 6 4).1 (Tz 6 4).2.1 (Tz 6 4).2.2.1 ∈ GG := GGi 1074 (by decide +kernel) (by decide +kernel)
theorem nf6_23 : Cond.fieldLink (Rz 6) 23 (Tz 6 5).1 (Tz 6 5).2.1 (Tz 6 5).2.2.1 ∈ GG := GGi 1075 (by decide +kernel) (by decide +kernel)
theorem nf6_27 : Cond.fieldLink (Rz 6) 27 (Tz 6 15).1 (Tz 6 15).2.1 (Tz 6 15).2.2.1 ∈ GG := GGi 1085 (by decide +kernel) (by decide +kernel)
theorem nf6_31 : Cond.fieldLink (Rz 6) 31 (Tz 6 16).1 (Tz 6 16).2.1 (Tz 6 16).2.2.1 ∈ GG := GGi 1086 (by decide +kernel) (by decide +kernel)
theorem nf6_34 : Cond.fieldLink (Rz 6) 34 (Tz 6 17).1 (Tz 6 17).2.1 (Tz 6 17).2.2.1 ∈ GG := GGi 1087 (by decide +kernel) (by decide +kernel)
theorem nf6_37 : Cond.fieldLink (Rz 6) 37 (Tz 6 18).1 (Tz 6 18).2.1 (Tz 6 18).2.2.1 ∈ GG := GGi 1088 (by decide +kernel) (by decide +kernel)
theorem nf6_40 : Cond.fieldLink (Rz 6) 40 (Tz 6 19).1 (Tz 6 19).2.1 (Tz 6 19).2.2.1 ∈ GG := GGi 1089 (by decide +kernel) (by decide +kernel)
theorem nf6_43 : Cond.fieldLink (Rz 6) 43 (Tz 6 20).1 (Tz 6 20).2.1 (Tz 6 20).2.2.1 ∈ GG := GGi 1090 (by decide +kernel) (by decide +kernel)
theorem nf6_46 : Cond.fieldLink (Rz 6) 46 (Tz 6 21).1 (Tz 6 21).2.1 (Tz 6 21).2.2.1 ∈ GG := GGi 1091 (by decide +kernel) (by decide +kernel)
theorem nf6_50 : Cond.fieldLink (Rz 6) 50 (Tz 6 22).1 (Tz 6 22).2.1 (Tz 6 22).2.2.1 ∈ GG := GGi 1092 (by decide +kernel) (by decide +kernel)
theorem nf6_53 : Cond.fieldLink (Rz 6) 53 (Tz 6 23).1 (Tz 6 23).2.1 (Tz 6 23).2.2.1 ∈ GG := GGi 1093 (by decide +kernel) (by decide +kernel)
theorem nf6_56 : Cond.fieldLink (Rz 6) 56 (Tz 6 24).1 (Tz 6 24).2.1 (Tz 6 24).2.2.1 ∈ GG := GGi 1094 (by decide +kernel) (by decide +kernel)
theorem nf6_59 : Cond.fieldLink (Rz 6) 59 (Tz 6 25).1 (Tz 6 25).2.1 (Tz 6 25).2.2.1 ∈ GG := GGi 1095 (by decide +kernel) (by decide +kernel)
theorem nf6_62 : Cond.fieldLink (Rz 6) 62 (Tz 6 27).1 (Tz 6 27).2.1 (Tz 6 27).2.2.1 ∈ GG := GGi 1097 (by decide +kernel) (by decide +kernel)
theorem nf6_65 : Cond.fieldLink (Rz 6) 65 (Tz 6 28).1 (Tz 6 28).2.1 (Tz 6 28).2.2.1 ∈ GG := GGi 1098 (by decide +kernel) (by decide +kernel)
theorem nf6_68 : Cond.fieldLink (Rz 6) 68 (Tz 6 29).1 (Tz 6 29).2.1 (Tz 6 29).2.2.1 ∈ GG := GGi 1099 (by decide +kernel) (by decide +kernel)
theorem nf6_71 : Cond.fieldLink (Rz 6) 71 (Tz 6 30).1 (Tz 6 30).2.1 (Tz 6 30).2.2.1 ∈ GG := GGi 1100 (by decide +kernel) (by decide +kernel)
theorem nf6_74 : Cond.fieldLink (Rz 6) 74 (Tz 6 31).1 (Tz 6 31).2.1 (Tz 6 31).2.2.1 ∈ GG := GGi 1101 (by decide +kernel) (by decide +kernel)
theorem nf6_77 : Cond.fieldLink (Rz 6) 77 (Tz 6 32).1 (Tz 6 32).2.1 (Tz 6 32).2.2.1 ∈ GG := GGi 1102 (by decide +kernel) (by decide +kernel)
theorem nf6_80 : Cond.fieldLink (Rz 6) 80 (Tz 6 33).1 (Tz 6 33).2.1 (Tz 6 33).2.2.1 ∈ GG := GGi 1103 (by decide +kernel) (by decide +kernel)
theorem nf6_83 : Cond.fieldLink (Rz 6) 83 (Tz 6 37).1 (Tz 6 37).2.1 (Tz 6 37).2.2.1 ∈ GG := GGi 1107 (by decide +kernel) (by decide +kernel)
theorem d6_0 : decode cX6_init 0 = .ok (.aload_n 0, 1) := by decide +kernel
theorem d6_1 : decode cX6_init 1 = .ok (.invokespecial 1, 3) := by decide +kernel
theorem d6_4 : decode cX6_init 4 = .ok (.aload_n 0, 1) := by decide +kernel
theorem d6_5 : decode cX6_init 5 = .ok (.iconst 4, 1) := by decide +kernel
theorem d6_6 : decode cX6_init 6 = .ok (.newarray .int, 2) := by decide +kernel
theorem d6_8 : decode cX6_init 8 = .ok (.putfield 7, 3) := by decide +kernel
theorem d6_11 : decode cX6_init 11 = .ok (.aload_n 0, 1) := by decide +kernel
theorem d6_12 : decode cX6_init 12 = .ok (.iconst 4, 1) := by decide +kernel
theorem d6_13 : decode cX6_init 13 = .ok (.newarray .int, 2) := by decide +kernel
theorem d6_15 : decode cX6_init 15 = .ok (.putfield 13, 3) := by decide +kernel
theorem d6_18 : decode cX6_init 18 = .ok (.aload_n 0, 1) := by decide +kernel
theorem d6_19 : decode cX6_init 19 = .ok (.sipush 240, 3) := by decide +kernel
theorem d6_22 : decode cX6_init 22 = .ok (.newarray .long, 2) := by decide +kernel
theorem d6_24 : decode cX6_init 24 = .ok (.putfield 16, 3) := by decide +kernel
theorem d6_27 : decode cX6_init 27 = .ok (.aload_n 0, 1) := by decide +kernel
theorem d6_28 : decode cX6_init 28 = .ok (.bipush 60, 2) := by decide +kernel
theorem d6_30 : decode cX6_init 30 = .ok (.newarray .long, 2) := by decide +kernel
theorem d6_32 : decode cX6_init 32 = .ok (.putfield 20, 3) := by decide +kernel
theorem d6_35 : decode cX6_init 35 = .ok (.aload_n 0, 1) := by decide +kernel
theorem d6_36 : decode cX6_init 36 = .ok (.sipush 1600, 3) := by decide +kernel
theorem d6_39 : decode cX6_init 39 = .ok (.newarray .byte, 2) := by decide +kernel
theorem d6_41 : decode cX6_init 41 = .ok (.putfield 23, 3) := by decide +kernel
theorem d6_44 : decode cX6_init 44 = .ok (.aload_n 0, 1) := by decide +kernel
theorem d6_45 : decode cX6_init 45 = .ok (.iconst (-1), 1) := by decide +kernel
theorem d6_46 : decode cX6_init 46 = .ok (.putfield 27, 3) := by decide +kernel
theorem d6_49 : decode cX6_init 49 = .ok (.aload_n 0, 1) := by decide +kernel
theorem d6_50 : decode cX6_init 50 = .ok (.bipush 6, 2) := by decide +kernel
theorem d6_52 : decode cX6_init 52 = .ok (.newarray .int, 2) := by decide +kernel
theorem d6_54 : decode cX6_init 54 = .ok (.putfield 31, 3) := by decide +kernel
theorem d6_57 : decode cX6_init 57 = .ok (.aload_n 0, 1) := by decide +kernel
theorem d6_58 : decode cX6_init 58 = .ok (.bipush 6, 2) := by decide +kernel
theorem d6_60 : decode cX6_init 60 = .ok (.newarray .int, 2) := by decide +kernel
theorem d6_62 : decode cX6_init 62 = .ok (.putfield 34, 3) := by decide +kernel
theorem d6_65 : decode cX6_init 65 = .ok (.aload_n 0, 1) := by decide +kernel
theorem d6_66 : decode cX6_init 66 = .ok (.bipush 24, 2) := by decide +kernel
theorem d6_68 : decode cX6_init 68 = .ok (.newarray .int, 2) := by decide +kernel
theorem d6_70 : decode cX6_init 70 = .ok (.putfield 37, 3) := by decide +kernel
theorem d6_73 : decode cX6_init 73 = .ok (.aload_n 0, 1) := by decide +kernel
theorem d6_74 : decode cX6_init 74 = .ok (.sipush 252, 3) := by decide +kernel
theorem d6_77 : decode cX6_init 77 = .ok (.newarray .int, 2) := by decide +kernel
theorem d6_79 : decode cX6_init 79 = .ok (.putfield 40, 3) := by decide +kernel
theorem d6_82 : decode cX6_init 82 = .ok (.aload_n 0, 1) := by decide +kernel
theorem d6_83 : decode cX6_init 83 = .ok (.bipush 84, 2) := by decide +kernel
theorem d6_85 : decode cX6_init 85 = .ok (.newarray .int, 2) := by decide +kernel
theorem d6_87 : decode cX6_init 87 = .ok (.putfield 43, 3) := by decide +kernel
theorem d6_90 : decode cX6_init 90 = .ok (.aload_n 0, 1) := by decide +kernel
theorem d6_91 : decode cX6_init 91 = .ok (.iconst 3, 1) := by decide +kernel
theorem d6_92 : decode cX6_init 92 = .ok (.newarray .boolean, 2) := by decide +kernel
theorem d6_94 : decode cX6_init 94 = .ok (.putfield 46, 3) := by decide +kernel
theorem d6_97 : decode cX6_init 97 = .ok (.aload_n 0, 1) := by decide +kernel
theorem d6_98 : decode cX6_init 98 = .ok (.bipush 14, 2) := by decide +kernel
theorem d6_100 : decode cX6_init 100 = .ok (.newarray .int, 2) := by decide +kernel
theorem d6_102 : decode cX6_init 102 = .ok (.putfield 50, 3) := by decide +kernel
theorem d6_105 : decode cX6_init 105 = .ok (.aload_n 0, 1) := by decide +kernel
theorem d6_106 : decode cX6_init 106 = .ok (.bipush 14, 2) := by decide +kernel
theorem d6_108 : decode cX6_init 108 = .ok (.newarray .int, 2) := by decide +kernel
theorem d6_110 : decode cX6_init 110 = .ok (.putfield 53, 3) := by decide +kernel
theorem d6_113 : decode cX6_init 113 = .ok (.aload_n 0, 1) := by decide +kernel
theorem d6_114 : decode cX6_init 114 = .ok (.sipush 16384, 3) := by decide +kernel
theorem d6_117 : decode cX6_init 117 = .ok (.newarray .int, 2) := by decide +kernel
theorem d6_119 : decode cX6_init 119 = .ok (.putfield 56, 3) := by decide +kernel
theorem d6_122 : decode cX6_init 122 = .ok (.aload_n 0, 1) := by decide +kernel
theorem d6_123 : decode cX6_init 123 = .ok (.sipush 16384, 3) := by decide +kernel
theorem d6_126 : decode cX6_init 126 = .ok (.newarray .int, 2) := by decide +kernel
theorem d6_128 : decode cX6_init 128 = .ok (.putfield 59, 3) := by decide +kernel
theorem d6_131 : decode cX6_init 131 = .ok (.aload_n 0, 1) := by decide +kernel
theorem d6_132 : decode cX6_init 132 = .ok (.sipush 16384, 3) := by decide +kernel
theorem d6_135 : decode cX6_init 135 = .ok (.newarray .long, 2) := by decide +kernel
theorem d6_137 : decode cX6_init 137 = .ok (.putfield 62, 3) := by decide +kernel
theorem d6_140 : decode cX6_init 140 = .ok (.aload_n 0, 1) := by decide +kernel
theorem d6_141 : decode cX6_init 141 = .ok (.iconst (-1), 1) := by decide +kernel
theorem d6_142 : decode cX6_init 142 = .ok (.putfield 65, 3) := by decide +kernel
theorem d6_145 : decode cX6_init 145 = .ok (.aload_n 0, 1) := by decide +kernel
theorem d6_146 : decode cX6_init 146 = .ok (.sipush 16384, 3) := by decide +kernel
theorem d6_149 : decode cX6_init 149 = .ok (.newarray .int, 2) := by decide +kernel
theorem d6_151 : decode cX6_init 151 = .ok (.putfield 68, 3) := by decide +kernel
theorem d6_154 : decode cX6_init 154 = .ok (.aload_n 0, 1) := by decide +kernel
theorem d6_155 : decode cX6_init 155 = .ok (.sipush 16384, 3) := by decide +kernel
theorem d6_158 : decode cX6_init 158 = .ok (.newarray .int, 2) := by decide +kernel
theorem d6_160 : decode cX6_init 160 = .ok (.putfield 71, 3) := by decide +kernel
theorem d6_163 : decode cX6_init 163 = .ok (.aload_n 0, 1) := by decide +kernel
theorem d6_164 : decode cX6_init 164 = .ok (.sipush 1365, 3) := by decide +kernel
theorem d6_167 : decode cX6_init 167 = .ok (.newarray .long, 2) := by decide +kernel
theorem d6_169 : decode cX6_init 169 = .ok (.putfield 74, 3) := by decide +kernel
theorem d6_172 : decode cX6_init 172 = .ok (.aload_n 0, 1) := by decide +kernel
theorem d6_173 : decode cX6_init 173 = .ok (.sipush 3015, 3) := by decide +kernel
theorem d6_176 : decode cX6_init 176 = .ok (.newarray .long, 2) := by decide +kernel
theorem d6_178 : decode cX6_init 178 = .ok (.putfield 77, 3) := by decide +kernel
theorem d6_181 : decode cX6_init 181 = .ok (.aload_n 0, 1) := by decide +kernel
theorem d6_182 : decode cX6_init 182 = .ok (.sipush 3015, 3) := by decide +kernel
theorem d6_185 : decode cX6_init 185 = .ok (.newarray .int, 2) := by decide +kernel
theorem d6_187 : decode cX6_init 187 = .ok (.putfield 80, 3) := by decide +kernel
theorem d6_190 : decode cX6_init 190 = .ok (.aload_n 0, 1) := by decide +kernel
theorem d6_191 : decode cX6_init 191 = .ok (.sipush 16384, 3) := by decide +kernel
theorem d6_194 : decode cX6_init 194 = .ok (.newarray .boolean, 2) := by decide +kernel
theorem d6_196 : decode cX6_init 196 = .ok (.putfield 83, 3) := by decide +kernel
theorem d6_199 : decode cX6_init 199 = .ok (.iconst 0, 1) := by decide +kernel
theorem d6_200 : decode cX6_init 200 = .ok (.istore_n 1, 1) := by decide +kernel
theorem d6_201 : decode cX6_init 201 = .ok (.iload_n 1, 1) := by decide +kernel
theorem d6_202 : decode cX6_init 202 = .ok (.iconst 4, 1) := by decide +kernel
theorem d6_203 : decode cX6_init 203 = .ok (.if_icmp .ge 16, 3) := by decide +kernel
theorem d6_206 : decode cX6_init 206 = .ok (.aload_n 0, 1) := by decide +kernel
theorem d6_207 : decode cX6_init 207 = .ok (.getfield 7, 3) := by decide +kernel
theorem d6_210 : decode cX6_init 210 = .ok (.iload_n 1, 1) := by decide +kernel
theorem d6_211 : decode cX6_init 211 = .ok (.iconst (-1), 1) := by decide +kernel
theorem d6_212 : decode cX6_init 212 = .ok (.iastore, 1) := by decide +kernel
theorem d6_213 : decode cX6_init 213 = .ok (.iinc 1 1, 3) := by decide +kernel
theorem d6_216 : decode cX6_init 216 = .ok (.goto (-15), 3) := by decide +kernel
theorem d6_219 : decode cX6_init 219 = .ok (.return_, 1) := by decide +kernel
set_option maxHeartbeats 8000000 in
set_option maxRecDepth 4096 in
theorem mk_6 (l : Launch) (E : En) (z h0 : Nat) : Mk l mN6 1 22 108010 [.ref h0] E z [(h0, .inr (6, defN 6))] [(h0, .inr (6, [.int 0, .ref (z + 0), .ref (z + 1), .ref (z + 2), .ref (z + 3), .ref (z + 4), .int 0, .int 0, .int 0, .int 0, .int 0, .long 0, .int 0, .int 0, .int 0, .int (-1), .ref (z + 5), .ref (z + 6), .ref (z + 7), .ref (z + 8), .ref (z + 9), .ref (z + 10), .ref (z + 11), .ref (z + 12), .ref (z + 13), .ref (z + 14), .int 0, .ref (z + 15), .int (-1), .ref (z + 16), .ref (z + 17), .ref (z + 18), .ref (z + 19), .ref (z + 20), .long 0, .int 0, .long 0, .ref (z + 21), .int 0, .int 0])), (z + 0, .inl (E.tc 0, 4, .inl (upd (upd (upd (upd (fun _ => 0) 0 (-1)) 1 (-1)) 2 (-1)) 3 (-1)))), (z + 1, .inl (E.tc 0, 4, zaN 0)), (z + 2, .inl (E.tc 1, 240, zaN 1)), (z + 3, .inl (E.tc 1, 60, zaN 1)), (z + 4, .inl (E.tc 2, 1600, zaN 2)), (z + 5, .inl (E.tc 0, 6, zaN 0)), (z + 6, .inl (E.tc 0, 6, zaN 0)), (z + 7, .inl (E.tc 0, 24, zaN 0)), (z + 8, .inl (E.tc 0, 252, zaN 0)), (z + 9, .inl (E.tc 0, 84, zaN 0)), (z + 10, .inl (E.tc 3, 3, zaN 3)), (z + 11, .inl (E.tc 0, 14, zaN 0)), (z + 12, .inl (E.tc 0, 14, zaN 0)), (z + 13, .inl (E.tc 0, 16384, zaN 0)), (z + 14, .inl (E.tc 0, 16384, zaN 0)), (z + 15, .inl (E.tc 1, 16384, zaN 1)), (z + 16, .inl (E.tc 0, 16384, zaN 0)), (z + 17, .inl (E.tc 0, 16384, zaN 0)), (z + 18, .inl (E.tc 1, 1365, zaN 1)), (z + 19, .inl (E.tc 1, 3015, zaN 1)), (z + 20, .inl (E.tc 0, 3015, zaN 0)), (z + 21, .inl (E.tc 3, 16384, zaN 3))] := by
  refine Mk.of [.ref h0, jk] (by decide +kernel) (Nat.le_of_ble_eq_true rfl) rfl ?_
  intro p e s m args below meth c ls C V hP hD hS
  have hW : PD E (va_A [(h0, .inr (6, defN 6))] z) [(h0, .inr (6, [.int 0, .null, .null, .null, .null, .null, .int 0, .int 0, .int 0, .int 0, .int 0, .long 0, .int 0, .int 0, .int 0, .int 0, .null, .null, .null, .null, .null, .null, .null, .null, .null, .null, .int 0, .null, .int 0, .null, .null, .null, .null, .null, .long 0, .int 0, .long 0, .null, .int 0, .int 0]))] s.heap := ⟨hP, hD⟩
  clear hP hD
  refine lv_aload_n C.1 C.2.1 d6_0 rfl (V.atr rfl) ?_
  refine W.objInit C.1 C.2.1 C.2.2.2.2.1 (C.get nol_6) (C.get no_i) (C.get no_c) rfl (V.1.trans C.2.2.2.1.symm) rfl d6_1 (Nat.le_of_ble_eq_true rfl) (Nat.le_of_ble_eq_true rfl) ?_
  refine lv_aload_n C.1 C.2.1 d6_4 rfl (V.atr rfl) ?_
  refine lv_iconst (v := 4) C.1 C.2.1 d6_5 (by decide) ?_
  refine n_newa C hW.1 hW.2 hS 0 .int rfl rfl (fun _ h => h) (fun _ => rfl) na_int (by decide) (N' := 4) (by decide) (by decide) (c' := 1) rfl (s' := 4) rfl (Nat.le_of_ble_eq_true rfl) (Nat.le_of_ble_eq_true rfl) (Or.inl rfl) d6_6 (fun H hP hD hS => ?_)
  replace hW : PD E (va_A [(h0, .inr (6, defN 6))] z) [(h0, .inr (6, [.int 0, .null, .null, .null, .null, .null, .int 0, .int 0, .int 0, .int 0, .int 0, .long 0, .int 0, .int 0, .int 0, .int 0, .null, .null, .null, .null, .null, .null, .null, .null, .null, .null, .int 0, .null, .int 0, .null, .null, .null, .null, .null, .long 0, .int 0, .long 0, .null, .int 0, .int 0])), (z + 0, .inl (E.tc 0, 4, zaN 0))] H := ⟨hP, hD⟩
  clear hP hD
  refine n_put C hW.1 hW.2 hS 0 6 1 rfl (by decide) (by decide) rfl nf6_7 rfl rfl rfl (Nat.le_of_ble_eq_true rfl) d6_8 (fun H locs hP hD hS => ?_)
  replace hW : PD E (va_A [(h0, .inr (6, defN 6))] z) [(h0, .inr (6, [.int 0, .ref (z + 0), .null, .null, .null, .null, .int 0, .int 0, .int 0, .int 0, .int 0, .long 0, .int 0, .int 0, .int 0, .int 0, .null, .null, .null, .null, .null, .null, .null, .null, .null, .null, .int 0, .null, .int 0, .null, .null, .null, .null, .null, .long 0, .int 0, .long 0, .null, .int 0, .int 0])), (z + 0, .inl (E.tc 0, 4, zaN 0))] H := ⟨hP, hD⟩
  clear hP hD
  refine lv_aload_n C.1 C.2.1 d6_11 rfl (V.atr rfl) ?_
  refine lv_iconst (v := 4) C.1 C.2.1 d6_12 (by decide) ?_
  refine n_newa C hW.1 hW.2 hS 0 .int rfl rfl (fun _ h => h) (fun _ => rfl) na_int (by decide) (N' := 4) (by decide) (by decide) (c' := 2) rfl (s' := 8) rfl (Nat.le_of_ble_eq_true rfl) (Nat.le_of_ble_eq_true rfl) (Or.inr ⟨_, List.mem_of_getElem? (i := 1) rfl⟩) d6_13 (fun H hP hD hS => ?_)
  replace hW : PD E (va_A [(h0, .inr (6, defN 6))] z) [(h0, .inr (6, [.int 0, .ref (z + 0), .null, .null, .null, .null, .int 0, .int 0, .int 0, .int 0, .int 0, .long 0, .int 0, .int 0, .int 0, .int 0, .null, .null, .null, .null, .null, .null, .null, .null, .null, .null, .int 0, .null, .int 0, .null, .null, .null, .null, .null, .long 0, .int 0, .long 0, .null, .int 0, .int 0])), (z + 0, .inl (E.tc 0, 4, zaN 0)), (z + 1, .inl (E.tc 0, 4, zaN 0))] H := ⟨hP, hD⟩
  clear hP hD
  refine n_put C hW.1 hW.2 hS 0 6 2 rfl (by decide) (by decide) rfl nf6_13 rfl rfl rfl (Nat.le_of_ble_eq_true rfl) d6_15 (fun H locs hP hD hS => ?_)
  replace hW : PD E (va_A [(h0, .inr (6, defN 6))] z) [(h0, .inr (6, [.int 0, .ref (z + 0), .ref (z + 1), .null, .null, .null, .int 0, .int 0, .int 0, .int 0, .int 0, .long 0, .int 0, .int 0, .int 0, .int 0, .null, .null, .null, .null, .null, .null, .null, .null, .null, .null, .int 0, .null, .int 0, .null, .null, .null, .null, .null, .long 0, .int 0, .long 0, .null, .int 0, .int 0])), (z + 0, .inl (E.tc 0, 4, zaN 0)), (z + 1, .inl (E.tc 0, 4, zaN 0))] H := ⟨hP, hD⟩
  clear hP hD
  refine lv_aload_n C.1 C.2.1 d6_18 rfl (V.atr rfl) ?_
  refine lv_sipush (v := 240) C.1 C.2.1 d6_19 (by decide) ?_
  refine n_newa C hW.1 hW.2 hS 1 .long rfl rfl (fun _ h => h) (fun _ => rfl) na_long (by decide) (N' := 240) (by decide) (by decide) (c' := 3) rfl (s' := 248) rfl (Nat.le_of_ble_eq_true rfl) (Nat.le_of_ble_eq_true rfl) (Or.inr ⟨_, List.mem_of_getElem? (i := 2) rfl⟩) d6_22 (fun H hP hD hS => ?_)
  replace hW : PD E (va_A [(h0, .inr (6, defN 6))] z) [(h0, .inr (6, [.int 0, .ref (z + 0), .ref (z + 1), .null, .null, .null, .int 0, .int 0, .int 0, .int 0, .int 0, .long 0, .int 0, .int 0, .int 0, .int 0, .null, .null, .null, .null, .null, .null, .null, .null, .null, .null, .int 0, .null, .int 0, .null, .null, .null, .null, .null, .long 0, .int 0, .long 0, .null, .int 0, .int 0])), (z + 0, .inl (E.tc 0, 4, zaN 0)), (z + 1, .inl (E.tc 0, 4, zaN 0)), (z + 2, .inl (E.tc 1, 240, zaN 1))] H := ⟨hP, hD⟩
  clear hP hD
  refine n_put C hW.1 hW.2 hS 0 6 3 rfl (by decide) (by decide) rfl nf6_16 rfl rfl rfl (Nat.le_of_ble_eq_true rfl) d6_24 (fun H locs hP hD hS => ?_)
  replace hW : PD E (va_A [(h0, .inr (6, defN 6))] z) [(h0, .inr (6, [.int 0, .ref (z + 0), .ref (z + 1), .ref (z + 2), .null, .null, .int 0, .int 0, .int 0, .int 0, .int 0, .long 0, .int 0, .int 0, .int 0, .int 0, .null, .null, .null, .null, .null, .null, .null, .null, .null, .null, .int 0, .null, .int 0, .null, .null, .null, .null, .null, .long 0, .int 0, .long 0, .null, .int 0, .int 0])), (z + 0, .inl (E.tc 0, 4, zaN 0)), (z + 1, .inl (E.tc 0, 4, zaN 0)), (z + 2, .inl (E.tc 1, 240, zaN 1))] H := ⟨hP, hD⟩
  clear hP hD
  refine lv_aload_n C.1 C.2.1 d6_27 rfl (V.atr rfl) ?_
  refine lv_bipush (v := 60) C.1 C.2.1 d6_28 (by decide) ?_
  refine n_newa C hW.1 hW.2 hS 1 .long rfl rfl (fun _ h => h) (fun _ => rfl) na_long (by decide) (N' := 60) (by decide) (by decide) (c' := 4) rfl (s' := 308) rfl (Nat.le_of_ble_eq_true rfl) (Nat.le_of_ble_eq_true rfl) (Or.inr ⟨_, List.mem_of_getElem? (i := 3) rfl⟩) d6_30 (fun H hP hD hS => ?_)
  replace hW : PD E (va_A [(h0, .inr (6, defN 6))] z) [(h0, .inr (6, [.int 0, .ref (z + 0), .ref (z + 1), .ref (z + 2), .null, .null, .int 0, .int 0, .int 0, .int 0, .int 0, .long 0, .int 0, .int 0, .int 0, .int 0, .null, .null, .null, .null, .null, .null, .null, .null, .null, .null, .int 0, .null, .int 0, .null, .null, .null, .null, .null, .long 0, .int 0, .long 0, .null, .int 0, .int 0])), (z + 0, .inl (E.tc 0, 4, zaN 0)), (z + 1, .inl (E.tc 0, 4, zaN 0)), (z + 2, .inl (E.tc 1, 240, zaN 1)), (z + 3, .inl (E.tc 1, 60, zaN 1))] H := ⟨hP, hD⟩
  clear hP hD
  refine n_put C hW.1 hW.2 hS 0 6 4 rfl (by decide) (by decide) rfl nf6_20 rfl rfl rfl (Nat.le_of_ble_eq_true rfl) d6_32 (fun H locs hP hD hS => ?_)
  replace hW : PD E (va_A [(h0, .inr (6, defN 6))] z) [(h0, .inr (6, [.int 0, .ref (z + 0), .ref (z + 1), .ref (z + 2), .ref (z + 3), .null, .int 0, .int 0, .int 0, .int 0, .int 0, .long 0, .int 0, .int 0, .int 0, .int 0, .null, .null, .null, .null, .null, .null, .null, .null, .null, .null, .int 0, .null, .int 0, .null, .null, .null, .null, .null, .long 0, .int 0, .long 0, .null, .int 0, .int 0])), (z + 0, .inl (E.tc 0, 4, zaN 0)), (z + 1, .inl (E.tc 0, 4, zaN 0)), (z + 2, .inl (E.tc 1, 240, zaN 1)), (z + 3, .inl (E.tc 1, 60, zaN 1))] H := ⟨hP, hD⟩
  clear hP hD
  refine lv_aload_n C.1 C.2.1 d6_35 rfl (V.atr rfl) ?_
  refine lv_sipush (v := 1600) C.1 C.2.1 d6_36 (by decide) ?_
  refine n_newa C hW.1 hW.2 hS 2 .byte rfl rfl (fun _ h => h) (fun _ => rfl) na_byte (by decide) (N' := 1600) (by decide) (by decide) (c' := 5) rfl (s' := 1908) rfl (Nat.le_of_ble_eq_true rfl) (Nat.le_of_ble_eq_true rfl) (Or.inr ⟨_, List.mem_of_getElem? (i := 4) rfl⟩) d6_39 (fun H hP hD hS => ?_)
  replace hW : PD E (va_A [(h0, .inr (6, defN 6))] z) [(h0, .inr (6, [.int 0, .ref (z + 0), .ref (z + 1), .ref (z + 2), .ref (z + 3), .null, .int 0, .int 0, .int 0, .int 0, .int 0, .long 0, .int 0, .int 0, .int 0, .int 0, .null, .null, .null, .null, .null, .null, .null, .null, .null, .null, .int 0, .null, .int 0, .null, .null, .null, .null, .null, .long 0, .int 0, .long 0, .null, .int 0, .int 0])), (z + 0, .inl (E.tc 0, 4, zaN 0)), (z + 1, .inl (E.tc 0, 4, zaN 0)), (z + 2, .inl (E.tc 1, 240, zaN 1)), (z + 3, .inl (E.tc 1, 60, zaN 1)), (z + 4, .inl (E.tc 2, 1600, zaN 2))] H := ⟨hP, hD⟩
  clear hP hD
  refine n_put C hW.1 hW.2 hS 0 6 5 rfl (by decide) (by decide) rfl nf6_23 rfl rfl rfl (Nat.le_of_ble_eq_true rfl) d6_41 (fun H locs hP hD hS => ?_)
  replace hW : PD E (va_A [(h0, .inr (6, defN 6))] z) [(h0, .inr (6, [.int 0, .ref (z + 0), .ref (z + 1), .ref (z + 2), .ref (z + 3), .ref (z + 4), .int 0, .int 0, .int 0, .int 0, .int 0, .long 0, .int 0, .int 0, .int 0, .int 0, .null, .null, .null, .null, .null, .null, .null, .null, .null, .null, .int 0, .null, .int 0, .null, .null, .null, .null, .null, .long 0, .int 0, .long 0, .null, .int 0, .int 0])), (z + 0, .inl (E.tc 0, 4, zaN 0)), (z + 1, .inl (E.tc 0, 4, zaN 0)), (z + 2, .inl (E.tc 1, 240, zaN 1)), (z + 3, .inl (E.tc 1, 60, zaN 1)), (z + 4, .inl (E.tc 2, 1600, zaN 2))] H := ⟨hP, hD⟩
  clear hP hD
  refine lv_aload_n C.1 C.2.1 d6_44 rfl (V.atr rfl) ?_
  refine lv_iconst (v := (-1)) C.1 C.2.1 d6_45 (by decide) ?_
  refine n_put C hW.1 hW.2 hS 0 6 15 rfl (by decide) (by decide) rfl nf6_27 rfl rfl rfl (Nat.le_of_ble_eq_true rfl) d6_46 (fun H locs hP hD hS => ?_)
  replace hW : PD E (va_A [(h0, .inr (6, defN 6))] z) [(h0, .inr (6, [.int 0, .ref (z + 0), .ref (z + 1), .ref (z + 2), .ref (z + 3), .ref (z + 4), .int 0, .int 0, .int 0, .int 0, .int 0, .long 0, .int 0, .int 0, .int 0, .int (-1), .null, .null, .null, .null, .null, .null, .null, .null, .null, .null, .int 0, .null, .int 0, .null, .null, .null, .null, .null, .long 0, .int 0, .long 0, .null, .int 0, .int 0])), (z + 0, .inl (E.tc 0, 4, zaN 0)), (z + 1, .inl (E.tc 0, 4, zaN 0)), (z + 2, .inl (E.tc 1, 240, zaN 1)), (z + 3, .inl (E.tc 1, 60, zaN 1)), (z + 4, .inl (E.tc 2, 1600, zaN 2))] H := ⟨hP, hD⟩
  clear hP hD
  refine lv_aload_n C.1 C.2.1 d6_49 rfl (V.atr rfl) ?_
  refine lv_bipush (v := 6) C.1 C.2.1 d6_50 (by decide) ?_
  refine n_newa C hW.1 hW.2 hS 0 .int rfl rfl (fun _ h => h) (fun _ => rfl) na_int (by decide) (N' := 6) (by decide) (by decide) (c' := 6) rfl (s' := 1914) rfl (Nat.le_of_ble_eq_true rfl) (Nat.le_of_ble_eq_true rfl) (Or.inr ⟨_, List.mem_of_getElem? (i := 5) rfl⟩) d6_52 (fun H hP hD hS => ?_)
  replace hW : PD E (va_A [(h0, .inr (6, defN 6))] z) [(h0, .inr (6, [.int 0, .ref (z + 0), .ref (z + 1), .ref (z + 2), .ref (z + 3), .ref (z + 4), .int 0, .int 0, .int 0, .int 0, .int 0, .long 0, .int 0, .int 0, .int 0, .int (-1), .null, .null, .null, .null, .null, .null, .null, .null, .null, .null, .int 0, .null, .int 0, .null, .null, .null, .null, .null, .long 0, .int 0, .long 0, .null, .int 0, .int 0])), (z + 0, .inl (E.tc 0, 4, zaN 0)), (z + 1, .inl (E.tc 0, 4, zaN 0)), (z + 2, .inl (E.tc 1, 240, zaN 1)), (z + 3, .inl (E.tc 1, 60, zaN 1)), (z + 4, .inl (E.tc 2, 1600, zaN 2)), (z + 5, .inl (E.tc 0, 6, zaN 0))] H := ⟨hP, hD⟩
  clear hP hD
  refine n_put C hW.1 hW.2 hS 0 6 16 rfl (by decide) (by decide) rfl nf6_31 rfl rfl rfl (Nat.le_of_ble_eq_true rfl) d6_54 (fun H locs hP hD hS => ?_)
  replace hW : PD E (va_A [(h0, .inr (6, defN 6))] z) [(h0, .inr (6, [.int 0, .ref (z + 0), .ref (z + 1), .ref (z + 2), .ref (z + 3), .ref (z + 4), .int 0, .int 0, .int 0, .int 0, .int 0, .long 0, .int 0, .int 0, .int 0, .int (-1), .ref (z + 5), .null, .null, .null, .null, .null, .null, .null, .null, .null, .int 0, .null, .int 0, .null, .null, .null, .null, .null, .long 0, .int 0, .long 0, .null, .int 0, .int 0])), (z + 0, .inl (E.tc 0, 4, zaN 0)), (z + 1, .inl (E.tc 0, 4, zaN 0)), (z + 2, .inl (E.tc 1, 240, zaN 1)), (z + 3, .inl (E.tc 1, 60, zaN 1)), (z + 4, .inl (E.tc 2, 1600, zaN 2)), (z + 5, .inl (E.tc 0, 6, zaN 0))] H := ⟨hP, hD⟩
  clear hP hD
  refine lv_aload_n C.1 C.2.1 d6_57 rfl (V.atr rfl) ?_
  refine lv_bipush (v := 6) C.1 C.2.1 d6_58 (by decide) ?_
  refine n_newa C hW.1 hW.2 hS 0 .int rfl rfl (fun _ h => h) (fun _ => rfl) na_int (by decide) (N' := 6) (by decide) (by decide) (c' := 7) rfl (s' := 1920) rfl (Nat.le_of_ble_eq_true rfl) (Nat.le_of_ble_eq_true rfl) (Or.inr ⟨_, List.mem_of_getElem? (i := 6) rfl⟩) d6_60 (fun H hP hD hS => ?_)
  replace hW : PD E (va_A [(h0, .inr (6, defN 6))] z) [(h0, .inr (6, [.int 0, .ref (z + 0), .ref (z + 1), .ref (z + 2), .ref (z + 3), .ref (z + 4), .int 0, .int 0, .int 0, .int 0, .int 0, .long 0, .int 0, .int 0, .int 0, .int (-1), .ref (z + 5), .null, .null, .null, .null, .null, .null, .null, .null, .null, .int 0, .null, .int 0, .null, .null, .null, .null, .null, .long 0, .int 0, .long 0, .null, .int 0, .int 0])), (z + 0, .inl (E.tc 0, 4, zaN 0)), (z + 1, .inl (E.tc 0, 4, zaN 0)), (z + 2, .inl (E.tc 1, 240, zaN 1)), (z + 3, .inl (E.tc 1, 60, zaN 1)), (z + 4, .inl (E.tc 2, 1600, zaN 2)), (z + 5, .inl (E.tc 0, 6, zaN 0)), (z + 6, .inl (E.tc 0, 6, zaN 0))] H := ⟨hP, hD⟩
  clear hP hD
  refine n_put C hW.1 hW.2 hS 0 6 17 rfl (by decide) (by decide) rfl nf6_34 rfl rfl rfl (Nat.le_of_ble_eq_true rfl) d6_62 (fun H locs hP hD hS => ?_)
  replace hW : PD E (va_A [(h0, .inr (6, defN 6))] z) [(h0, .inr (6, [.int 0, .ref (z + 0), .ref (z + 1), .ref (z + 2), .ref (z + 3), .ref (z + 4), .int 0, .int 0, .int 0, .int 0, .int 0, .long 0, .int 0, .int 0, .int 0, .int (-1), .ref (z + 5), .ref (z + 6), .null, .null, .null, .null, .null, .null, .null, .null, .int 0, .null, .int 0, .null, .null, .null, .null, .null, .long 0, .int 0, .long 0, .null, .int 0, .int 0])), (z + 0, .inl (E.tc 0, 4, zaN 0)), (z + 1, .inl (E.tc 0, 4, zaN 0)), (z + 2, .inl (E.tc 1, 240, zaN 1)), (z + 3, .inl (E.tc 1, 60, zaN 1)), (z + 4, .inl (E.tc 2, 1600, zaN 2)), (z + 5, .inl (E.tc 0, 6, zaN 0)), (z + 6, .inl (E.tc 0, 6, zaN 0))] H := ⟨hP, hD⟩
  clear hP hD
  refine lv_aload_n C.1 C.2.1 d6_65 rfl (V.atr rfl) ?_
  refine lv_bipush (v := 24) C.1 C.2.1 d6_66 (by decide) ?_
  refine n_newa C hW.1 hW.2 hS 0 .int rfl rfl (fun _ h => h) (fun _ => rfl) na_int (by decide) (N' := 24) (by decide) (by decide) (c' := 8) rfl (s' := 1944) rfl (Nat.le_of_ble_eq_true rfl) (Nat.le_of_ble_eq_true rfl) (Or.inr ⟨_, List.mem_of_getElem? (i := 7) rfl⟩) d6_68 (fun H hP hD hS => ?_)
  replace hW : PD E (va_A [(h0, .inr (6, defN 6))] z) [(h0, .inr (6, [.int 0, .ref (z + 0), .ref (z + 1), .ref (z + 2), .ref (z + 3), .ref (z + 4), .int 0, .int 0, .int 0, .int 0, .int 0, .long 0, .int 0, .int 0, .int 0, .int (-1), .ref (z + 5), .ref (z + 6), .null, .null, .null, .null, .null, .null, .null, .null, .int 0, .null, .int 0, .null, .null, .null, .null, .null, .long 0, .int 0, .long 0, .null, .int 0, .int 0])), (z + 0, .inl (E.tc 0, 4, zaN 0)), (z + 1, .inl (E.tc 0, 4, zaN 0)), (z + 2, .inl (E.tc 1, 240, zaN 1)), (z + 3, .inl (E.tc 1, 60, zaN 1)), (z + 4, .inl (E.tc 2, 1600, zaN 2)), (z + 5, .inl (E.tc 0, 6, zaN 0)), (z + 6, .inl (E.tc 0, 6, zaN 0)), (z + 7, .inl (E.tc 0, 24, zaN 0))] H := ⟨hP, hD⟩
  clear hP hD
  refine n_put C hW.1 hW.2 hS 0 6 18 rfl (by decide) (by decide) rfl nf6_37 rfl rfl rfl (Nat.le_of_ble_eq_true rfl) d6_70 (fun H locs hP hD hS => ?_)
  replace hW : PD E (va_A [(h0, .inr (6, defN 6))] z) [(h0, .inr (6, [.int 0, .ref (z + 0), .ref (z + 1), .ref (z + 2), .ref (z + 3), .ref (z + 4), .int 0, .int 0, .int 0, .int 0, .int 0, .long 0, .int 0, .int 0, .int 0, .int (-1), .ref (z + 5), .ref (z + 6), .ref (z + 7), .null, .null, .null, .null, .null, .null, .null, .int 0, .null, .int 0, .null, .null, .null, .null, .null, .long 0, .int 0, .long 0, .null, .int 0, .int 0])), (z + 0, .inl (E.tc 0, 4, zaN 0)), (z + 1, .inl (E.tc 0, 4, zaN 0)), (z + 2, .inl (E.tc 1, 240, zaN 1)), (z + 3, .inl (E.tc 1, 60, zaN 1)), (z + 4, .inl (E.tc 2, 1600, zaN 2)), (z + 5, .inl (E.tc 0, 6, zaN 0)), (z + 6, .inl (E.tc 0, 6, zaN 0)), (z + 7, .inl (E.tc 0, 24, zaN 0))] H := ⟨hP, hD⟩
  clear hP hD
  refine lv_aload_n C.1 C.2.1 d6_73 rfl (V.atr rfl) ?_
  refine lv_sipush (v := 252) C.1 C.2.1 d6_74 (by decide) ?_
  refine n_newa C hW.1 hW.2 hS 0 .int rfl rfl (fun _ h => h) (fun _ => rfl) na_int (by decide) (N' := 252) (by decide) (by decide) (c' := 9) rfl (s' := 2196) rfl (Nat.le_of_ble_eq_true rfl) (Nat.le_of_ble_eq_true rfl) (Or.inr ⟨_, List.mem_of_getElem? (i := 8) rfl⟩) d6_77 (fun H hP hD hS => ?_)
  replace hW : PD E (va_A [(h0, .inr (6, defN 6))] z) [(h0, .inr (6, [.int 0, .ref (z + 0), .ref (z + 1), .ref (z + 2), .ref (z + 3), .ref (z + 4), .int 0, .int 0, .int 0, .int 0, .int 0, .long 0, .int 0, .int 0, .int 0, .int (-1), .ref (z + 5), .ref (z + 6), .ref (z + 7), .null, .null, .null, .null, .null, .null, .null, .int 0, .null, .int 0, .null, .null, .null, .null, .null, .long 0, .int 0, .long 0, .null, .int 0, .int 0])), (z + 0, .inl (E.tc 0, 4, zaN 0)), (z + 1, .inl (E.tc 0, 4, zaN 0)), (z + 2, .inl (E.tc 1, 240, zaN 1)), (z + 3, .inl (E.tc 1, 60, zaN 1)), (z + 4, .inl (E.tc 2, 1600, zaN 2)), (z + 5, .inl (E.tc 0, 6, zaN 0)), (z + 6, .inl (E.tc 0, 6, zaN 0)), (z + 7, .inl (E.tc 0, 24, zaN 0)), (z + 8, .inl (E.tc 0, 252, zaN 0))] H := ⟨hP, hD⟩
  clear hP hD
  refine n_put C hW.1 hW.2 hS 0 6 19 rfl (by decide) (by decide) rfl nf6_40 rfl rfl rfl (Nat.le_of_ble_eq_true rfl) d6_79 (fun H locs hP hD hS => ?_)
  replace hW : PD E (va_A [(h0, .inr (6, defN 6))] z) [(h0, .inr (6, [.int 0, .ref (z + 0), .ref (z + 1), .ref (z + 2), .ref (z + 3), .ref (z + 4), .int 0, .int 0, .int 0, .int 0, .int 0, .long 0, .int 0, .int 0, .int 0, .int (-1), .ref (z + 5), .ref (z + 6), .ref (z + 7), .ref (z + 8), .null, .null, .null, .null, .null, .null, .int 0, .null, .int 0, .null, .null, .null, .null, .null, .long 0, .int 0, .long 0, .null, .int 0, .int 0])), (z + 0, .inl (E.tc 0, 4, zaN 0)), (z + 1, .inl (E.tc 0, 4, zaN 0)), (z + 2, .inl (E.tc 1, 240, zaN 1)), (z + 3, .inl (E.tc 1, 60, zaN 1)), (z + 4, .inl (E.tc 2, 1600, zaN 2)), (z + 5, .inl (E.tc 0, 6, zaN 0)), (z + 6, .inl (E.tc 0, 6, zaN 0)), (z + 7, .inl (E.tc 0, 24, zaN 0)), (z + 8, .inl (E.tc 0, 252, zaN 0))] H := ⟨hP, hD⟩
  clear hP hD
  refine lv_aload_n C.1 C.2.1 d6_82 rfl (V.atr rfl) ?_
  refine lv_bipush (v := 84) C.1 C.2.1 d6_83 (by decide) ?_
  refine n_newa C hW.1 hW.2 hS 0 .int rfl rfl (fun _ h => h) (fun _ => rfl) na_int (by decide) (N' := 84) (by decide) (by decide) (c' := 10) rfl (s' := 2280) rfl (Nat.le_of_ble_eq_true rfl) (Nat.le_of_ble_eq_true rfl) (Or.inr ⟨_, List.mem_of_getElem? (i := 9) rfl⟩) d6_85 (fun H hP hD hS => ?_)
  replace hW : PD E (va_A [(h0, .inr (6, defN 6))] z) [(h0, .inr (6, [.int 0, .ref (z + 0), .ref (z + 1), .ref (z + 2), .ref (z + 3), .ref (z + 4), .int 0, .int 0, .int 0, .int 0, .int 0, .long 0, .int 0, .int 0, .int 0, .int (-1), .ref (z + 5), .ref (z + 6), .ref (z + 7), .ref (z + 8), .null, .null, .null, .null, .null, .null, .int 0, .null, .int 0, .null, .null, .null, .null, .null, .long 0, .int 0, .long 0, .null, .int 0, .int 0])), (z + 0, .inl (E.tc 0, 4, zaN 0)), (z + 1, .inl (E.tc 0, 4, zaN 0)), (z + 2, .inl (E.tc 1, 240, zaN 1)), (z + 3, .inl (E.tc 1, 60, zaN 1)), (z + 4, .inl (E.tc 2, 1600, zaN 2)), (z + 5, .inl (E.tc 0, 6, zaN 0)), (z + 6, .inl (E.tc 0, 6, zaN 0)), (z + 7, .inl (E.tc 0, 24, zaN 0)), (z + 8, .inl (E.tc 0, 252, zaN 0)), (z + 9, .inl (E.tc 0, 84, zaN 0))] H := ⟨hP, hD⟩
  clear hP hD
  refine n_put C hW.1 hW.2 hS 0 6 20 rfl (by decide) (by decide) rfl nf6_43 rfl rfl rfl (Nat.le_of_ble_eq_true rfl) d6_87 (fun H locs hP hD hS => ?_)
  replace hW : PD E (va_A [(h0, .inr (6, defN 6))] z) [(h0, .inr (6, [.int 0, .ref (z + 0), .ref (z + 1), .ref (z + 2), .ref (z + 3), .ref (z + 4), .int 0, .int 0, .int 0, .int 0, .int 0, .long 0, .int 0, .int 0, .int 0, .int (-1), .ref (z + 5), .ref (z + 6), .ref (z + 7), .ref (z + 8), .ref (z + 9), .null, .null, .null, .null, .null, .int 0, .null, .int 0, .null, .null, .null, .null, .null, .long 0, .int 0, .long 0, .null, .int 0, .int 0])), (z + 0, .inl (E.tc 0, 4, zaN 0)), (z + 1, .inl (E.tc 0, 4, zaN 0)), (z + 2, .inl (E.tc 1, 240, zaN 1)), (z + 3, .inl (E.tc 1, 60, zaN 1)), (z + 4, .inl (E.tc 2, 1600, zaN 2)), (z + 5, .inl (E.tc 0, 6, zaN 0)), (z + 6, .inl (E.tc 0, 6, zaN 0)), (z + 7, .inl (E.tc 0, 24, zaN 0)), (z + 8, .inl (E.tc 0, 252, zaN 0)), (z + 9, .inl (E.tc 0, 84, zaN 0))] H := ⟨hP, hD⟩
  clear hP hD
  refine lv_aload_n C.1 C.2.1 d6_90 rfl (V.atr rfl) ?_
  refine lv_iconst (v := 3) C.1 C.2.1 d6_91 (by decide) ?_
  refine n_newa C hW.1 hW.2 hS 3 .boolean rfl rfl (fun _ h => h) (fun _ => rfl) na_boolean (by decide) (N' := 3) (by decide) (by decide) (c' := 11) rfl (s' := 2283) rfl (Nat.le_of_ble_eq_true rfl) (Nat.le_of_ble_eq_true rfl) (Or.inr ⟨_, List.mem_of_getElem? (i := 10) rfl⟩) d6_92 (fun H hP hD hS => ?_)
  replace hW : PD E (va_A [(h0, .inr (6, defN 6))] z) [(h0, .inr (6, [.int 0, .ref (z + 0), .ref (z + 1), .ref (z + 2), .ref (z + 3), .ref (z + 4), .int 0, .int 0, .int 0, .int 0, .int 0, .long 0, .int 0, .int 0, .int 0, .int (-1), .ref (z + 5), .ref (z + 6), .ref (z + 7), .ref (z + 8), .ref (z + 9), .null, .null, .null, .null, .null, .int 0, .null, .int 0, .null, .null, .null, .null, .null, .long 0, .int 0, .long 0, .null, .int 0, .int 0])), (z + 0, .inl (E.tc 0, 4, zaN 0)), (z + 1, .inl (E.tc 0, 4, zaN 0)), (z + 2, .inl (E.tc 1, 240, zaN 1)), (z + 3, .inl (E.tc 1, 60, zaN 1)), (z + 4, .inl (E.tc 2, 1600, zaN 2)), (z + 5, .inl (E.tc 0, 6, zaN 0)), (z + 6, .inl (E.tc 0, 6, zaN 0)), (z + 7, .inl (E.tc 0, 24, zaN 0)), (z + 8, .inl (E.tc 0, 252, zaN 0)), (z + 9, .inl (E.tc 0, 84, zaN 0)), (z + 10, .inl (E.tc 3, 3, zaN 3))] H := ⟨hP, hD⟩
  clear hP hD
  refine n_put C hW.1 hW.2 hS 0 6 21 rfl (by decide) (by decide) rfl nf6_46 rfl rfl rfl (Nat.le_of_ble_eq_true rfl) d6_94 (fun H locs hP hD hS => ?_)
  replace hW : PD E (va_A [(h0, .inr (6, defN 6))] z) [(h0, .inr (6, [.int 0, .ref (z + 0), .ref (z + 1), .ref (z + 2), .ref (z + 3), .ref (z + 4), .int 0, .int 0, .int 0, .int 0, .int 0, .long 0, .int 0, .int 0, .int 0, .int (-1), .ref (z + 5), .ref (z + 6), .ref (z + 7), .ref (z + 8), .ref (z + 9), .ref (z + 10), .null, .null, .null, .null, .int 0, .null, .int 0, .null, .null, .null, .null, .null, .long 0, .int 0, .long 0, .null, .int 0, .int 0])), (z + 0, .inl (E.tc 0, 4, zaN 0)), (z + 1, .inl (E.tc 0, 4, zaN 0)), (z + 2, .inl (E.tc 1, 240, zaN 1)), (z + 3, .inl (E.tc 1, 60, zaN 1)), (z + 4, .inl (E.tc 2, 1600, zaN 2)), (z + 5, .inl (E.tc 0, 6, zaN 0)), (z + 6, .inl (E.tc 0, 6, zaN 0)), (z + 7, .inl (E.tc 0, 24, zaN 0)), (z + 8, .inl (E.tc 0, 252, zaN 0)), (z + 9, .inl (E.tc 0, 84, zaN 0)), (z + 10, .inl (E.tc 3, 3, zaN 3))] H := ⟨hP, hD⟩
  clear hP hD
  refine lv_aload_n C.1 C.2.1 d6_97 rfl (V.atr rfl) ?_
  refine lv_bipush (v := 14) C.1 C.2.1 d6_98 (by decide) ?_
  refine n_newa C hW.1 hW.2 hS 0 .int rfl rfl (fun _ h => h) (fun _ => rfl) na_int (by decide) (N' := 14) (by decide) (by decide) (c' := 12) rfl (s' := 2297) rfl (Nat.le_of_ble_eq_true rfl) (Nat.le_of_ble_eq_true rfl) (Or.inr ⟨_, List.mem_of_getElem? (i := 11) rfl⟩) d6_100 (fun H hP hD hS => ?_)
  replace hW : PD E (va_A [(h0, .inr (6, defN 6))] z) [(h0, .inr (6, [.int 0, .ref (z + 0), .ref (z + 1), .ref (z + 2), .ref (z + 3), .ref (z + 4), .int 0, .int 0, .int 0, .int 0, .int 0, .long 0, .int 0, .int 0, .int 0, .int (-1), .ref (z + 5), .ref (z + 6), .ref (z + 7), .ref (z + 8), .ref (z + 9), .ref (z + 10), .null, .null, .null, .null, .int 0, .null, .int 0, .null, .null, .null, .null, .null, .long 0, .int 0, .long 0, .null, .int 0, .int 0])), (z + 0, .inl (E.tc 0, 4, zaN 0)), (z + 1, .inl (E.tc 0, 4, zaN 0)), (z + 2, .inl (E.tc 1, 240, zaN 1)), (z + 3, .inl (E.tc 1, 60, zaN 1)), (z + 4, .inl (E.tc 2, 1600, zaN 2)), (z + 5, .inl (E.tc 0, 6, zaN 0)), (z + 6, .inl (E.tc 0, 6, zaN 0)), (z + 7, .inl (E.tc 0, 24, zaN 0)), (z + 8, .inl (E.tc 0, 252, zaN 0)), (z + 9, .inl (E.tc 0, 84, zaN 0)), (z + 10, .inl (E.tc 3, 3, zaN 3)), (z + 11, .inl (E.tc 0, 14, zaN 0))] H := ⟨hP, hD⟩
  clear hP hD
  refine n_put C hW.1 hW.2 hS 0 6 22 rfl (by decide) (by decide) rfl nf6_50 rfl rfl rfl (Nat.le_of_ble_eq_true rfl) d6_102 (fun H locs hP hD hS => ?_)
  replace hW : PD E (va_A [(h0, .inr (6, defN 6))] z) [(h0, .inr (6, [.int 0, .ref (z + 0), .ref (z + 1), .ref (z + 2), .ref (z + 3), .ref (z + 4), .int 0, .int 0, .int 0, .int 0, .int 0, .long 0, .int 0, .int 0, .int 0, .int (-1), .ref (z + 5), .ref (z + 6), .ref (z + 7), .ref (z + 8), .ref (z + 9), .ref (z + 10), .ref (z + 11), .null, .null, .null, .int 0, .null, .int 0, .null, .null, .null, .null, .null, .long 0, .int 0, .long 0, .null, .int 0, .int 0])), (z + 0, .inl (E.tc 0, 4, zaN 0)), (z + 1, .inl (E.tc 0, 4, zaN 0)), (z + 2, .inl (E.tc 1, 240, zaN 1)), (z + 3, .inl (E.tc 1, 60, zaN 1)), (z + 4, .inl (E.tc 2, 1600, zaN 2)), (z + 5, .inl (E.tc 0, 6, zaN 0)), (z + 6, .inl (E.tc 0, 6, zaN 0)), (z + 7, .inl (E.tc 0, 24, zaN 0)), (z + 8, .inl (E.tc 0, 252, zaN 0)), (z + 9, .inl (E.tc 0, 84, zaN 0)), (z + 10, .inl (E.tc 3, 3, zaN 3)), (z + 11, .inl (E.tc 0, 14, zaN 0))] H := ⟨hP, hD⟩
  clear hP hD
  refine lv_aload_n C.1 C.2.1 d6_105 rfl (V.atr rfl) ?_
  refine lv_bipush (v := 14) C.1 C.2.1 d6_106 (by decide) ?_
  refine n_newa C hW.1 hW.2 hS 0 .int rfl rfl (fun _ h => h) (fun _ => rfl) na_int (by decide) (N' := 14) (by decide) (by decide) (c' := 13) rfl (s' := 2311) rfl (Nat.le_of_ble_eq_true rfl) (Nat.le_of_ble_eq_true rfl) (Or.inr ⟨_, List.mem_of_getElem? (i := 12) rfl⟩) d6_108 (fun H hP hD hS => ?_)
  replace hW : PD E (va_A [(h0, .inr (6, defN 6))] z) [(h0, .inr (6, [.int 0, .ref (z + 0), .ref (z + 1), .ref (z + 2), .ref (z + 3), .ref (z + 4), .int 0, .int 0, .int 0, .int 0, .int 0, .long 0, .int 0, .int 0, .int 0, .int (-1), .ref (z + 5), .ref (z + 6), .ref (z + 7), .ref (z + 8), .ref (z + 9), .ref (z + 10), .ref (z + 11), .null, .null, .null, .int 0, .null, .int 0, .null, .null, .null, .null, .null, .long 0, .int 0, .long 0, .null, .int 0, .int 0])), (z + 0, .inl (E.tc 0, 4, zaN 0)), (z + 1, .inl (E.tc 0, 4, zaN 0)), (z + 2, .inl (E.tc 1, 240, zaN 1)), (z + 3, .inl (E.tc 1, 60, zaN 1)), (z + 4, .inl (E.tc 2, 1600, zaN 2)), (z + 5, .inl (E.tc 0, 6, zaN 0)), (z + 6, .inl (E.tc 0, 6, zaN 0)), (z + 7, .inl (E.tc 0, 24, zaN 0)), (z + 8, .inl (E.tc 0, 252, zaN 0)), (z + 9, .inl (E.tc 0, 84, zaN 0)), (z + 10, .inl (E.tc 3, 3, zaN 3)), (z + 11, .inl (E.tc 0, 14, zaN 0)), (z + 12, .inl (E.tc 0, 14, zaN 0))] H := ⟨hP, hD⟩
  clear hP hD
  refine n_put C hW.1 hW.2 hS 0 6 23 rfl (by decide) (by decide) rfl nf6_53 rfl rfl rfl (Nat.le_of_ble_eq_true rfl) d6_110 (fun H locs hP hD hS => ?_)
  replace hW : PD E (va_A [(h0, .inr (6, defN 6))] z) [(h0, .inr (6, [.int 0, .ref (z + 0), .ref (z + 1), .ref (z + 2), .ref (z + 3), .ref (z + 4), .int 0, .int 0, .int 0, .int 0, .int 0, .long 0, .int 0, .int 0, .int 0, .int (-1), .ref (z + 5), .ref (z + 6), .ref (z + 7), .ref (z + 8), .ref (z + 9), .ref (z + 10), .ref (z + 11), .ref (z + 12), .null, .null, .int 0, .null, .int 0, .null, .null, .null, .null, .null, .long 0, .int 0, .long 0, .null, .int 0, .int 0])), (z + 0, .inl (E.tc 0, 4, zaN 0)), (z + 1, .inl (E.tc 0, 4, zaN 0)), (z + 2, .inl (E.tc 1, 240, zaN 1)), (z + 3, .inl (E.tc 1, 60, zaN 1)), (z + 4, .inl (E.tc 2, 1600, zaN 2)), (z + 5, .inl (E.tc 0, 6, zaN 0)), (z + 6, .inl (E.tc 0, 6, zaN 0)), (z + 7, .inl (E.tc 0, 24, zaN 0)), (z + 8, .inl (E.tc 0, 252, zaN 0)), (z + 9, .inl (E.tc 0, 84, zaN 0)), (z + 10, .inl (E.tc 3, 3, zaN 3)), (z + 11, .inl (E.tc 0, 14, zaN 0)), (z + 12, .inl (E.tc 0, 14, zaN 0))] H := ⟨hP, hD⟩
  clear hP hD
  refine lv_aload_n C.1 C.2.1 d6_113 rfl (V.atr rfl) ?_
  refine lv_sipush (v := 16384) C.1 C.2.1 d6_114 (by decide) ?_
  refine n_newa C hW.1 hW.2 hS 0 .int rfl rfl (fun _ h => h) (fun _ => rfl) na_int (by decide) (N' := 16384) (by decide) (by decide) (c' := 14) rfl (s' := 18695) rfl (Nat.le_of_ble_eq_true rfl) (Nat.le_of_ble_eq_true rfl) (Or.inr ⟨_, List.mem_of_getElem? (i := 13) rfl⟩) d6_117 (fun H hP hD hS => ?_)
  replace hW : PD E (va_A [(h0, .inr (6, defN 6))] z) [(h0, .inr (6, [.int 0, .ref (z + 0), .ref (z + 1), .ref (z + 2), .ref (z + 3), .ref (z + 4), .int 0, .int 0, .int 0, .int 0, .int 0, .long 0, .int 0, .int 0, .int 0, .int (-1), .ref (z + 5), .ref (z + 6), .ref (z + 7), .ref (z + 8), .ref (z + 9), .ref (z + 10), .ref (z + 11), .ref (z + 12), .null, .null, .int 0, .null, .int 0, .null, .null, .null, .null, .null, .long 0, .int 0, .long 0, .null, .int 0, .int 0])), (z + 0, .inl (E.tc 0, 4, zaN 0)), (z + 1, .inl (E.tc 0, 4, zaN 0)), (z + 2, .inl (E.tc 1, 240, zaN 1)), (z + 3, .inl (E.tc 1, 60, zaN 1)), (z + 4, .inl (E.tc 2, 1600, zaN 2)), (z + 5, .inl (E.tc 0, 6, zaN 0)), (z + 6, .inl (E.tc 0, 6, zaN 0)), (z + 7, .inl (E.tc 0, 24, zaN 0)), (z + 8, .inl (E.tc 0, 252, zaN 0)), (z + 9, .inl (E.tc 0, 84, zaN 0)), (z + 10, .inl (E.tc 3, 3, zaN 3)), (z + 11, .inl (E.tc 0, 14, zaN 0)), (z + 12, .inl (E.tc 0, 14, zaN 0)), (z + 13, .inl (E.tc 0, 16384, zaN 0))] H := ⟨hP, hD⟩
  clear hP hD
  refine n_put C hW.1 hW.2 hS 0 6 24 rfl (by decide) (by decide) rfl nf6_56 rfl rfl rfl (Nat.le_of_ble_eq_true rfl) d6_119 (fun H locs hP hD hS => ?_)
  replace hW : PD E (va_A [(h0, .inr (6, defN 6))] z) [(h0, .inr (6, [.int 0, .ref (z + 0), .ref (z + 1), .ref (z + 2), .ref (z + 3), .ref (z + 4), .int 0, .int 0, .int 0, .int 0, .int 0, .long 0, .int 0, .int 0, .int 0, .int (-1), .ref (z + 5), .ref (z + 6), .ref (z + 7), .ref (z + 8), .ref (z + 9), .ref (z + 10), .ref (z + 11), .ref (z + 12), .ref (z + 13), .null, .int 0, .null, .int 0, .null, .null, .null, .null, .null, .long 0, .int 0, .long 0, .null, .int 0, .int 0])), (z + 0, .inl (E.tc 0, 4, zaN 0)), (z + 1, .inl (E.tc 0, 4, zaN 0)), (z + 2, .inl (E.tc 1, 240, zaN 1)), (z + 3, .inl (E.tc 1, 60, zaN 1)), (z + 4, .inl (E.tc 2, 1600, zaN 2)), (z + 5, .inl (E.tc 0, 6, zaN 0)), (z + 6, .inl (E.tc 0, 6, zaN 0)), (z + 7, .inl (E.tc 0, 24, zaN 0)), (z + 8, .inl (E.tc 0, 252, zaN 0)), (z + 9, .inl (E.tc 0, 84, zaN 0)), (z + 10, .inl (E.tc 3, 3, zaN 3)), (z + 11, .inl (E.tc 0, 14, zaN 0)), (z + 12, .inl (E.tc 0, 14, zaN 0)), (z + 13, .inl (E.tc 0, 16384, zaN 0))] H := ⟨hP, hD⟩
  clear hP hD
  refine lv_aload_n C.1 C.2.1 d6_122 rfl (V.atr rfl) ?_
  refine lv_sipush (v := 16384) C.1 C.2.1 d6_123 (by decide) ?_
  refine n_newa C hW.1 hW.2 hS 0 .int rfl rfl (fun _ h => h) (fun _ => rfl) na_int (by decide) (N' := 16384) (by decide) (by decide) (c' := 15) rfl (s' := 35079) rfl (Nat.le_of_ble_eq_true rfl) (Nat.le_of_ble_eq_true rfl) (Or.inr ⟨_, List.mem_of_getElem? (i := 14) rfl⟩) d6_126 (fun H hP hD hS => ?_)
  replace hW : PD E (va_A [(h0, .inr (6, defN 6))] z) [(h0, .inr (6, [.int 0, .ref (z + 0), .ref (z + 1), .ref (z + 2), .ref (z + 3), .ref (z + 4), .int 0, .int 0, .int 0, .int 0, .int 0, .long 0, .int 0, .int 0, .int 0, .int (-1), .ref (z + 5), .ref (z + 6), .ref (z + 7), .ref (z + 8), .ref (z + 9), .ref (z + 10), .ref (z + 11), .ref (z + 12), .ref (z + 13), .null, .int 0, .null, .int 0, .null, .null, .null, .null, .null, .long 0, .int 0, .long 0, .null, .int 0, .int 0])), (z + 0, .inl (E.tc 0, 4, zaN 0)), (z + 1, .inl (E.tc 0, 4, zaN 0)), (z + 2, .inl (E.tc 1, 240, zaN 1)), (z + 3, .inl (E.tc 1, 60, zaN 1)), (z + 4, .inl (E.tc 2, 1600, zaN 2)), (z + 5, .inl (E.tc 0, 6, zaN 0)), (z + 6, .inl (E.tc 0, 6, zaN 0)), (z + 7, .inl (E.tc 0, 24, zaN 0)), (z + 8, .inl (E.tc 0, 252, zaN 0)), (z + 9, .inl (E.tc 0, 84, zaN 0)), (z + 10, .inl (E.tc 3, 3, zaN 3)), (z + 11, .inl (E.tc 0, 14, zaN 0)), (z + 12, .inl (E.tc 0, 14, zaN 0)), (z + 13, .inl (E.tc 0, 16384, zaN 0)), (z + 14, .inl (E.tc 0, 16384, zaN 0))] H := ⟨hP, hD⟩
  clear hP hD
  refine n_put C hW.1 hW.2 hS 0 6 25 rfl (by decide) (by decide) rfl nf6_59 rfl rfl rfl (Nat.le_of_ble_eq_true rfl) d6_128 (fun H locs hP hD hS => ?_)
  replace hW : PD E (va_A [(h0, .inr (6, defN 6))] z) [(h0, .inr (6, [.int 0, .ref (z + 0), .ref (z + 1), .ref (z + 2), .ref (z + 3), .ref (z + 4), .int 0, .int 0, .int 0, .int 0, .int 0, .long 0, .int 0, .int 0, .int 0, .int (-1), .ref (z + 5), .ref (z + 6), .ref (z + 7), .ref (z + 8), .ref (z + 9), .ref (z + 10), .ref (z + 11), .ref (z + 12), .ref (z + 13), .ref (z + 14), .int 0, .null, .int 0, .null, .null, .null, .null, .null, .long 0, .int 0, .long 0, .null, .int 0, .int 0])), (z + 0, .inl (E.tc 0, 4, zaN 0)), (z + 1, .inl (E.tc 0, 4, zaN 0)), (z + 2, .inl (E.tc 1, 240, zaN 1)), (z + 3, .inl (E.tc 1, 60, zaN 1)), (z + 4, .inl (E.tc 2, 1600, zaN 2)), (z + 5, .inl (E.tc 0, 6, zaN 0)), (z + 6, .inl (E.tc 0, 6, zaN 0)), (z + 7, .inl (E.tc 0, 24, zaN 0)), (z + 8, .inl (E.tc 0, 252, zaN 0)), (z + 9, .inl (E.tc 0, 84, zaN 0)), (z + 10, .inl (E.tc 3, 3, zaN 3)), (z + 11, .inl (E.tc 0, 14, zaN 0)), (z + 12, .inl (E.tc 0, 14, zaN 0)), (z + 13, .inl (E.tc 0, 16384, zaN 0)), (z + 14, .inl (E.tc 0, 16384, zaN 0))] H := ⟨hP, hD⟩
  clear hP hD
  refine lv_aload_n C.1 C.2.1 d6_131 rfl (V.atr rfl) ?_
  refine lv_sipush (v := 16384) C.1 C.2.1 d6_132 (by decide) ?_
  refine n_newa C hW.1 hW.2 hS 1 .long rfl rfl (fun _ h => h) (fun _ => rfl) na_long (by decide) (N' := 16384) (by decide) (by decide) (c' := 16) rfl (s' := 51463) rfl (Nat.le_of_ble_eq_true rfl) (Nat.le_of_ble_eq_true rfl) (Or.inr ⟨_, List.mem_of_getElem? (i := 15) rfl⟩) d6_135 (fun H hP hD hS => ?_)
  replace hW : PD E (va_A [(h0, .inr (6, defN 6))] z) [(h0, .inr (6, [.int 0, .ref (z + 0), .ref (z + 1), .ref (z + 2), .ref (z + 3), .ref (z + 4), .int 0, .int 0, .int 0, .int 0, .int 0, .long 0, .int 0, .int 0, .int 0, .int (-1), .ref (z + 5), .ref (z + 6), .ref (z + 7), .ref (z + 8), .ref (z + 9), .ref (z + 10), .ref (z + 11), .ref (z + 12), .ref (z + 13), .ref (z + 14), .int 0, .null, .int 0, .null, .null, .null, .null, .null, .long 0, .int 0, .long 0, .null, .int 0, .int 0])), (z + 0, .inl (E.tc 0, 4, zaN 0)), (z + 1, .inl (E.tc 0, 4, zaN 0)), (z + 2, .inl (E.tc 1, 240, zaN 1)), (z + 3, .inl (E.tc 1, 60, zaN 1)), (z + 4, .inl (E.tc 2, 1600, zaN 2)), (z + 5, .inl (E.tc 0, 6, zaN 0)), (z + 6, .inl (E.tc 0, 6, zaN 0)), (z + 7, .inl (E.tc 0, 24, zaN 0)), (z + 8, .inl (E.tc 0, 252, zaN 0)), (z + 9, .inl (E.tc 0, 84, zaN 0)), (z + 10, .inl (E.tc 3, 3, zaN 3)), (z + 11, .inl (E.tc 0, 14, zaN 0)), (z + 12, .inl (E.tc 0, 14, zaN 0)), (z + 13, .inl (E.tc 0, 16384, zaN 0)), (z + 14, .inl (E.tc 0, 16384, zaN 0)), (z + 15, .inl (E.tc 1, 16384, zaN 1))] H := ⟨hP, hD⟩
  clear hP hD
  refine n_put C hW.1 hW.2 hS 0 6 27 rfl (by decide) (by decide) rfl nf6_62 rfl rfl rfl (Nat.le_of_ble_eq_true rfl) d6_137 (fun H locs hP hD hS => ?_)
  replace hW : PD E (va_A [(h0, .inr (6, defN 6))] z) [(h0, .inr (6, [.int 0, .ref (z + 0), .ref (z + 1), .ref (z + 2), .ref (z + 3), .ref (z + 4), .int 0, .int 0, .int 0, .int 0, .int 0, .long 0, .int 0, .int 0, .int 0, .int (-1), .ref (z + 5), .ref (z + 6), .ref (z + 7), .ref (z + 8), .ref (z + 9), .ref (z + 10), .ref (z + 11), .ref (z + 12), .ref (z + 13), .ref (z + 14), .int 0, .ref (z + 15), .int 0, .null, .null, .null, .null, .null, .long 0, .int 0, .long 0, .null, .int 0, .int 0])), (z + 0, .inl (E.tc 0, 4, zaN 0)), (z + 1, .inl (E.tc 0, 4, zaN 0)), (z + 2, .inl (E.tc 1, 240, zaN 1)), (z + 3, .inl (E.tc 1, 60, zaN 1)), (z + 4, .inl (E.tc 2, 1600, zaN 2)), (z + 5, .inl (E.tc 0, 6, zaN 0)), (z + 6, .inl (E.tc 0, 6, zaN 0)), (z + 7, .inl (E.tc 0, 24, zaN 0)), (z + 8, .inl (E.tc 0, 252, zaN 0)), (z + 9, .inl (E.tc 0, 84, zaN 0)), (z + 10, .inl (E.tc 3, 3, zaN 3)), (z + 11, .inl (E.tc 0, 14, zaN 0)), (z + 12, .inl (E.tc 0, 14, zaN 0)), (z + 13, .inl (E.tc 0, 16384, zaN 0)), (z + 14, .inl (E.tc 0, 16384, zaN 0)), (z + 15, .inl (E.tc 1, 16384, zaN 1))] H := ⟨hP, hD⟩
  clear hP hD
  refine lv_aload_n C.1 C.2.1 d6_140 rfl (V.atr rfl) ?_
  refine lv_iconst (v := (-1)) C.1 C.2.1 d6_141 (by decide) ?_
  refine n_put C hW.1 hW.2 hS 0 6 28 rfl (by decide) (by decide) rfl nf6_65 rfl rfl rfl (Nat.le_of_ble_eq_true rfl) d6_142 (fun H locs hP hD hS => ?_)
  replace hW : PD E (va_A [(h0, .inr (6, defN 6))] z) [(h0, .inr (6, [.int 0, .ref (z + 0), .ref (z + 1), .ref (z + 2), .ref (z + 3), .ref (z + 4), .int 0, .int 0, .int 0, .int 0, .int 0, .long 0, .int 0, .int 0, .int 0, .int (-1), .ref (z + 5), .ref (z + 6), .ref (z + 7), .ref (z + 8), .ref (z + 9), .ref (z + 10), .ref (z + 11), .ref (z + 12), .ref (z + 13), .ref (z + 14), .int 0, .ref (z + 15), .int (-1), .null, .null, .null, .null, .null, .long 0, .int 0, .long 0, .null, .int 0, .int 0])), (z + 0, .inl (E.tc 0, 4, zaN 0)), (z + 1, .inl (E.tc 0, 4, zaN 0)), (z + 2, .inl (E.tc 1, 240, zaN 1)), (z + 3, .inl (E.tc 1, 60, zaN 1)), (z + 4, .inl (E.tc 2, 1600, zaN 2)), (z + 5, .inl (E.tc 0, 6, zaN 0)), (z + 6, .inl (E.tc 0, 6, zaN 0)), (z + 7, .inl (E.tc 0, 24, zaN 0)), (z + 8, .inl (E.tc 0, 252, zaN 0)), (z + 9, .inl (E.tc 0, 84, zaN 0)), (z + 10, .inl (E.tc 3, 3, zaN 3)), (z + 11, .inl (E.tc 0, 14, zaN 0)), (z + 12, .inl (E.tc 0, 14, zaN 0)), (z + 13, .inl (E.tc 0, 16384, zaN 0)), (z + 14, .inl (E.tc 0, 16384, zaN 0)), (z + 15, .inl (E.tc 1, 16384, zaN 1))] H := ⟨hP, hD⟩
  clear hP hD
  refine lv_aload_n C.1 C.2.1 d6_145 rfl (V.atr rfl) ?_
  refine lv_sipush (v := 16384) C.1 C.2.1 d6_146 (by decide) ?_
  refine n_newa C hW.1 hW.2 hS 0 .int rfl rfl (fun _ h => h) (fun _ => rfl) na_int (by decide) (N' := 16384) (by decide) (by decide) (c' := 17) rfl (s' := 67847) rfl (Nat.le_of_ble_eq_true rfl) (Nat.le_of_ble_eq_true rfl) (Or.inr ⟨_, List.mem_of_getElem? (i := 16) rfl⟩) d6_149 (fun H hP hD hS => ?_)
  replace hW : PD E (va_A [(h0, .inr (6, defN 6))] z) [(h0, .inr (6, [.int 0, .ref (z + 0), .ref (z + 1), .ref (z + 2), .ref (z + 3), .ref (z + 4), .int 0, .int 0, .int 0, .int 0, .int 0, .long 0, .int 0, .int 0, .int 0, .int (-1), .ref (z + 5), .ref (z + 6), .ref (z + 7), .ref (z + 8), .ref (z + 9), .ref (z + 10), .ref (z + 11), .ref (z + 12), .ref (z + 13), .ref (z + 14), .int 0, .ref (z + 15), .int (-1), .null, .null, .null, .null, .null, .long 0, .int 0, .long 0, .null, .int 0, .int 0])), (z + 0, .inl (E.tc 0, 4, zaN 0)), (z + 1, .inl (E.tc 0, 4, zaN 0)), (z + 2, .inl (E.tc 1, 240, zaN 1)), (z + 3, .inl (E.tc 1, 60, zaN 1)), (z + 4, .inl (E.tc 2, 1600, zaN 2)), (z + 5, .inl (E.tc 0, 6, zaN 0)), (z + 6, .inl (E.tc 0, 6, zaN 0)), (z + 7, .inl (E.tc 0, 24, zaN 0)), (z + 8, .inl (E.tc 0, 252, zaN 0)), (z + 9, .inl (E.tc 0, 84, zaN 0)), (z + 10, .inl (E.tc 3, 3, zaN 3)), (z + 11, .inl (E.tc 0, 14, zaN 0)), (z + 12, .inl (E.tc 0, 14, zaN 0)), (z + 13, .inl (E.tc 0, 16384, zaN 0)), (z + 14, .inl (E.tc 0, 16384, zaN 0)), (z + 15, .inl (E.tc 1, 16384, zaN 1)), (z + 16, .inl (E.tc 0, 16384, zaN 0))] H := ⟨hP, hD⟩
  clear hP hD
  refine n_put C hW.1 hW.2 hS 0 6 29 rfl (by decide) (by decide) rfl nf6_68 rfl rfl rfl (Nat.le_of_ble_eq_true rfl) d6_151 (fun H locs hP hD hS => ?_)
  replace hW : PD E (va_A [(h0, .inr (6, defN 6))] z) [(h0, .inr (6, [.int 0, .ref (z + 0), .ref (z + 1), .ref (z + 2), .ref (z + 3), .ref (z + 4), .int 0, .int 0, .int 0, .int 0, .int 0, .long 0, .int 0, .int 0, .int 0, .int (-1), .ref (z + 5), .ref (z + 6), .ref (z + 7), .ref (z + 8), .ref (z + 9), .ref (z + 10), .ref (z + 11), .ref (z + 12), .ref (z + 13), .ref (z + 14), .int 0, .ref (z + 15), .int (-1), .ref (z + 16), .null, .null, .null, .null, .long 0, .int 0, .long 0, .null, .int 0, .int 0])), (z + 0, .inl (E.tc 0, 4, zaN 0)), (z + 1, .inl (E.tc 0, 4, zaN 0)), (z + 2, .inl (E.tc 1, 240, zaN 1)), (z + 3, .inl (E.tc 1, 60, zaN 1)), (z + 4, .inl (E.tc 2, 1600, zaN 2)), (z + 5, .inl (E.tc 0, 6, zaN 0)), (z + 6, .inl (E.tc 0, 6, zaN 0)), (z + 7, .inl (E.tc 0, 24, zaN 0)), (z + 8, .inl (E.tc 0, 252, zaN 0)), (z + 9, .inl (E.tc 0, 84, zaN 0)), (z + 10, .inl (E.tc 3, 3, zaN 3)), (z + 11, .inl (E.tc 0, 14, zaN 0)), (z + 12, .inl (E.tc 0, 14, zaN 0)), (z + 13, .inl (E.tc 0, 16384, zaN 0)), (z + 14, .inl (E.tc 0, 16384, zaN 0)), (z + 15, .inl (E.tc 1, 16384, zaN 1)), (z + 16, .inl (E.tc 0, 16384, zaN 0))] H := ⟨hP, hD⟩
  clear hP hD
  refine lv_aload_n C.1 C.2.1 d6_154 rfl (V.atr rfl) ?_
  refine lv_sipush (v := 16384) C.1 C.2.1 d6_155 (by decide) ?_
  refine n_newa C hW.1 hW.2 hS 0 .int rfl rfl (fun _ h => h) (fun _ => rfl) na_int (by decide) (N' := 16384) (by decide) (by decide) (c' := 18) rfl (s' := 84231) rfl (Nat.le_of_ble_eq_true rfl) (Nat.le_of_ble_eq_true rfl) (Or.inr ⟨_, List.mem_of_getElem? (i := 17) rfl⟩) d6_158 (fun H hP hD hS => ?_)
  replace hW : PD E (va_A [(h0, .inr (6, defN 6))] z) [(h0, .inr (6, [.int 0, .ref (z + 0), .ref (z + 1), .ref (z + 2), .ref (z + 3), .ref (z + 4), .int 0, .int 0, .int 0, .int 0, .int 0, .long 0, .int 0, .int 0, .int 0, .int (-1), .ref (z + 5), .ref (z + 6), .ref (z + 7), .ref (z + 8), .ref (z + 9), .ref (z + 10), .ref (z + 11), .ref (z + 12), .ref (z + 13), .ref (z + 14), .int 0, .ref (z + 15), .int (-1), .ref (z + 16), .null, .null, .null, .null, .long 0, .int 0, .long 0, .null, .int 0, .int 0])), (z + 0, .inl (E.tc 0, 4, zaN 0)), (z + 1, .inl (E.tc 0, 4, zaN 0)), (z + 2, .inl (E.tc 1, 240, zaN 1)), (z + 3, .inl (E.tc 1, 60, zaN 1)), (z + 4, .inl (E.tc 2, 1600, zaN 2)), (z + 5, .inl (E.tc 0, 6, zaN 0)), (z + 6, .inl (E.tc 0, 6, zaN 0)), (z + 7, .inl (E.tc 0, 24, zaN 0)), (z + 8, .inl (E.tc 0, 252, zaN 0)), (z + 9, .inl (E.tc 0, 84, zaN 0)), (z + 10, .inl (E.tc 3, 3, zaN 3)), (z + 11, .inl (E.tc 0, 14, zaN 0)), (z + 12, .inl (E.tc 0, 14, zaN 0)), (z + 13, .inl (E.tc 0, 16384, zaN 0)), (z + 14, .inl (E.tc 0, 16384, zaN 0)), (z + 15, .inl (E.tc 1, 16384, zaN 1)), (z + 16, .inl (E.tc 0, 16384, zaN 0)), (z + 17, .inl (E.tc 0, 16384, zaN 0))] H := ⟨hP, hD⟩
  clear hP hD
  refine n_put C hW.1 hW.2 hS 0 6 30 rfl (by decide) (by decide) rfl nf6_71 rfl rfl rfl (Nat.le_of_ble_eq_true rfl) d6_160 (fun H locs hP hD hS => ?_)
  replace hW : PD E (va_A [(h0, .inr (6, defN 6))] z) [(h0, .inr (6, [.int 0, .ref (z + 0), .ref (z + 1), .ref (z + 2), .ref (z + 3), .ref (z + 4), .int 0, .int 0, .int 0, .int 0, .int 0, .long 0, .int 0, .int 0, .int 0, .int (-1), .ref (z + 5), .ref (z + 6), .ref (z + 7), .ref (z + 8), .ref (z + 9), .ref (z + 10), .ref (z + 11), .ref (z + 12), .ref (z + 13), .ref (z + 14), .int 0, .ref (z + 15), .int (-1), .ref (z + 16), .ref (z + 17), .null, .null, .null, .long 0, .int 0, .long 0, .null, .int 0, .int 0])), (z + 0, .inl (E.tc 0, 4, zaN 0)), (z + 1, .inl (E.tc 0, 4, zaN 0)), (z + 2, .inl (E.tc 1, 240, zaN 1)), (z + 3, .inl (E.tc 1, 60, zaN 1)), (z + 4, .inl (E.tc 2, 1600, zaN 2)), (z + 5, .inl (E.tc 0, 6, zaN 0)), (z + 6, .inl (E.tc 0, 6, zaN 0)), (z + 7, .inl (E.tc 0, 24, zaN 0)), (z + 8, .inl (E.tc 0, 252, zaN 0)), (z + 9, .inl (E.tc 0, 84, zaN 0)), (z + 10, .inl (E.tc 3, 3, zaN 3)), (z + 11, .inl (E.tc 0, 14, zaN 0)), (z + 12, .inl (E.tc 0, 14, zaN 0)), (z + 13, .inl (E.tc 0, 16384, zaN 0)), (z + 14, .inl (E.tc 0, 16384, zaN 0)), (z + 15, .inl (E.tc 1, 16384, zaN 1)), (z + 16, .inl (E.tc 0, 16384, zaN 0)), (z + 17, .inl (E.tc 0, 16384, zaN 0))] H := ⟨hP, hD⟩
  clear hP hD
  refine lv_aload_n C.1 C.2.1 d6_163 rfl (V.atr rfl) ?_
  refine lv_sipush (v := 1365) C.1 C.2.1 d6_164 (by decide) ?_
  refine n_newa C hW.1 hW.2 hS 1 .long rfl rfl (fun _ h => h) (fun _ => rfl) na_long (by decide) (N' := 1365) (by decide) (by decide) (c' := 19) rfl (s' := 85596) rfl (Nat.le_of_ble_eq_true rfl) (Nat.le_of_ble_eq_true rfl) (Or.inr ⟨_, List.mem_of_getElem? (i := 18) rfl⟩) d6_167 (fun H hP hD hS => ?_)
  replace hW : PD E (va_A [(h0, .inr (6, defN 6))] z) [(h0, .inr (6, [.int 0, .ref (z + 0), .ref (z + 1), .ref (z + 2), .ref (z + 3), .ref (z + 4), .int 0, .int 0, .int 0, .int 0, .int 0, .long 0, .int 0, .int 0, .int 0, .int (-1), .ref (z + 5), .ref (z + 6), .ref (z + 7), .ref (z + 8), .ref (z + 9), .ref (z + 10), .ref (z + 11), .ref (z + 12), .ref (z + 13), .ref (z + 14), .int 0, .ref (z + 15), .int (-1), .ref (z + 16), .ref (z + 17), .null, .null, .null, .long 0, .int 0, .long 0, .null, .int 0, .int 0])), (z + 0, .inl (E.tc 0, 4, zaN 0)), (z + 1, .inl (E.tc 0, 4, zaN 0)), (z + 2, .inl (E.tc 1, 240, zaN 1)), (z + 3, .inl (E.tc 1, 60, zaN 1)), (z + 4, .inl (E.tc 2, 1600, zaN 2)), (z + 5, .inl (E.tc 0, 6, zaN 0)), (z + 6, .inl (E.tc 0, 6, zaN 0)), (z + 7, .inl (E.tc 0, 24, zaN 0)), (z + 8, .inl (E.tc 0, 252, zaN 0)), (z + 9, .inl (E.tc 0, 84, zaN 0)), (z + 10, .inl (E.tc 3, 3, zaN 3)), (z + 11, .inl (E.tc 0, 14, zaN 0)), (z + 12, .inl (E.tc 0, 14, zaN 0)), (z + 13, .inl (E.tc 0, 16384, zaN 0)), (z + 14, .inl (E.tc 0, 16384, zaN 0)), (z + 15, .inl (E.tc 1, 16384, zaN 1)), (z + 16, .inl (E.tc 0, 16384, zaN 0)), (z + 17, .inl (E.tc 0, 16384, zaN 0)), (z + 18, .inl (E.tc 1, 1365, zaN 1))] H := ⟨hP, hD⟩
  clear hP hD
  refine n_put C hW.1 hW.2 hS 0 6 31 rfl (by decide) (by decide) rfl nf6_74 rfl rfl rfl (Nat.le_of_ble_eq_true rfl) d6_169 (fun H locs hP hD hS => ?_)
  replace hW : PD E (va_A [(h0, .inr (6, defN 6))] z) [(h0, .inr (6, [.int 0, .ref (z + 0), .ref (z + 1), .ref (z + 2), .ref (z + 3), .ref (z + 4), .int 0, .int 0, .int 0, .int 0, .int 0, .long 0, .int 0, .int 0, .int 0, .int (-1), .ref (z + 5), .ref (z + 6), .ref (z + 7), .ref (z + 8), .ref (z + 9), .ref (z + 10), .ref (z + 11), .ref (z + 12), .ref (z + 13), .ref (z + 14), .int 0, .ref (z + 15), .int (-1), .ref (z + 16), .ref (z + 17), .ref (z + 18), .null, .null, .long 0, .int 0, .long 0, .null, .int 0, .int 0])), (z + 0, .inl (E.tc 0, 4, zaN 0)), (z + 1, .inl (E.tc 0, 4, zaN 0)), (z + 2, .inl (E.tc 1, 240, zaN 1)), (z + 3, .inl (E.tc 1, 60, zaN 1)), (z + 4, .inl (E.tc 2, 1600, zaN 2)), (z + 5, .inl (E.tc 0, 6, zaN 0)), (z + 6, .inl (E.tc 0, 6, zaN 0)), (z + 7, .inl (E.tc 0, 24, zaN 0)), (z + 8, .inl (E.tc 0, 252, zaN 0)), (z + 9, .inl (E.tc 0, 84, zaN 0)), (z + 10, .inl (E.tc 3, 3, zaN 3)), (z + 11, .inl (E.tc 0, 14, zaN 0)), (z + 12, .inl (E.tc 0, 14, zaN 0)), (z + 13, .inl (E.tc 0, 16384, zaN 0)), (z + 14, .inl (E.tc 0, 16384, zaN 0)), (z + 15, .inl (E.tc 1, 16384, zaN 1)), (z + 16, .inl (E.tc 0, 16384, zaN 0)), (z + 17, .inl (E.tc 0, 16384, zaN 0)), (z + 18, .inl (E.tc 1, 1365, zaN 1))] H := ⟨hP, hD⟩
  clear hP hD
  refine lv_aload_n C.1 C.2.1 d6_172 rfl (V.atr rfl) ?_
  refine lv_sipush (v := 3015) C.1 C.2.1 d6_173 (by decide) ?_
  refine n_newa C hW.1 hW.2 hS 1 .long rfl rfl (fun _ h => h) (fun _ => rfl) na_long (by decide) (N' := 3015) (by decide) (by decide) (c' := 20) rfl (s' := 88611) rfl (Nat.le_of_ble_eq_true rfl) (Nat.le_of_ble_eq_true rfl) (Or.inr ⟨_, List.mem_of_getElem? (i := 19) rfl⟩) d6_176 (fun H hP hD hS => ?_)
  replace hW : PD E (va_A [(h0, .inr (6, defN 6))] z) [(h0, .inr (6, [.int 0, .ref (z + 0), .ref (z + 1), .ref (z + 2), .ref (z + 3), .ref (z + 4), .int 0, .int 0, .int 0, .int 0, .int 0, .long 0, .int 0, .int 0, .int 0, .int (-1), .ref (z + 5), .ref (z + 6), .ref (z + 7), .ref (z + 8), .ref (z + 9), .ref (z + 10), .ref (z + 11), .ref (z + 12), .ref (z + 13), .ref (z + 14), .int 0, .ref (z + 15), .int (-1), .ref (z + 16), .ref (z + 17), .ref (z + 18), .null, .null, .long 0, .int 0, .long 0, .null, .int 0, .int 0])), (z + 0, .inl (E.tc 0, 4, zaN 0)), (z + 1, .inl (E.tc 0, 4, zaN 0)), (z + 2, .inl (E.tc 1, 240, zaN 1)), (z + 3, .inl (E.tc 1, 60, zaN 1)), (z + 4, .inl (E.tc 2, 1600, zaN 2)), (z + 5, .inl (E.tc 0, 6, zaN 0)), (z + 6, .inl (E.tc 0, 6, zaN 0)), (z + 7, .inl (E.tc 0, 24, zaN 0)), (z + 8, .inl (E.tc 0, 252, zaN 0)), (z + 9, .inl (E.tc 0, 84, zaN 0)), (z + 10, .inl (E.tc 3, 3, zaN 3)), (z + 11, .inl (E.tc 0, 14, zaN 0)), (z + 12, .inl (E.tc 0, 14, zaN 0)), (z + 13, .inl (E.tc 0, 16384, zaN 0)), (z + 14, .inl (E.tc 0, 16384, zaN 0)), (z + 15, .inl (E.tc 1, 16384, zaN 1)), (z + 16, .inl (E.tc 0, 16384, zaN 0)), (z + 17, .inl (E.tc 0, 16384, zaN 0)), (z + 18, .inl (E.tc 1, 1365, zaN 1)), (z + 19, .inl (E.tc 1, 3015, zaN 1))] H := ⟨hP, hD⟩
  clear hP hD
  refine n_put C hW.1 hW.2 hS 0 6 32 rfl (by decide) (by decide) rfl nf6_77 rfl rfl rfl (Nat.le_of_ble_eq_true rfl) d6_178 (fun H locs hP hD hS => ?_)
  replace hW : PD E (va_A [(h0, .inr (6, defN 6))] z) [(h0, .inr (6, [.int 0, .ref (z + 0), .ref (z + 1), .ref (z + 2), .ref (z + 3), .ref (z + 4), .int 0, .int 0, .int 0, .int 0, .int 0, .long 0, .int 0, .int 0, .int 0, .int (-1), .ref (z + 5), .ref (z + 6), .ref (z + 7), .ref (z + 8), .ref (z + 9), .ref (z + 10), .ref (z + 11), .ref (z + 12), .ref (z + 13), .ref (z + 14), .int 0, .ref (z + 15), .int (-1), .ref (z + 16), .ref (z + 17), .ref (z + 18), .ref (z + 19), .null, .long 0, .int 0, .long 0, .null, .int 0, .int 0])), (z + 0, .inl (E.tc 0, 4, zaN 0)), (z + 1, .inl (E.tc 0, 4, zaN 0)), (z + 2, .inl (E.tc 1, 240, zaN 1)), (z + 3, .inl (E.tc 1, 60, zaN 1)), (z + 4, .inl (E.tc 2, 1600, zaN 2)), (z + 5, .inl (E.tc 0, 6, zaN 0)), (z + 6, .inl (E.tc 0, 6, zaN 0)), (z + 7, .inl (E.tc 0, 24, zaN 0)), (z + 8, .inl (E.tc 0, 252, zaN 0)), (z + 9, .inl (E.tc 0, 84, zaN 0)), (z + 10, .inl (E.tc 3, 3, zaN 3)), (z + 11, .inl (E.tc 0, 14, zaN 0)), (z + 12, .inl (E.tc 0, 14, zaN 0)), (z + 13, .inl (E.tc 0, 16384, zaN 0)), (z + 14, .inl (E.tc 0, 16384, zaN 0)), (z + 15, .inl (E.tc 1, 16384, zaN 1)), (z + 16, .inl (E.tc 0, 16384, zaN 0)), (z + 17, .inl (E.tc 0, 16384, zaN 0)), (z + 18, .inl (E.tc 1, 1365, zaN 1)), (z + 19, .inl (E.tc 1, 3015, zaN 1))] H := ⟨hP, hD⟩
  clear hP hD
  refine lv_aload_n C.1 C.2.1 d6_181 rfl (V.atr rfl) ?_
  refine lv_sipush (v := 3015) C.1 C.2.1 d6_182 (by decide) ?_
  refine n_newa C hW.1 hW.2 hS 0 .int rfl rfl (fun _ h => h) (fun _ => rfl) na_int (by decide) (N' := 3015) (by decide) (by decide) (c' := 21) rfl (s' := 91626) rfl (Nat.le_of_ble_eq_true rfl) (Nat.le_of_ble_eq_true rfl) (Or.inr ⟨_, List.mem_of_getElem? (i := 20) rfl⟩) d6_185 (fun H hP hD hS => ?_)
  replace hW : PD E (va_A [(h0, .inr (6, defN 6))] z) [(h0, .inr (6, [.int 0, .ref (z + 0), .ref (z + 1), .ref (z + 2), .ref (z + 3), .ref (z + 4), .int 0, .int 0, .int 0, .int 0, .int 0, .long 0, .int 0, .int 0, .int 0, .int (-1), .ref (z + 5), .ref (z + 6), .ref (z + 7), .ref (z + 8), .ref (z + 9), .ref (z + 10), .ref (z + 11), .ref (z + 12), .ref (z + 13), .ref (z + 14), .int 0, .ref (z + 15), .int (-1), .ref (z + 16), .ref (z + 17), .ref (z + 18), .ref (z + 19), .null, .long 0, .int 0, .long 0, .null, .int 0, .int 0])), (z + 0, .inl (E.tc 0, 4, zaN 0)), (z + 1, .inl (E.tc 0, 4, zaN 0)), (z + 2, .inl (E.tc 1, 240, zaN 1)), (z + 3, .inl (E.tc 1, 60, zaN 1)), (z + 4, .inl (E.tc 2, 1600, zaN 2)), (z + 5, .inl (E.tc 0, 6, zaN 0)), (z + 6, .inl (E.tc 0, 6, zaN 0)), (z + 7, .inl (E.tc 0, 24, zaN 0)), (z + 8, .inl (E.tc 0, 252, zaN 0)), (z + 9, .inl (E.tc 0, 84, zaN 0)), (z + 10, .inl (E.tc 3, 3, zaN 3)), (z + 11, .inl (E.tc 0, 14, zaN 0)), (z + 12, .inl (E.tc 0, 14, zaN 0)), (z + 13, .inl (E.tc 0, 16384, zaN 0)), (z + 14, .inl (E.tc 0, 16384, zaN 0)), (z + 15, .inl (E.tc 1, 16384, zaN 1)), (z + 16, .inl (E.tc 0, 16384, zaN 0)), (z + 17, .inl (E.tc 0, 16384, zaN 0)), (z + 18, .inl (E.tc 1, 1365, zaN 1)), (z + 19, .inl (E.tc 1, 3015, zaN 1)), (z + 20, .inl (E.tc 0, 3015, zaN 0))] H := ⟨hP, hD⟩
  clear hP hD
  refine n_put C hW.1 hW.2 hS 0 6 33 rfl (by decide) (by decide) rfl nf6_80 rfl rfl rfl (Nat.le_of_ble_eq_true rfl) d6_187 (fun H locs hP hD hS => ?_)
  replace hW : PD E (va_A [(h0, .inr (6, defN 6))] z) [(h0, .inr (6, [.int 0, .ref (z + 0), .ref (z + 1), .ref (z + 2), .ref (z + 3), .ref (z + 4), .int 0, .int 0, .int 0, .int 0, .int 0, .long 0, .int 0, .int 0, .int 0, .int (-1), .ref (z + 5), .ref (z + 6), .ref (z + 7), .ref (z + 8), .ref (z + 9), .ref (z + 10), .ref (z + 11), .ref (z + 12), .ref (z + 13), .ref (z + 14), .int 0, .ref (z + 15), .int (-1), .ref (z + 16), .ref (z + 17), .ref (z + 18), .ref (z + 19), .ref (z + 20), .long 0, .int 0, .long 0, .null, .int 0, .int 0])), (z + 0, .inl (E.tc 0, 4, zaN 0)), (z + 1, .inl (E.tc 0, 4, zaN 0)), (z + 2, .inl (E.tc 1, 240, zaN 1)), (z + 3, .inl (E.tc 1, 60, zaN 1)), (z + 4, .inl (E.tc 2, 1600, zaN 2)), (z + 5, .inl (E.tc 0, 6, zaN 0)), (z + 6, .inl (E.tc 0, 6, zaN 0)), (z + 7, .inl (E.tc 0, 24, zaN 0)), (z + 8, .inl (E.tc 0, 252, zaN 0)), (z + 9, .inl (E.tc 0, 84, zaN 0)), (z + 10, .inl (E.tc 3, 3, zaN 3)), (z + 11, .inl (E.tc 0, 14, zaN 0)), (z + 12, .inl (E.tc 0, 14, zaN 0)), (z + 13, .inl (E.tc 0, 16384, zaN 0)), (z + 14, .inl (E.tc 0, 16384, zaN 0)), (z + 15, .inl (E.tc 1, 16384, zaN 1)), (z + 16, .inl (E.tc 0, 16384, zaN 0)), (z + 17, .inl (E.tc 0, 16384, zaN 0)), (z + 18, .inl (E.tc 1, 1365, zaN 1)), (z + 19, .inl (E.tc 1, 3015, zaN 1)), (z + 20, .inl (E.tc 0, 3015, zaN 0))] H := ⟨hP, hD⟩
  clear hP hD
  refine lv_aload_n C.1 C.2.1 d6_190 rfl (V.atr rfl) ?_
  refine lv_sipush (v := 16384) C.1 C.2.1 d6_191 (by decide) ?_
  refine n_newa C hW.1 hW.2 hS 3 .boolean rfl rfl (fun _ h => h) (fun _ => rfl) na_boolean (by decide) (N' := 16384) (by decide) (by decide) (c' := 22) rfl (s' := 108010) rfl (Nat.le_of_ble_eq_true rfl) (Nat.le_of_ble_eq_true rfl) (Or.inr ⟨_, List.mem_of_getElem? (i := 21) rfl⟩) d6_194 (fun H hP hD hS => ?_)
  replace hW : PD E (va_A [(h0, .inr (6, defN 6))] z) [(h0, .inr (6, [.int 0, .ref (z + 0), .ref (z + 1), .ref (z + 2), .ref (z + 3), .ref (z + 4), .int 0, .int 0, .int 0, .int 0, .int 0, .long 0, .int 0, .int 0, .int 0, .int (-1), .ref (z + 5), .ref (z + 6), .ref (z + 7), .ref (z + 8), .ref (z + 9), .ref (z + 10), .ref (z + 11), .ref (z + 12), .ref (z + 13), .ref (z + 14), .int 0, .ref (z + 15), .int (-1), .ref (z + 16), .ref (z + 17), .ref (z + 18), .ref (z + 19), .ref (z + 20), .long 0, .int 0, .long 0, .null, .int 0, .int 0])), (z + 0, .inl (E.tc 0, 4, zaN 0)), (z + 1, .inl (E.tc 0, 4, zaN 0)), (z + 2, .inl (E.tc 1, 240, zaN 1)), (z + 3, .inl (E.tc 1, 60, zaN 1)), (z + 4, .inl (E.tc 2, 1600, zaN 2)), (z + 5, .inl (E.tc 0, 6, zaN 0)), (z + 6, .inl (E.tc 0, 6, zaN 0)), (z + 7, .inl (E.tc 0, 24, zaN 0)), (z + 8, .inl (E.tc 0, 252, zaN 0)), (z + 9, .inl (E.tc 0, 84, zaN 0)), (z + 10, .inl (E.tc 3, 3, zaN 3)), (z + 11, .inl (E.tc 0, 14, zaN 0)), (z + 12, .inl (E.tc 0, 14, zaN 0)), (z + 13, .inl (E.tc 0, 16384, zaN 0)), (z + 14, .inl (E.tc 0, 16384, zaN 0)), (z + 15, .inl (E.tc 1, 16384, zaN 1)), (z + 16, .inl (E.tc 0, 16384, zaN 0)), (z + 17, .inl (E.tc 0, 16384, zaN 0)), (z + 18, .inl (E.tc 1, 1365, zaN 1)), (z + 19, .inl (E.tc 1, 3015, zaN 1)), (z + 20, .inl (E.tc 0, 3015, zaN 0)), (z + 21, .inl (E.tc 3, 16384, zaN 3))] H := ⟨hP, hD⟩
  clear hP hD
  refine n_put C hW.1 hW.2 hS 0 6 37 rfl (by decide) (by decide) rfl nf6_83 rfl rfl rfl (Nat.le_of_ble_eq_true rfl) d6_196 (fun H locs hP hD hS => ?_)
  replace hW : PD E (va_A [(h0, .inr (6, defN 6))] z) [(h0, .inr (6, [.int 0, .ref (z + 0), .ref (z + 1), .ref (z + 2), .ref (z + 3), .ref (z + 4), .int 0, .int 0, .int 0, .int 0, .int 0, .long 0, .int 0, .int 0, .int 0, .int (-1), .ref (z + 5), .ref (z + 6), .ref (z + 7), .ref (z + 8), .ref (z + 9), .ref (z + 10), .ref (z + 11), .ref (z + 12), .ref (z + 13), .ref (z + 14), .int 0, .ref (z + 15), .int (-1), .ref (z + 16), .ref (z + 17), .ref (z + 18), .ref (z + 19), .ref (z + 20), .long 0, .int 0, .long 0, .ref (z + 21), .int 0, .int 0])), (z + 0, .inl (E.tc 0, 4, zaN 0)), (z + 1, .inl (E.tc 0, 4, zaN 0)), (z + 2, .inl (E.tc 1, 240, zaN 1)), (z + 3, .inl (E.tc 1, 60, zaN 1)), (z + 4, .inl (E.tc 2, 1600, zaN 2)), (z + 5, .inl (E.tc 0, 6, zaN 0)), (z + 6, .inl (E.tc 0, 6, zaN 0)), (z + 7, .inl (E.tc 0, 24, zaN 0)), (z + 8, .inl (E.tc 0, 252, zaN 0)), (z + 9, .inl (E.tc 0, 84, zaN 0)), (z + 10, .inl (E.tc 3, 3, zaN 3)), (z + 11, .inl (E.tc 0, 14, zaN 0)), (z + 12, .inl (E.tc 0, 14, zaN 0)), (z + 13, .inl (E.tc 0, 16384, zaN 0)), (z + 14, .inl (E.tc 0, 16384, zaN 0)), (z + 15, .inl (E.tc 1, 16384, zaN 1)), (z + 16, .inl (E.tc 0, 16384, zaN 0)), (z + 17, .inl (E.tc 0, 16384, zaN 0)), (z + 18, .inl (E.tc 1, 1365, zaN 1)), (z + 19, .inl (E.tc 1, 3015, zaN 1)), (z + 20, .inl (E.tc 0, 3015, zaN 0)), (z + 21, .inl (E.tc 3, 16384, zaN 3))] H := ⟨hP, hD⟩
  clear hP hD
  refine lv_iconst (v := 0) C.1 C.2.1 d6_199 (by decide) ?_
  refine lv_istore_n C.1 C.2.1 d6_200 rfl V.has (Nat.le_of_ble_eq_true rfl) rfl (fun ls hl => ?_)
  have V : LV idE 2 [.ref h0, .int 0] ls := LV.set1 (i := 1) (v := .int 0) rfl hl
  refine lv_iload_n C.1 C.2.1 d6_201 rfl (V.ati rfl) ?_
  refine lv_iconst (v := 4) C.1 C.2.1 d6_202 (by decide) ?_
  show W p l e _ s m args below meth c _ _ _ _ _ (F0 m 203 ls [.int 4, .int 0])
  refine lv_icmp_ge (tgt := 219) C.1 C.2.1 d6_203 (by decide) (fun h => absurd h (by decide)) (fun _ => ?_)
  refine lv_aload_n C.1 C.2.1 d6_206 rfl (V.atr rfl) ?_
  refine n_get C hW.1 0 6 1 (by decide) (by decide) nf6_7 rfl rfl d6_207 ?_
  refine lv_iload_n C.1 C.2.1 d6_210 rfl (V.ati rfl) ?_
  refine lv_iconst (v := (-1)) C.1 C.2.1 d6_211 (by decide) ?_
  refine n_iast (i := 0) (k := 0) C hW.1 hW.2 hS 1 rfl (by decide) (by decide) d6_212 (fun H locs hP hD hS => ?_)
  replace hW : PD E (va_A [(h0, .inr (6, defN 6))] z) [(h0, .inr (6, [.int 0, .ref (z + 0), .ref (z + 1), .ref (z + 2), .ref (z + 3), .ref (z + 4), .int 0, .int 0, .int 0, .int 0, .int 0, .long 0, .int 0, .int 0, .int 0, .int (-1), .ref (z + 5), .ref (z + 6), .ref (z + 7), .ref (z + 8), .ref (z + 9), .ref (z + 10), .ref (z + 11), .ref (z + 12), .ref (z + 13), .ref (z + 14), .int 0, .ref (z + 15), .int (-1), .ref (z + 16), .ref (z + 17), .ref (z + 18), .ref (z + 19), .ref (z + 20), .long 0, .int 0, .long 0, .ref (z + 21), .int 0, .int 0])), (z + 0, .inl (E.tc 0, 4, .inl (upd (fun _ => 0) 0 (-1)))), (z + 1, .inl (E.tc 0, 4, zaN 0)), (z + 2, .inl (E.tc 1, 240, zaN 1)), (z + 3, .inl (E.tc 1, 60, zaN 1)), (z + 4, .inl (E.tc 2, 1600, zaN 2)), (z + 5, .inl (E.tc 0, 6, zaN 0)), (z + 6, .inl (E.tc 0, 6, zaN 0)), (z + 7, .inl (E.tc 0, 24, zaN 0)), (z + 8, .inl (E.tc 0, 252, zaN 0)), (z + 9, .inl (E.tc 0, 84, zaN 0)), (z + 10, .inl (E.tc 3, 3, zaN 3)), (z + 11, .inl (E.tc 0, 14, zaN 0)), (z + 12, .inl (E.tc 0, 14, zaN 0)), (z + 13, .inl (E.tc 0, 16384, zaN 0)), (z + 14, .inl (E.tc 0, 16384, zaN 0)), (z + 15, .inl (E.tc 1, 16384, zaN 1)), (z + 16, .inl (E.tc 0, 16384, zaN 0)), (z + 17, .inl (E.tc 0, 16384, zaN 0)), (z + 18, .inl (E.tc 1, 1365, zaN 1)), (z + 19, .inl (E.tc 1, 3015, zaN 1)), (z + 20, .inl (E.tc 0, 3015, zaN 0)), (z + 21, .inl (E.tc 3, 16384, zaN 3))] H := ⟨hP, hD⟩
  clear hP hD
  refine n_iinc (v := 1) (L := [.ref h0, .int 0]) C V d6_213 (Nat.le_of_ble_eq_true rfl) rfl rfl (by decide) (fun ls V => ?_)
  have V : LV idE 2 [.ref h0, .int 1] ls := V
  show W p l e _ s m args below meth c _ _ _ _ _ (F0 m 216 ls [])
  refine lv_goto (tgt := 201) C.1 C.2.1 d6_216 (by decide) ?_
  refine lv_iload_n C.1 C.2.1 d6_201 rfl (V.ati rfl) ?_
  refine lv_iconst (v := 4) C.1 C.2.1 d6_202 (by decide) ?_
  show W p l e _ s m args below meth c _ _ _ _ _ (F0 m 203 ls [.int 4, .int 1])
  refine lv_icmp_ge (tgt := 219) C.1 C.2.1 d6_203 (by decide) (fun h => absurd h (by decide)) (fun _ => ?_)
  refine lv_aload_n C.1 C.2.1 d6_206 rfl (V.atr rfl) ?_
  refine n_get C hW.1 0 6 1 (by decide) (by decide) nf6_7 rfl rfl d6_207 ?_
  refine lv_iload_n C.1 C.2.1 d6_210 rfl (V.ati rfl) ?_
  refine lv_iconst (v := (-1)) C.1 C.2.1 d6_211 (by decide) ?_
  refine n_iast (i := 1) (k := 1) C hW.1 hW.2 hS 1 rfl (by decide) (by decide) d6_212 (fun H locs hP hD hS => ?_)
  replace hW : PD E (va_A [(h0, .inr (6, defN 6))] z) [(h0, .inr (6, [.int 0, .ref (z + 0), .ref (z + 1), .ref (z + 2), .ref (z + 3), .ref (z + 4), .int 0, .int 0, .int 0, .int 0, .int 0, .long 0, .int 0, .int 0, .int 0, .int (-1), .ref (z + 5), .ref (z + 6), .ref (z + 7), .ref (z + 8), .ref (z + 9), .ref (z + 10), .ref (z + 11), .ref (z + 12), .ref (z + 13), .ref (z + 14), .int 0, .ref (z + 15), .int (-1), .ref (z + 16), .ref (z + 17), .ref (z + 18), .ref (z + 19), .ref (z + 20), .long 0, .int 0, .long 0, .ref (z + 21), .int 0, .int 0])), (z + 0, .inl (E.tc 0, 4, .inl (upd (upd (fun _ => 0) 0 (-1)) 1 (-1)))), (z + 1, .inl (E.tc 0, 4, zaN 0)), (z + 2, .inl (E.tc 1, 240, zaN 1)), (z + 3, .inl (E.tc 1, 60, zaN 1)), (z + 4, .inl (E.tc 2, 1600, zaN 2)), (z + 5, .inl (E.tc 0, 6, zaN 0)), (z + 6, .inl (E.tc 0, 6, zaN 0)), (z + 7, .inl (E.tc 0, 24, zaN 0)), (z + 8, .inl (E.tc 0, 252, zaN 0)), (z + 9, .inl (E.tc 0, 84, zaN 0)), (z + 10, .inl (E.tc 3, 3, zaN 3)), (z + 11, .inl (E.tc 0, 14, zaN 0)), (z + 12, .inl (E.tc 0, 14, zaN 0)), (z + 13, .inl (E.tc 0, 16384, zaN 0)), (z + 14, .inl (E.tc 0, 16384, zaN 0)), (z + 15, .inl (E.tc 1, 16384, zaN 1)), (z + 16, .inl (E.tc 0, 16384, zaN 0)), (z + 17, .inl (E.tc 0, 16384, zaN 0)), (z + 18, .inl (E.tc 1, 1365, zaN 1)), (z + 19, .inl (E.tc 1, 3015, zaN 1)), (z + 20, .inl (E.tc 0, 3015, zaN 0)), (z + 21, .inl (E.tc 3, 16384, zaN 3))] H := ⟨hP, hD⟩
  clear hP hD
  refine n_iinc (v := 2) (L := [.ref h0, .int 1]) C V d6_213 (Nat.le_of_ble_eq_true rfl) rfl rfl (by decide) (fun ls V => ?_)
  have V : LV idE 2 [.ref h0, .int 2] ls := V
  show W p l e _ s m args below meth c _ _ _ _ _ (F0 m 216 ls [])
  refine lv_goto (tgt := 201) C.1 C.2.1 d6_216 (by decide) ?_
  refine lv_iload_n C.1 C.2.1 d6_201 rfl (V.ati rfl) ?_
  refine lv_iconst (v := 4) C.1 C.2.1 d6_202 (by decide) ?_
  show W p l e _ s m args below meth c _ _ _ _ _ (F0 m 203 ls [.int 4, .int 2])
  refine lv_icmp_ge (tgt := 219) C.1 C.2.1 d6_203 (by decide) (fun h => absurd h (by decide)) (fun _ => ?_)
  refine lv_aload_n C.1 C.2.1 d6_206 rfl (V.atr rfl) ?_
  refine n_get C hW.1 0 6 1 (by decide) (by decide) nf6_7 rfl rfl d6_207 ?_
  refine lv_iload_n C.1 C.2.1 d6_210 rfl (V.ati rfl) ?_
  refine lv_iconst (v := (-1)) C.1 C.2.1 d6_211 (by decide) ?_
  refine n_iast (i := 2) (k := 2) C hW.1 hW.2 hS 1 rfl (by decide) (by decide) d6_212 (fun H locs hP hD hS => ?_)
  replace hW : PD E (va_A [(h0, .inr (6, defN 6))] z) [(h0, .inr (6, [.int 0, .ref (z + 0), .ref (z + 1), .ref (z + 2), .ref (z + 3), .ref (z + 4), .int 0, .int 0, .int 0, .int 0, .int 0, .long 0, .int 0, .int 0, .int 0, .int (-1), .ref (z + 5), .ref (z + 6), .ref (z + 7), .ref (z + 8), .ref (z + 9), .ref (z + 10), .ref (z + 11), .ref (z + 12), .ref (z + 13), .ref (z + 14), .int 0, .ref (z + 15), .int (-1), .ref (z + 16), .ref (z + 17), .ref (z + 18), .ref (z + 19), .ref (z + 20), .long 0, .int 0, .long 0, .ref (z + 21), .int 0, .int 0])), (z + 0, .inl (E.tc 0, 4, .inl (upd (upd (upd (fun _ => 0) 0 (-1)) 1 (-1)) 2 (-1)))), (z + 1, .inl (E.tc 0, 4, zaN 0)), (z + 2, .inl (E.tc 1, 240, zaN 1)), (z + 3, .inl (E.tc 1, 60, zaN 1)), (z + 4, .inl (E.tc 2, 1600, zaN 2)), (z + 5, .inl (E.tc 0, 6, zaN 0)), (z + 6, .inl (E.tc 0, 6, zaN 0)), (z + 7, .inl (E.tc 0, 24, zaN 0)), (z + 8, .inl (E.tc 0, 252, zaN 0)), (z + 9, .inl (E.tc 0, 84, zaN 0)), (z + 10, .inl (E.tc 3, 3, zaN 3)), (z + 11, .inl (E.tc 0, 14, zaN 0)), (z + 12, .inl (E.tc 0, 14, zaN 0)), (z + 13, .inl (E.tc 0, 16384, zaN 0)), (z + 14, .inl (E.tc 0, 16384, zaN 0)), (z + 15, .inl (E.tc 1, 16384, zaN 1)), (z + 16, .inl (E.tc 0, 16384, zaN 0)), (z + 17, .inl (E.tc 0, 16384, zaN 0)), (z + 18, .inl (E.tc 1, 1365, zaN 1)), (z + 19, .inl (E.tc 1, 3015, zaN 1)), (z + 20, .inl (E.tc 0, 3015, zaN 0)), (z + 21, .inl (E.tc 3, 16384, zaN 3))] H := ⟨hP, hD⟩
  clear hP hD
  refine n_iinc (v := 3) (L := [.ref h0, .int 2]) C V d6_213 (Nat.le_of_ble_eq_true rfl) rfl rfl (by decide) (fun ls V => ?_)
  have V : LV idE 2 [.ref h0, .int 3] ls := V
  show W p l e _ s m args below meth c _ _ _ _ _ (F0 m 216 ls [])
  refine lv_goto (tgt := 201) C.1 C.2.1 d6_216 (by decide) ?_
  refine lv_iload_n C.1 C.2.1 d6_201 rfl (V.ati rfl) ?_
  refine lv_iconst (v := 4) C.1 C.2.1 d6_202 (by decide) ?_
  show W p l e _ s m args below meth c _ _ _ _ _ (F0 m 203 ls [.int 4, .int 3])
  refine lv_icmp_ge (tgt := 219) C.1 C.2.1 d6_203 (by decide) (fun h => absurd h (by decide)) (fun _ => ?_)
  refine lv_aload_n C.1 C.2.1 d6_206 rfl (V.atr rfl) ?_
  refine n_get C hW.1 0 6 1 (by decide) (by decide) nf6_7 rfl rfl d6_207 ?_
  refine lv_iload_n C.1 C.2.1 d6_210 rfl (V.ati rfl) ?_
  refine lv_iconst (v := (-1)) C.1 C.2.1 d6_211 (by decide) ?_
  refine n_iast (i := 3) (k := 3) C hW.1 hW.2 hS 1 rfl (by decide) (by decide) d6_212 (fun H locs hP hD hS => ?_)
  replace hW : PD E (va_A [(h0, .inr (6, defN 6))] z) [(h0, .inr (6, [.int 0, .ref (z + 0), .ref (z + 1), .ref (z + 2), .ref (z + 3), .ref (z + 4), .int 0, .int 0, .int 0, .int 0, .int 0, .long 0, .int 0, .int 0, .int 0, .int (-1), .ref (z + 5), .ref (z + 6), .ref (z + 7), .ref (z + 8), .ref (z + 9), .ref (z + 10), .ref (z + 11), .ref (z + 12), .ref (z + 13), .ref (z + 14), .int 0, .ref (z + 15), .int (-1), .ref (z + 16), .ref (z + 17), .ref (z + 18), .ref (z + 19), .ref (z + 20), .long 0, .int 0, .long 0, .ref (z + 21), .int 0, .int 0])), (z + 0, .inl (E.tc 0, 4, .inl (upd (upd (upd (upd (fun _ => 0) 0 (-1)) 1 (-1)) 2 (-1)) 3 (-1)))), (z + 1, .inl (E.tc 0, 4, zaN 0)), (z + 2, .inl (E.tc 1, 240, zaN 1)), (z + 3, .inl (E.tc 1, 60, zaN 1)), (z + 4, .inl (E.tc 2, 1600, zaN 2)), (z + 5, .inl (E.tc 0, 6, zaN 0)), (z + 6, .inl (E.tc 0, 6, zaN 0)), (z + 7, .inl (E.tc 0, 24, zaN 0)), (z + 8, .inl (E.tc 0, 252, zaN 0)), (z + 9, .inl (E.tc 0, 84, zaN 0)), (z + 10, .inl (E.tc 3, 3, zaN 3)), (z + 11, .inl (E.tc 0, 14, zaN 0)), (z + 12, .inl (E.tc 0, 14, zaN 0)), (z + 13, .inl (E.tc 0, 16384, zaN 0)), (z + 14, .inl (E.tc 0, 16384, zaN 0)), (z + 15, .inl (E.tc 1, 16384, zaN 1)), (z + 16, .inl (E.tc 0, 16384, zaN 0)), (z + 17, .inl (E.tc 0, 16384, zaN 0)), (z + 18, .inl (E.tc 1, 1365, zaN 1)), (z + 19, .inl (E.tc 1, 3015, zaN 1)), (z + 20, .inl (E.tc 0, 3015, zaN 0)), (z + 21, .inl (E.tc 3, 16384, zaN 3))] H := ⟨hP, hD⟩
  clear hP hD
  refine n_iinc (v := 4) (L := [.ref h0, .int 3]) C V d6_213 (Nat.le_of_ble_eq_true rfl) rfl rfl (by decide) (fun ls V => ?_)
  have V : LV idE 2 [.ref h0, .int 4] ls := V
  show W p l e _ s m args below meth c _ _ _ _ _ (F0 m 216 ls [])
  refine lv_goto (tgt := 201) C.1 C.2.1 d6_216 (by decide) ?_
  refine lv_iload_n C.1 C.2.1 d6_201 rfl (V.ati rfl) ?_
  refine lv_iconst (v := 4) C.1 C.2.1 d6_202 (by decide) ?_
  show W p l e _ s m args below meth c _ _ _ _ _ (F0 m 203 ls [.int 4, .int 4])
  refine lv_icmp_ge (tgt := 219) C.1 C.2.1 d6_203 (by decide) (fun _ => ?_) (fun h => absurd (by decide) h)
  exact W.vret C.1 C.2.1 C.2.2.1 (fun t ht _ => ⟨⟨rfl, by rw [ht]; exact hW.1, hW.2⟩, hS.F ht⟩) hS.2.2 d6_219 C.2.2.2.2.2.2.1
