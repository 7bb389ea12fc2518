theorem tt_0 : TT 0 = T_0 := rfl
theorem mx_0 : mxL 0 = 2 := rfl
theorem tt_1 : TT 1 = T_1 := rfl
theorem mx_1 : mxL 1 = 2 := rfl
theorem tt_2 : TT 2 = T_2 := rfl
theorem mx_2 : mxL 2 = 3 := rfl
theorem tt_3 : TT 3 = T_3 := rfl
theorem mx_3 : mxL 3 = 3 := rfl
theorem tt_4 : TT 4 = T_4 := rfl
theorem mx_4 : mxL 4 = 3 := rfl
theorem tt_5 : TT 5 = T_5 := rfl
theorem mx_5 : mxL 5 = 3 := rfl
theorem tt_6 : TT 6 = T_6 := rfl
theorem mx_6 : mxL 6 = 4 := rfl
theorem tt_7 : TT 7 = T_7 := rfl
theorem mx_7 : mxL 7 = 10 := rfl
theorem tt_8 : TT 8 = T_8 := rfl
theorem mx_8 : mxL 8 = 4 := rfl
theorem tt_9 : TT 9 = T_9 := rfl
theorem mx_9 : mxL 9 = 8 := rfl
theorem tt_10 : TT 10 = T_10 := rfl
theorem mx_10 : mxL 10 = 10 := rfl
theorem tt_11 : TT 11 = T_11 := rfl
theorem mx_11 : mxL 11 = 6 := rfl
theorem tt_12 : TT 12 = T_12 := rfl
theorem mx_12 : mxL 12 = 3 := rfl
theorem tt_13 : TT 13 = T_13 := rfl
theorem mx_13 : mxL 13 = 4 := rfl
theorem tt_14 : TT 14 = T_14 := rfl
theorem mx_14 : mxL 14 = 4 := rfl
theorem tt_15 : TT 15 = T_15 := rfl
theorem mx_15 : mxL 15 = 4 := rfl
theorem tt_16 : TT 16 = T_16 := rfl
theorem mx_16 : mxL 16 = 4 := rfl
theorem tt_17 : TT 17 = T_17 := rfl
theorem mx_17 : mxL 17 = 4 := rfl
theorem tt_18 : TT 18 = T_18 := rfl
theorem mx_18 : mxL 18 = 4 := rfl
theorem tt_19 : TT 19 = T_19 := rfl
theorem mx_19 : mxL 19 = 4 := rfl
theorem tt_20 : TT 20 = T_20 := rfl
theorem mx_20 : mxL 20 = 4 := rfl
theorem tt_21 : TT 21 = T_21 := rfl
theorem mx_21 : mxL 21 = 4 := rfl
theorem tt_22 : TT 22 = T_22 := rfl
theorem mx_22 : mxL 22 = 4 := rfl
theorem tt_23 : TT 23 = T_23 := rfl
theorem mx_23 : mxL 23 = 4 := rfl
theorem tt_24 : TT 24 = T_24 := rfl
theorem mx_24 : mxL 24 = 4 := rfl
theorem tt_25 : TT 25 = T_25 := rfl
theorem mx_25 : mxL 25 = 4 := rfl
theorem tt_26 : TT 26 = T_26 := rfl
theorem mx_26 : mxL 26 = 4 := rfl
theorem tt_27 : TT 27 = T_27 := rfl
theorem mx_27 : mxL 27 = 4 := rfl
theorem tt_28 : TT 28 = T_28 := rfl
theorem mx_28 : mxL 28 = 4 := rfl
theorem tt_29 : TT 29 = T_29 := rfl
theorem mx_29 : mxL 29 = 4 := rfl
theorem tt_30 : TT 30 = T_30 := rfl
theorem mx_30 : mxL 30 = 4 := rfl
theorem tt_31 : TT 31 = T_31 := rfl
theorem mx_31 : mxL 31 = 4 := rfl
theorem tt_32 : TT 32 = T_32 := rfl
theorem mx_32 : mxL 32 = 4 := rfl
theorem tt_33 : TT 33 = T_33 := rfl
theorem mx_33 : mxL 33 = 4 := rfl
theorem tt_34 : TT 34 = T_34 := rfl
theorem mx_34 : mxL 34 = 4 := rfl
theorem tt_35 : TT 35 = T_35 := rfl
theorem mx_35 : mxL 35 = 3 := rfl
theorem tt_36 : TT 36 = T_36 := rfl
theorem mx_36 : mxL 36 = 6 := rfl
theorem tt_37 : TT 37 = T_37 := rfl
theorem mx_37 : mxL 37 = 1 := rfl
theorem tt_38 : TT 38 = T_38 := rfl
theorem mx_38 : mxL 38 = 4 := rfl
theorem tt_39 : TT 39 = T_39 := rfl
theorem mx_39 : mxL 39 = 3 := rfl
theorem tt_40 : TT 40 = T_40 := rfl
theorem mx_40 : mxL 40 = 1 := rfl
theorem tt_41 : TT 41 = T_41 := rfl
theorem mx_41 : mxL 41 = 3 := rfl
theorem tt_42 : TT 42 = T_42 := rfl
theorem mx_42 : mxL 42 = 2 := rfl
theorem tt_43 : TT 43 = T_43 := rfl
theorem mx_43 : mxL 43 = 1 := rfl
theorem tt_44 : TT 44 = T_44 := rfl
theorem mx_44 : mxL 44 = 1 := rfl
theorem tt_45 : TT 45 = T_45 := rfl
theorem mx_45 : mxL 45 = 1 := rfl
theorem tt_46 : TT 46 = T_46 := rfl
theorem mx_46 : mxL 46 = 2 := rfl
theorem tt_47 : TT 47 = T_47 := rfl
theorem mx_47 : mxL 47 = 5 := rfl
theorem tt_48 : TT 48 = T_48 := rfl
theorem mx_48 : mxL 48 = 3 := rfl
theorem tt_49 : TT 49 = T_49 := rfl
theorem mx_49 : mxL 49 = 5 := rfl
theorem tt_50 : TT 50 = T_50 := rfl
theorem mx_50 : mxL 50 = 2 := rfl
theorem tt_51 : TT 51 = T_51 := rfl
theorem mx_51 : mxL 51 = 2 := rfl
theorem tt_52 : TT 52 = T_52 := rfl
theorem mx_52 : mxL 52 = 2 := rfl
theorem tt_53 : TT 53 = T_53 := rfl
theorem mx_53 : mxL 53 = 1 := rfl
theorem tt_54 : TT 54 = T_54 := rfl
theorem mx_54 : mxL 54 = 1 := rfl
theorem tt_55 : TT 55 = T_55 := rfl
theorem mx_55 : mxL 55 = 3 := rfl
theorem tt_56 : TT 56 = T_56 := rfl
theorem mx_56 : mxL 56 = 3 := rfl
theorem tt_57 : TT 57 = T_57 := rfl
theorem mx_57 : mxL 57 = 3 := rfl
theorem tt_58 : TT 58 = T_58 := rfl
theorem mx_58 : mxL 58 = 2 := rfl
theorem tt_59 : TT 59 = T_59 := rfl
theorem mx_59 : mxL 59 = 4 := rfl
theorem tt_60 : TT 60 = T_60 := rfl
theorem mx_60 : mxL 60 = 4 := rfl
theorem tt_61 : TT 61 = T_61 := rfl
theorem mx_61 : mxL 61 = 3 := rfl
theorem tt_62 : TT 62 = T_62 := rfl
theorem mx_62 : mxL 62 = 5 := rfl
theorem tt_63 : TT 63 = T_63 := rfl
theorem mx_63 : mxL 63 = 3 := rfl
theorem tt_64 : TT 64 = T_64 := rfl
theorem mx_64 : mxL 64 = 4 := rfl
theorem tt_65 : TT 65 = T_65 := rfl
theorem mx_65 : mxL 65 = 3 := rfl
theorem tt_66 : TT 66 = T_66 := rfl
theorem mx_66 : mxL 66 = 3 := rfl
theorem tt_67 : TT 67 = T_67 := rfl
theorem mx_67 : mxL 67 = 3 := rfl
theorem tt_68 : TT 68 = T_68 := rfl
theorem mx_68 : mxL 68 = 1 := rfl
theorem tt_69 : TT 69 = T_69 := rfl
theorem mx_69 : mxL 69 = 2 := rfl
theorem tt_70 : TT 70 = T_70 := rfl
theorem mx_70 : mxL 70 = 1 := rfl
theorem tt_71 : TT 71 = T_71 := rfl
theorem mx_71 : mxL 71 = 3 := rfl
theorem tt_72 : TT 72 = T_72 := rfl
theorem mx_72 : mxL 72 = 2 := rfl
theorem tt_73 : TT 73 = T_73 := rfl
theorem mx_73 : mxL 73 = 4 := rfl
theorem tt_74 : TT 74 = T_74 := rfl
theorem mx_74 : mxL 74 = 2 := rfl
theorem tt_75 : TT 75 = T_75 := rfl
theorem mx_75 : mxL 75 = 3 := rfl
theorem tt_76 : TT 76 = T_76 := rfl
theorem mx_76 : mxL 76 = 3 := rfl
theorem tt_77 : TT 77 = T_77 := rfl
theorem mx_77 : mxL 77 = 5 := rfl
theorem tt_78 : TT 78 = T_78 := rfl
theorem mx_78 : mxL 78 = 3 := rfl
theorem tt_79 : TT 79 = T_79 := rfl
theorem mx_79 : mxL 79 = 5 := rfl
theorem tt_80 : TT 80 = T_80 := rfl
theorem mx_80 : mxL 80 = 5 := rfl
theorem tt_81 : TT 81 = T_81 := rfl
theorem mx_81 : mxL 81 = 5 := rfl
theorem tt_82 : TT 82 = T_82 := rfl
theorem mx_82 : mxL 82 = 6 := rfl
theorem tt_83 : TT 83 = T_83 := rfl
theorem mx_83 : mxL 83 = 5 := rfl
theorem tt_84 : TT 84 = T_84 := rfl
theorem mx_84 : mxL 84 = 5 := rfl
theorem tt_85 : TT 85 = T_85 := rfl
theorem mx_85 : mxL 85 = 7 := rfl
theorem tt_86 : TT 86 = T_86 := rfl
theorem mx_86 : mxL 86 = 3 := rfl
theorem tt_87 : TT 87 = T_87 := rfl
theorem mx_87 : mxL 87 = 4 := rfl
theorem tt_88 : TT 88 = T_88 := rfl
theorem mx_88 : mxL 88 = 7 := rfl
theorem tt_89 : TT 89 = T_89 := rfl
theorem mx_89 : mxL 89 = 3 := rfl
theorem tt_90 : TT 90 = T_90 := rfl
theorem mx_90 : mxL 90 = 6 := rfl
theorem tt_91 : TT 91 = T_91 := rfl
theorem mx_91 : mxL 91 = 2 := rfl
theorem tt_92 : TT 92 = T_92 := rfl
theorem mx_92 : mxL 92 = 2 := rfl
theorem tt_93 : TT 93 = T_93 := rfl
theorem mx_93 : mxL 93 = 2 := rfl
theorem tt_94 : TT 94 = T_94 := rfl
theorem mx_94 : mxL 94 = 2 := rfl
theorem tt_95 : TT 95 = T_95 := rfl
theorem mx_95 : mxL 95 = 4 := rfl
theorem tt_96 : TT 96 = T_96 := rfl
theorem mx_96 : mxL 96 = 4 := rfl
theorem tt_97 : TT 97 = T_97 := rfl
theorem mx_97 : mxL 97 = 3 := rfl
theorem tt_98 : TT 98 = T_98 := rfl
theorem mx_98 : mxL 98 = 3 := rfl
theorem tt_99 : TT 99 = T_99 := rfl
theorem mx_99 : mxL 99 = 6 := rfl
theorem tt_100 : TT 100 = T_100 := rfl
theorem mx_100 : mxL 100 = 3 := rfl
theorem tt_101 : TT 101 = T_101 := rfl
theorem mx_101 : mxL 101 = 2 := rfl
theorem tt_102 : TT 102 = T_102 := rfl
theorem mx_102 : mxL 102 = 2 := rfl
theorem tt_103 : TT 103 = T_103 := rfl
theorem mx_103 : mxL 103 = 2 := rfl
theorem tt_104 : TT 104 = T_104 := rfl
theorem mx_104 : mxL 104 = 1 := rfl
theorem tt_105 : TT 105 = T_105 := rfl
theorem mx_105 : mxL 105 = 2 := rfl
theorem tt_106 : TT 106 = T_106 := rfl
theorem mx_106 : mxL 106 = 2 := rfl
theorem tt_107 : TT 107 = T_107 := rfl
theorem mx_107 : mxL 107 = 2 := rfl
theorem tt_108 : TT 108 = T_108 := rfl
theorem mx_108 : mxL 108 = 3 := rfl
theorem tt_109 : TT 109 = T_109 := rfl
theorem mx_109 : mxL 109 = 3 := rfl
theorem tt_110 : TT 110 = T_110 := rfl
theorem mx_110 : mxL 110 = 2 := rfl
theorem tt_111 : TT 111 = T_111 := rfl
theorem mx_111 : mxL 111 = 2 := rfl
theorem tt_112 : TT 112 = T_112 := rfl
theorem mx_112 : mxL 112 = 2 := rfl
theorem tt_113 : TT 113 = T_113 := rfl
theorem mx_113 : mxL 113 = 2 := rfl
theorem tt_114 : TT 114 = T_114 := rfl
theorem mx_114 : mxL 114 = 2 := rfl
theorem tt_115 : TT 115 = T_115 := rfl
theorem mx_115 : mxL 115 = 2 := rfl
theorem tt_116 : TT 116 = T_116 := rfl
theorem mx_116 : mxL 116 = 2 := rfl
theorem tt_117 : TT 117 = T_117 := rfl
theorem mx_117 : mxL 117 = 4 := rfl
theorem tt_118 : TT 118 = T_118 := rfl
theorem mx_118 : mxL 118 = 2 := rfl
theorem tt_119 : TT 119 = T_119 := rfl
theorem mx_119 : mxL 119 = 2 := rfl
theorem tt_120 : TT 120 = T_120 := rfl
theorem mx_120 : mxL 120 = 2 := rfl
theorem tt_121 : TT 121 = T_121 := rfl
theorem mx_121 : mxL 121 = 2 := rfl
theorem tt_122 : TT 122 = T_122 := rfl
theorem mx_122 : mxL 122 = 2 := rfl
theorem tt_123 : TT 123 = T_123 := rfl
theorem mx_123 : mxL 123 = 3 := rfl
theorem tt_124 : TT 124 = T_124 := rfl
theorem mx_124 : mxL 124 = 3 := rfl
theorem tt_125 : TT 125 = T_125 := rfl
theorem mx_125 : mxL 125 = 5 := rfl
theorem tt_126 : TT 126 = T_126 := rfl
theorem mx_126 : mxL 126 = 2 := rfl
theorem tt_127 : TT 127 = T_127 := rfl
theorem mx_127 : mxL 127 = 4 := rfl
theorem tt_128 : TT 128 = T_128 := rfl
theorem mx_128 : mxL 128 = 3 := rfl
theorem tt_129 : TT 129 = T_129 := rfl
theorem mx_129 : mxL 129 = 4 := rfl
theorem tt_130 : TT 130 = T_130 := rfl
theorem mx_130 : mxL 130 = 6 := rfl
theorem tt_131 : TT 131 = T_131 := rfl
theorem mx_131 : mxL 131 = 4 := rfl
theorem tt_132 : TT 132 = T_132 := rfl
theorem mx_132 : mxL 132 = 4 := rfl
theorem tt_133 : TT 133 = T_133 := rfl
theorem mx_133 : mxL 133 = 4 := rfl
theorem tt_134 : TT 134 = T_134 := rfl
theorem mx_134 : mxL 134 = 6 := rfl
theorem tt_135 : TT 135 = T_135 := rfl
theorem mx_135 : mxL 135 = 4 := rfl
theorem tt_136 : TT 136 = T_136 := rfl
theorem mx_136 : mxL 136 = 2 := rfl
theorem tt_137 : TT 137 = T_137 := rfl
theorem mx_137 : mxL 137 = 2 := rfl
theorem tt_138 : TT 138 = T_138 := rfl
theorem mx_138 : mxL 138 = 2 := rfl
theorem tt_139 : TT 139 = T_139 := rfl
theorem mx_139 : mxL 139 = 4 := rfl
theorem tt_140 : TT 140 = T_140 := rfl
theorem mx_140 : mxL 140 = 3 := rfl
theorem tt_141 : TT 141 = T_141 := rfl
theorem mx_141 : mxL 141 = 4 := rfl
theorem tt_142 : TT 142 = T_142 := rfl
theorem mx_142 : mxL 142 = 6 := rfl
theorem tt_143 : TT 143 = T_143 := rfl
theorem mx_143 : mxL 143 = 7 := rfl
theorem tt_144 : TT 144 = T_144 := rfl
theorem mx_144 : mxL 144 = 6 := rfl
theorem tt_145 : TT 145 = T_145 := rfl
theorem mx_145 : mxL 145 = 3 := rfl
theorem tt_146 : TT 146 = T_146 := rfl
theorem mx_146 : mxL 146 = 5 := rfl
theorem tt_147 : TT 147 = T_147 := rfl
theorem mx_147 : mxL 147 = 4 := rfl
theorem tt_148 : TT 148 = T_148 := rfl
theorem mx_148 : mxL 148 = 3 := rfl
theorem tt_149 : TT 149 = T_149 := rfl
theorem mx_149 : mxL 149 = 7 := rfl
theorem tt_150 : TT 150 = T_150 := rfl
theorem mx_150 : mxL 150 = 7 := rfl
theorem tt_151 : TT 151 = T_151 := rfl
theorem mx_151 : mxL 151 = 3 := rfl
theorem tt_152 : TT 152 = T_152 := rfl
theorem mx_152 : mxL 152 = 3 := rfl
theorem tt_153 : TT 153 = T_153 := rfl
theorem mx_153 : mxL 153 = 2 := rfl
theorem tt_154 : TT 154 = T_154 := rfl
theorem mx_154 : mxL 154 = 3 := rfl
theorem tt_155 : TT 155 = T_155 := rfl
theorem mx_155 : mxL 155 = 3 := rfl
theorem tt_156 : TT 156 = T_156 := rfl
theorem mx_156 : mxL 156 = 2 := rfl
theorem tt_157 : TT 157 = T_157 := rfl
theorem mx_157 : mxL 157 = 3 := rfl
theorem tt_158 : TT 158 = T_158 := rfl
theorem mx_158 : mxL 158 = 3 := rfl
theorem tt_159 : TT 159 = T_159 := rfl
theorem mx_159 : mxL 159 = 3 := rfl
theorem tt_160 : TT 160 = T_160 := rfl
theorem mx_160 : mxL 160 = 3 := rfl
theorem tt_161 : TT 161 = T_161 := rfl
theorem mx_161 : mxL 161 = 3 := rfl
theorem tt_162 : TT 162 = T_162 := rfl
theorem mx_162 : mxL 162 = 10 := rfl
theorem tt_163 : TT 163 = T_163 := rfl
theorem mx_163 : mxL 163 = 4 := rfl
theorem tt_164 : TT 164 = T_164 := rfl
theorem mx_164 : mxL 164 = 2 := rfl
theorem tt_165 : TT 165 = T_165 := rfl
theorem mx_165 : mxL 165 = 2 := rfl
theorem tt_166 : TT 166 = T_166 := rfl
theorem mx_166 : mxL 166 = 2 := rfl
theorem tt_167 : TT 167 = T_167 := rfl
theorem mx_167 : mxL 167 = 4 := rfl
theorem tt_168 : TT 168 = T_168 := rfl
theorem mx_168 : mxL 168 = 5 := rfl
theorem tt_169 : TT 169 = T_169 := rfl
theorem mx_169 : mxL 169 = 6 := rfl
theorem tt_170 : TT 170 = T_170 := rfl
theorem mx_170 : mxL 170 = 6 := rfl
theorem tt_171 : TT 171 = T_171 := rfl
theorem mx_171 : mxL 171 = 1 := rfl
theorem tt_172 : TT 172 = T_172 := rfl
theorem mx_172 : mxL 172 = 5 := rfl
theorem tt_173 : TT 173 = T_173 := rfl
theorem mx_173 : mxL 173 = 3 := rfl
theorem tt_174 : TT 174 = T_174 := rfl
theorem mx_174 : mxL 174 = 5 := rfl
theorem tt_175 : TT 175 = T_175 := rfl
theorem mx_175 : mxL 175 = 7 := rfl
theorem tt_176 : TT 176 = T_176 := rfl
theorem mx_176 : mxL 176 = 6 := rfl
theorem tt_177 : TT 177 = T_177 := rfl
theorem mx_177 : mxL 177 = 3 := rfl
theorem tt_178 : TT 178 = T_178 := rfl
theorem mx_178 : mxL 178 = 2 := rfl
theorem tt_179 : TT 179 = T_179 := rfl
theorem mx_179 : mxL 179 = 4 := rfl
theorem tt_180 : TT 180 = T_180 := rfl
theorem mx_180 : mxL 180 = 2 := rfl
theorem tt_181 : TT 181 = T_181 := rfl
theorem mx_181 : mxL 181 = 1 := rfl
theorem tt_182 : TT 182 = T_182 := rfl
theorem mx_182 : mxL 182 = 2 := rfl
theorem tt_183 : TT 183 = T_183 := rfl
theorem mx_183 : mxL 183 = 3 := rfl
theorem tt_184 : TT 184 = T_184 := rfl
theorem mx_184 : mxL 184 = 3 := rfl
theorem tt_185 : TT 185 = T_185 := rfl
theorem mx_185 : mxL 185 = 3 := rfl
theorem tt_186 : TT 186 = T_186 := rfl
theorem mx_186 : mxL 186 = 4 := rfl
theorem tt_187 : TT 187 = T_187 := rfl
theorem mx_187 : mxL 187 = 5 := rfl
theorem tt_188 : TT 188 = T_188 := rfl
theorem mx_188 : mxL 188 = 1 := rfl
theorem tt_189 : TT 189 = T_189 := rfl
theorem mx_189 : mxL 189 = 1 := rfl
theorem tt_190 : TT 190 = T_190 := rfl
theorem mx_190 : mxL 190 = 1 := rfl
theorem tt_191 : TT 191 = T_191 := rfl
theorem mx_191 : mxL 191 = 2 := rfl
theorem tt_192 : TT 192 = T_192 := rfl
theorem mx_192 : mxL 192 = 3 := rfl
theorem tt_193 : TT 193 = T_193 := rfl
theorem mx_193 : mxL 193 = 2 := rfl
theorem tt_194 : TT 194 = T_194 := rfl
theorem mx_194 : mxL 194 = 1 := rfl
theorem tt_195 : TT 195 = T_195 := rfl
theorem mx_195 : mxL 195 = 5 := rfl
theorem tt_196 : TT 196 = T_196 := rfl
theorem mx_196 : mxL 196 = 3 := rfl
theorem tt_197 : TT 197 = T_197 := rfl
theorem mx_197 : mxL 197 = 1 := rfl
theorem tt_198 : TT 198 = T_198 := rfl
theorem mx_198 : mxL 198 = 2 := rfl
theorem tt_199 : TT 199 = T_199 := rfl
theorem mx_199 : mxL 199 = 2 := rfl
theorem tt_200 : TT 200 = T_200 := rfl
theorem mx_200 : mxL 200 = 3 := rfl
theorem tt_201 : TT 201 = T_201 := rfl
theorem mx_201 : mxL 201 = 2 := rfl
theorem tt_202 : TT 202 = T_202 := rfl
theorem mx_202 : mxL 202 = 2 := rfl
theorem tt_203 : TT 203 = T_203 := rfl
theorem mx_203 : mxL 203 = 4 := rfl
theorem tt_204 : TT 204 = T_204 := rfl
theorem mx_204 : mxL 204 = 4 := rfl
theorem tt_205 : TT 205 = T_205 := rfl
theorem mx_205 : mxL 205 = 2 := rfl
theorem tt_206 : TT 206 = T_206 := rfl
theorem mx_206 : mxL 206 = 5 := rfl
theorem tt_207 : TT 207 = T_207 := rfl
theorem mx_207 : mxL 207 = 6 := rfl
theorem tt_208 : TT 208 = T_208 := rfl
theorem mx_208 : mxL 208 = 6 := rfl
theorem tt_209 : TT 209 = T_209 := rfl
theorem mx_209 : mxL 209 = 2 := rfl
theorem tt_210 : TT 210 = T_210 := rfl
theorem mx_210 : mxL 210 = 2 := rfl
theorem tt_211 : TT 211 = T_211 := rfl
theorem mx_211 : mxL 211 = 3 := rfl
theorem tt_212 : TT 212 = T_212 := rfl
theorem mx_212 : mxL 212 = 3 := rfl
theorem tt_213 : TT 213 = T_213 := rfl
theorem mx_213 : mxL 213 = 2 := rfl
theorem tt_214 : TT 214 = T_214 := rfl
theorem mx_214 : mxL 214 = 2 := rfl
theorem tt_215 : TT 215 = T_215 := rfl
theorem mx_215 : mxL 215 = 3 := rfl
theorem tt_216 : TT 216 = T_216 := rfl
theorem mx_216 : mxL 216 = 5 := rfl
theorem tt_217 : TT 217 = T_217 := rfl
theorem mx_217 : mxL 217 = 2 := rfl
theorem tt_218 : TT 218 = T_218 := rfl
theorem mx_218 : mxL 218 = 2 := rfl
theorem tt_219 : TT 219 = T_219 := rfl
theorem mx_219 : mxL 219 = 3 := rfl
theorem tt_220 : TT 220 = T_220 := rfl
theorem mx_220 : mxL 220 = 3 := rfl
theorem tt_221 : TT 221 = T_221 := rfl
theorem mx_221 : mxL 221 = 3 := rfl
theorem tt_222 : TT 222 = T_222 := rfl
theorem mx_222 : mxL 222 = 2 := rfl
theorem tt_223 : TT 223 = T_223 := rfl
theorem mx_223 : mxL 223 = 3 := rfl
theorem tt_224 : TT 224 = T_224 := rfl
theorem mx_224 : mxL 224 = 2 := rfl
theorem tt_225 : TT 225 = T_225 := rfl
theorem mx_225 : mxL 225 = 4 := rfl
theorem tt_226 : TT 226 = T_226 := rfl
theorem mx_226 : mxL 226 = 2 := rfl
theorem tt_227 : TT 227 = T_227 := rfl
theorem mx_227 : mxL 227 = 5 := rfl
theorem tt_228 : TT 228 = T_228 := rfl
theorem mx_228 : mxL 228 = 4 := rfl
theorem tt_229 : TT 229 = T_229 := rfl
theorem mx_229 : mxL 229 = 2 := rfl
theorem tt_230 : TT 230 = T_230 := rfl
theorem mx_230 : mxL 230 = 2 := rfl
theorem tt_231 : TT 231 = T_231 := rfl
theorem mx_231 : mxL 231 = 2 := rfl
theorem tt_232 : TT 232 = T_232 := rfl
theorem mx_232 : mxL 232 = 2 := rfl
theorem tt_233 : TT 233 = T_233 := rfl
theorem mx_233 : mxL 233 = 4 := rfl
theorem tt_234 : TT 234 = T_234 := rfl
theorem mx_234 : mxL 234 = 3 := rfl
theorem tt_235 : TT 235 = T_235 := rfl
theorem mx_235 : mxL 235 = 2 := rfl
theorem tt_236 : TT 236 = T_236 := rfl
theorem mx_236 : mxL 236 = 3 := rfl
theorem tt_237 : TT 237 = T_237 := rfl
theorem mx_237 : mxL 237 = 3 := rfl
theorem tt_238 : TT 238 = T_238 := rfl
theorem mx_238 : mxL 238 = 4 := rfl
theorem tt_239 : TT 239 = T_239 := rfl
theorem mx_239 : mxL 239 = 2 := rfl
theorem tt_240 : TT 240 = T_240 := rfl
theorem mx_240 : mxL 240 = 3 := rfl
theorem tt_241 : TT 241 = T_241 := rfl
theorem mx_241 : mxL 241 = 6 := rfl
theorem tt_242 : TT 242 = T_242 := rfl
theorem mx_242 : mxL 242 = 6 := rfl
theorem tt_243 : TT 243 = T_243 := rfl
theorem mx_243 : mxL 243 = 4 := rfl
theorem tt_244 : TT 244 = T_244 := rfl
theorem mx_244 : mxL 244 = 2 := rfl
theorem tt_245 : TT 245 = T_245 := rfl
theorem mx_245 : mxL 245 = 5 := rfl
theorem tt_246 : TT 246 = T_246 := rfl
theorem mx_246 : mxL 246 = 3 := rfl
theorem tt_247 : TT 247 = T_247 := rfl
theorem mx_247 : mxL 247 = 1 := rfl
theorem tt_248 : TT 248 = T_248 := rfl
theorem mx_248 : mxL 248 = 4 := rfl
theorem tt_249 : TT 249 = T_249 := rfl
theorem mx_249 : mxL 249 = 4 := rfl
theorem tt_250 : TT 250 = T_250 := rfl
theorem mx_250 : mxL 250 = 4 := rfl
theorem tt_251 : TT 251 = T_251 := rfl
theorem mx_251 : mxL 251 = 4 := rfl
theorem tt_252 : TT 252 = T_252 := rfl
theorem mx_252 : mxL 252 = 2 := rfl
theorem tt_253 : TT 253 = T_253 := rfl
theorem mx_253 : mxL 253 = 4 := rfl
theorem tt_254 : TT 254 = T_254 := rfl
theorem mx_254 : mxL 254 = 5 := rfl
theorem tt_255 : TT 255 = T_255 := rfl
theorem mx_255 : mxL 255 = 5 := rfl
theorem tt_256 : TT 256 = T_256 := rfl
theorem mx_256 : mxL 256 = 3 := rfl
theorem tt_257 : TT 257 = T_257 := rfl
theorem mx_257 : mxL 257 = 4 := rfl
theorem tt_258 : TT 258 = T_258 := rfl
theorem mx_258 : mxL 258 = 6 := rfl
theorem tt_259 : TT 259 = T_259 := rfl
theorem mx_259 : mxL 259 = 3 := rfl
theorem tt_260 : TT 260 = T_260 := rfl
theorem mx_260 : mxL 260 = 5 := rfl
theorem tt_261 : TT 261 = T_261 := rfl
theorem mx_261 : mxL 261 = 7 := rfl
theorem tt_262 : TT 262 = T_262 := rfl
theorem mx_262 : mxL 262 = 8 := rfl
theorem tt_263 : TT 263 = T_263 := rfl
theorem mx_263 : mxL 263 = 4 := rfl
theorem tt_264 : TT 264 = T_264 := rfl
theorem mx_264 : mxL 264 = 5 := rfl
theorem tt_265 : TT 265 = T_265 := rfl
theorem mx_265 : mxL 265 = 4 := rfl
theorem tt_266 : TT 266 = T_266 := rfl
theorem mx_266 : mxL 266 = 7 := rfl
theorem tt_267 : TT 267 = T_267 := rfl
theorem mx_267 : mxL 267 = 5 := rfl
theorem tt_268 : TT 268 = T_268 := rfl
theorem mx_268 : mxL 268 = 5 := rfl
theorem tt_269 : TT 269 = T_269 := rfl
theorem mx_269 : mxL 269 = 4 := rfl
theorem tt_270 : TT 270 = T_270 := rfl
theorem mx_270 : mxL 270 = 6 := rfl
theorem tt_271 : TT 271 = T_271 := rfl
theorem mx_271 : mxL 271 = 7 := rfl
theorem tt_272 : TT 272 = T_272 := rfl
theorem mx_272 : mxL 272 = 6 := rfl
theorem tt_273 : TT 273 = T_273 := rfl
theorem mx_273 : mxL 273 = 10 := rfl
theorem tt_274 : TT 274 = T_274 := rfl
theorem mx_274 : mxL 274 = 3 := rfl
theorem tt_275 : TT 275 = T_275 := rfl
theorem mx_275 : mxL 275 = 3 := rfl
theorem tt_276 : TT 276 = T_276 := rfl
theorem mx_276 : mxL 276 = 12 := rfl
theorem tt_277 : TT 277 = T_277 := rfl
theorem mx_277 : mxL 277 = 1 := rfl
theorem tt_278 : TT 278 = T_278 := rfl
theorem mx_278 : mxL 278 = 3 := rfl
theorem tt_279 : TT 279 = T_279 := rfl
theorem mx_279 : mxL 279 = 3 := rfl
theorem tt_280 : TT 280 = T_280 := rfl
theorem mx_280 : mxL 280 = 3 := rfl
theorem tt_281 : TT 281 = T_281 := rfl
theorem mx_281 : mxL 281 = 3 := rfl
theorem tt_282 : TT 282 = T_282 := rfl
theorem mx_282 : mxL 282 = 4 := rfl
theorem tt_283 : TT 283 = T_283 := rfl
theorem mx_283 : mxL 283 = 9 := rfl
theorem tt_284 : TT 284 = T_284 := rfl
theorem mx_284 : mxL 284 = 2 := rfl
theorem tt_285 : TT 285 = T_285 := rfl
theorem mx_285 : mxL 285 = 3 := rfl
theorem tt_286 : TT 286 = T_286 := rfl
theorem mx_286 : mxL 286 = 3 := rfl
theorem tt_287 : TT 287 = T_287 := rfl
theorem mx_287 : mxL 287 = 2 := rfl
theorem tt_288 : TT 288 = T_288 := rfl
theorem mx_288 : mxL 288 = 5 := rfl
theorem tt_289 : TT 289 = T_289 := rfl
theorem mx_289 : mxL 289 = 4 := rfl
theorem tt_290 : TT 290 = T_290 := rfl
theorem mx_290 : mxL 290 = 3 := rfl
theorem tt_291 : TT 291 = T_291 := rfl
theorem mx_291 : mxL 291 = 3 := rfl
theorem tt_292 : TT 292 = T_292 := rfl
theorem mx_292 : mxL 292 = 3 := rfl
theorem tt_293 : TT 293 = T_293 := rfl
theorem mx_293 : mxL 293 = 5 := rfl
theorem tt_294 : TT 294 = T_294 := rfl
theorem mx_294 : mxL 294 = 2 := rfl
theorem tt_295 : TT 295 = T_295 := rfl
theorem mx_295 : mxL 295 = 2 := rfl
theorem tt_296 : TT 296 = T_296 := rfl
theorem mx_296 : mxL 296 = 1 := rfl
theorem tt_297 : TT 297 = T_297 := rfl
theorem mx_297 : mxL 297 = 3 := rfl
theorem tt_298 : TT 298 = T_298 := rfl
theorem mx_298 : mxL 298 = 5 := rfl
theorem tt_299 : TT 299 = T_299 := rfl
theorem mx_299 : mxL 299 = 4 := rfl
theorem tt_300 : TT 300 = T_300 := rfl
theorem mx_300 : mxL 300 = 5 := rfl
/-! ===== numbers ===== -/
theorem n_and (a b : Nat) : nI a &&& nI b = nI (a &&& b) := by
  apply Int32.toBitVec_inj.1
  show BitVec.ofNat 32 a &&& BitVec.ofNat 32 b = BitVec.ofNat 32 (a &&& b)
  apply BitVec.eq_of_getLsbD_eq
  intro i hi
  simp [hi]
theorem n_or (a b : Nat) : nI a ||| nI b = nI (a ||| b) := by
  apply Int32.toBitVec_inj.1
  show BitVec.ofNat 32 a ||| BitVec.ofNat 32 b = BitVec.ofNat 32 (a ||| b)
  apply BitVec.eq_of_getLsbD_eq
  intro i hi
  simp [hi]
theorem n_xor (a b : Nat) : nI a ^^^ nI b = nI (a ^^^ b) := by
  apply Int32.toBitVec_inj.1
  show BitVec.ofNat 32 a ^^^ BitVec.ofNat 32 b = BitVec.ofNat 32 (a ^^^ b)
  apply BitVec.eq_of_getLsbD_eq
  intro i hi
  simp [hi]
theorem n_sl : ∀ n, n < 32 → ((nI n &&& 31).toBitVec.smod 32).toNat = n := by decide +kernel
theorem n_su : ∀ n, n < 32 → (((nI n).toUInt32 &&& Int32.toUInt32 31).toBitVec % 32).toNat = n := by decide +kernel
theorem n_shl {a b : Nat} (hb : b < 32) (h : a * 2 ^ b < 2 ^ 32) : shlI (nI a) (nI b) = nI (a * 2 ^ b) := pk_shlN _ b (n_sl b hb) h
theorem n_one {b : Nat} (hb : b < 31) : shlI (nI 1) (nI b) = nI (2 ^ b) := by
  have : 2 ^ b < 2 ^ 31 := Nat.pow_lt_pow_right (by decide) hb
  rw [n_shl (by omega) (by omega), Nat.one_mul]
theorem n_ush {a b : Nat} (ha : a < 2 ^ 32) (hb : b < 32) : ushI (nI a) (nI b) = nI (a / 2 ^ b) := pk_ushrN ha _ b (n_su b hb)
theorem n_shr {a b : Nat} (ha : a < 2 ^ 31) (hb : b < 32) : shrI (nI a) (nI b) = nI (a / 2 ^ b) := pk_shrN ha _ b (n_sl b hb)
theorem n_div {a b : Nat} (ha : a < 2 ^ 31) (h0 : 0 < b) (hb : b < 2 ^ 31) : divI (nI a) (nI b) = nI (a / b) := pk_div ha h0 hb
theorem n_rem {a b : Nat} (ha : a < 2 ^ 31) (h0 : 0 < b) (hb : b < 2 ^ 31) : remI (nI a) (nI b) = nI (a % b) := pk_rem ha h0 hb
theorem iX_n {a : Nat} (h : a < 2 ^ 31) : iX (nI a) = a := nI_clamp h
theorem inB_n {a n : Nat} (h : a < 2 ^ 31) : inB (nI a) n = decide (a < n) := by
  unfold inB
  rw [iX_n h, decide_eq_false (nI_pos h)]
  rfl
theorem inC_n {a m n : Nat} (h : a < 2 ^ 31) (hm : m < 2 ^ 31) : inC (nI a) (nI m) n = decide (a + m ≤ n) := by
  unfold inC
  rw [iX_n h, iX_n hm, decide_eq_false (nI_pos h), decide_eq_false (nI_pos hm)]
  rfl
theorem m_toInt {a : Nat} (h : a ≤ 2 ^ 31) : (mI a).toInt = -(a : Int) := by
  unfold mI
  exact Int32.toInt_ofInt_of_le (by omega) (by omega)
theorem n_ltm {a b : Nat} (ha : a < 2 ^ 31) (hb : b ≤ 2 ^ 31) : (nI a < mI b) = False := by
  rw [Int32.lt_iff_toInt_lt, nI_toInt ha, m_toInt hb]
  exact eq_false (by omega)
theorem m_ltn {a b : Nat} (ha : a < 2 ^ 31) (hb : b ≤ 2 ^ 31) (h0 : 0 < b) : (mI b < nI a) = True := by
  rw [Int32.lt_iff_toInt_lt, nI_toInt ha, m_toInt hb]
  exact eq_true (by omega)
theorem m_ltm {a b : Nat} (ha : a ≤ 2 ^ 31) (hb : b ≤ 2 ^ 31) : (mI a < mI b) = (b < a) := by
  rw [Int32.lt_iff_toInt_lt, m_toInt ha, m_toInt hb]
  exact propext (by omega)
theorem n_eqm {a b : Nat} (ha : a < 2 ^ 31) (hb : b ≤ 2 ^ 31) (h0 : 0 < b) : (nI a = mI b) = False := by
  rw [← Int32.toInt_inj, nI_toInt ha, m_toInt hb]
  exact eq_false (by omega)
theorem m_eqn {a b : Nat} (ha : a < 2 ^ 31) (hb : b ≤ 2 ^ 31) (h0 : 0 < b) : (mI b = nI a) = False := by
  rw [← Int32.toInt_inj, nI_toInt ha, m_toInt hb]
  exact eq_false (by omega)
theorem m_eqm {a b : Nat} (ha : a ≤ 2 ^ 31) (hb : b ≤ 2 ^ 31) : (mI a = mI b) = (a = b) := by
  rw [← Int32.toInt_inj, m_toInt ha, m_toInt hb]
  exact propext (by omega)
theorem n_lt {a b : Nat} (ha : a < 2 ^ 31) (hb : b < 2 ^ 31) : (nI a < nI b) = (a < b) := propext (nI_ltI ha hb)
theorem n_eq {a b : Nat} (ha : a < 2 ^ 31) (hb : b < 2 ^ 31) : (nI a = nI b) = (a = b) := propext (nI_eq ha hb)
theorem n_eq0 {a : Nat} (ha : a < 2 ^ 31) : (nI a = 0) = (a = 0) := by
  rw [← nI_0]
  exact n_eq ha (by decide)
theorem n_addm {a b : Nat} (h : b ≤ a) : nI a + mI b = nI (a - b) := by
  have e : nI a = nI (a - b) + nI b := by rw [nI_add, Nat.sub_add_cancel h]
  have z : nI b + mI b = 0 := by
    unfold nI mI
    rw [Int32.ofInt_neg, ← Int32.ofInt_eq_ofNat]
    exact Int32.add_right_neg _
  rw [e, Int32.add_assoc, z, Int32.add_zero]
theorem bit0 (a b : Nat) : (a / 2 ^ b % 2 = 0) = (a.testBit b = false) := by
  rw [Nat.testBit_eq_decide_div_mod_eq, decide_eq_false_iff_not]
  exact propext (by omega)
theorem n_i2l {a : Nat} (h : a < 2 ^ 31) : i2lI (nI a) = lN a := nI_l h
theorem n_l2i (a : Nat) : l2iL (lN a) = nI a := lN_i a
/-! ===== the world, read over what was written ===== -/
theorem gF_sF (w : Wd) (k j : Nat) (x : Int32) (a b : Nat) : gF (sF w k j x) a b = if a = k ∧ b = j then x else gF w a b := rfl
theorem gF_sG (w : Wd) (k j : Nat) (x : Int64) (a b : Nat) : gF (sG w k j x) a b = gF w a b := rfl
theorem gF_sI (w : Wd) (k j : Nat) (x : Int32) (a b : Nat) : gF (sI w k j x) a b = gF w a b := rfl
theorem gF_sJ (w : Wd) (k j : Nat) (x : Int64) (a b : Nat) : gF (sJ w k j x) a b = gF w a b := rfl
theorem gF_sP (w : Wd) (j r : Nat) (a b : Nat) : gF (sP w j r) a b = gF w a b := rfl
theorem gF_sR (w : Wd) (k : Nat) (f : Nat → Int32) (a b : Nat) : gF (sR w k f) a b = gF w a b := rfl
theorem gF_sL (w : Wd) (k : Nat) (f : Nat → Int64) (a b : Nat) : gF (sL w k f) a b = gF w a b := rfl
theorem gG_sF (w : Wd) (k j : Nat) (x : Int32) (a b : Nat) : gG (sF w k j x) a b = gG w a b := rfl
theorem gG_sG (w : Wd) (k j : Nat) (x : Int64) (a b : Nat) : gG (sG w k j x) a b = if a = k ∧ b = j then x else gG w a b := rfl
theorem gG_sI (w : Wd) (k j : Nat) (x : Int32) (a b : Nat) : gG (sI w k j x) a b = gG w a b := rfl
theorem gG_sJ (w : Wd) (k j : Nat) (x : Int64) (a b : Nat) : gG (sJ w k j x) a b = gG w a b := rfl
theorem gG_sP (w : Wd) (j r : Nat) (a b : Nat) : gG (sP w j r) a b = gG w a b := rfl
theorem gG_sR (w : Wd) (k : Nat) (f : Nat → Int32) (a b : Nat) : gG (sR w k f) a b = gG w a b := rfl
theorem gG_sL (w : Wd) (k : Nat) (f : Nat → Int64) (a b : Nat) : gG (sL w k f) a b = gG w a b := rfl
theorem gI_sF (w : Wd) (k j : Nat) (x : Int32) (a b : Nat) : gI (sF w k j x) a b = gI w a b := rfl
theorem gI_sG (w : Wd) (k j : Nat) (x : Int64) (a b : Nat) : gI (sG w k j x) a b = gI w a b := rfl
theorem gI_sI (w : Wd) (k j : Nat) (x : Int32) (a b : Nat) : gI (sI w k j x) a b = if a = k ∧ b = j then x else gI w a b := rfl
theorem gI_sJ (w : Wd) (k j : Nat) (x : Int64) (a b : Nat) : gI (sJ w k j x) a b = gI w a b := rfl
theorem gI_sP (w : Wd) (j r : Nat) (a b : Nat) : gI (sP w j r) a b = gI w a b := rfl
theorem gI_sR (w : Wd) (k : Nat) (f : Nat → Int32) (a b : Nat) : gI (sR w k f) a b = if a = k then f b else gI w a b := by
  unfold gI sR
  by_cases h : a = k <;> simp [h]
theorem gI_sL (w : Wd) (k : Nat) (f : Nat → Int64) (a b : Nat) : gI (sL w k f) a b = gI w a b := rfl
theorem gJ_sF (w : Wd) (k j : Nat) (x : Int32) (a b : Nat) : gJ (sF w k j x) a b = gJ w a b := rfl
theorem gJ_sG (w : Wd) (k j : Nat) (x : Int64) (a b : Nat) : gJ (sG w k j x) a b = gJ w a b := rfl
theorem gJ_sI (w : Wd) (k j : Nat) (x : Int32) (a b : Nat) : gJ (sI w k j x) a b = gJ w a b := rfl
theorem gJ_sJ (w : Wd) (k j : Nat) (x : Int64) (a b : Nat) : gJ (sJ w k j x) a b = if a = k ∧ b = j then x else gJ w a b := rfl
theorem gJ_sP (w : Wd) (j r : Nat) (a b : Nat) : gJ (sP w j r) a b = gJ w a b := rfl
theorem gJ_sR (w : Wd) (k : Nat) (f : Nat → Int32) (a b : Nat) : gJ (sR w k f) a b = gJ w a b := rfl
theorem gJ_sL (w : Wd) (k : Nat) (f : Nat → Int64) (a b : Nat) : gJ (sL w k f) a b = if a = k then f b else gJ w a b := by
  unfold gJ sL
  by_cases h : a = k <;> simp [h]
theorem gP_sF (w : Wd) (k j : Nat) (x : Int32) (b : Nat) : gP (sF w k j x) b = gP w b := rfl
theorem gP_sG (w : Wd) (k j : Nat) (x : Int64) (b : Nat) : gP (sG w k j x) b = gP w b := rfl
theorem gP_sI (w : Wd) (k j : Nat) (x : Int32) (b : Nat) : gP (sI w k j x) b = gP w b := rfl
theorem gP_sJ (w : Wd) (k j : Nat) (x : Int64) (b : Nat) : gP (sJ w k j x) b = gP w b := rfl
theorem gP_sP (w : Wd) (j r : Nat) (b : Nat) : gP (sP w j r) b = if b = j then r else gP w b := rfl
theorem gP_sR (w : Wd) (k : Nat) (f : Nat → Int32) (b : Nat) : gP (sR w k f) b = gP w b := rfl
theorem gP_sL (w : Wd) (k : Nat) (f : Nat → Int64) (b : Nat) : gP (sL w k f) b = gP w b := rfl
/-! ===== the kinds of School cells: k is a School's ===== -/
def SC (k : Nat) : Prop := k % 9 = 0 ∧ k < 45
theorem sc_ob {k : Nat} (h : SC k) : isOb k 2 = true := by
  obtain ⟨h1, h2⟩ := h
  have : kd k = .inl 2 := by unfold kd; rw [if_pos h2, if_pos h1]
  unfold isOb
  rw [this, decide_eq_true (by omega)]
  rfl
theorem sc_ar {k j : Nat} (h : SC k) (h1 : 0 < j) (h2 : j < 9) : lnA (k + j) 0 = some 14 := by
  obtain ⟨h3, h4⟩ := h
  have : kd (k + j) = .inr (0, 14) := by unfold kd; rw [if_pos (by omega), if_neg (by omega)]
  unfold lnA
  rw [if_pos (by omega), this]
  rfl
theorem sc_rf {k : Nat} (h : SC k) (P : Nat → Nat) (j : Nat) : rf P k j = k + (j - 5) := by
  unfold rf
  rw [if_pos h.2]
/-! ===== the steps of a walk ===== -/
theorem fo_ite (m : Nat) (c : Prop) [Decidable c] (x y : Nx) : fo m (if c then x else y) = if c then fo m x else fo m y := by
  by_cases h : c <;> simp [h]
theorem fo_K (m pc : Nat) (L st : List Value) (w : Wd) : fo m (xK pc L st w) = zR m pc L st w := rfl
theorem fo_R (m : Nat) (r : Option Value) (w : Wd) : fo m (xR r w) = some (r, w) := rfl
theorem fo_F (m : Nat) : fo m xF = none := rfl
theorem fo_C (m a : Nat) (As : List Value) (pc : Nat) (L rest : List Value) (w : Wd) : fo m (xC a As pc L rest w) = zB m pc L rest (zE a As w) := rfl
/-! ===== a walk that stops at given places ===== -/
def zin : Nat → List Nat → Bool
  | _, [] => false
  | p, c :: r => if p = c then true else zin p r
noncomputable def zW (cs : List Nat) (m pc : Nat) (L st : List Value) (w : Wd) : Option (Option Value × Wd) := zR m pc L st w
noncomputable def zBW (cs : List Nat) (m pc : Nat) (L rest : List Value) : Option (Option Value × Wd) → Option (Option Value × Wd)
  | some (r, w2) => zW cs m pc L (pu r rest) w2
  | none => none
noncomputable def foW (cs : List Nat) (m : Nat) : Nx → Option (Option Value × Wd)
  | .inl r => r
  | .inr (.inl (pc, L, st, w)) => zW cs m pc L st w
  | .inr (.inr (m', As, pc, L, rest, w)) => zBW cs m pc L rest (zE m' As w)
theorem foW_fo (cs : List Nat) (m : Nat) (x : Nx) : foW cs m x = fo m x := by
  cases x with
  | inl r => rfl
  | inr q =>
    cases q with
    | inl q => rfl
    | inr q =>
      obtain ⟨m', As, pc, L, rest, w⟩ := q
      show zBW cs m pc L rest (zE m' As w) = zB m pc L rest (zE m' As w)
      cases zE m' As w <;> rfl
theorem zR_W (cs : List Nat) (m pc : Nat) (L st : List Value) (w : Wd) : zR m pc L st w = foW cs m (zop (TT m pc) pc L st w) := by rw [foW_fo, ← zR_eq]
theorem zE_W (cs : List Nat) (m : Nat) (As : List Value) (w : Wd) : zE m As w = foW cs m (zop (TT m 0) 0 (iniL m As) [] w) := zR_W cs m 0 (iniL m As) [] w
theorem zW_eq (cs : List Nat) (m pc : Nat) (L st : List Value) (w : Wd) : zW cs m pc L st w = if zin pc cs = true then zR m pc L st w else foW cs m (zop (TT m pc) pc L st w) := by
  by_cases h : zin pc cs = true
  · rw [if_pos h]; rfl
  · rw [if_neg h]; exact zR_W cs m pc L st w
theorem fw_ite (cs : List Nat) (m : Nat) (c : Prop) [Decidable c] (x y : Nx) : foW cs m (if c then x else y) = if c then foW cs m x else foW cs m y := by
  by_cases h : c <;> simp [h]
theorem fw_K (cs : List Nat) (m pc : Nat) (L st : List Value) (w : Wd) : foW cs m (xK pc L st w) = zW cs m pc L st w := rfl
theorem fw_R (cs : List Nat) (m : Nat) (r : Option Value) (w : Wd) : foW cs m (xR r w) = some (r, w) := rfl
theorem fw_F (cs : List Nat) (m : Nat) : foW cs m xF = none := rfl
theorem fw_C (cs : List Nat) (m a : Nat) (As : List Value) (pc : Nat) (L rest : List Value) (w : Wd) : foW cs m (xC a As pc L rest w) = zBW cs m pc L rest (zE a As w) := rfl
theorem zBW_s (cs : List Nat) (m pc : Nat) (L rest : List Value) (r : Option Value) (w : Wd) : zBW cs m pc L rest (some (r, w)) = zW cs m pc L (pu r rest) w := rfl
/-! ===== the literal cells ===== -/
def rf45 : Nat → Nat := fun j => match j with | 0 => 46 | 4 => 49 | 5 => 0 | 6 => 9 | 7 => 47 | 8 => 48 | 9 => 50 | 10 => 58 | _ => 63
def rf50 : Nat → Nat := fun j => match j with | 0 => 51 | 1 => 56 | _ => 57
def rf58 (P : Nat → Nat) : Nat → Nat := fun j => match j with | 3 => P 3 | 4 => P 4 | 7 => P 7 | 8 => P 8 | _ => 0
def rf63 : Nat → Nat := fun j => match j with | 0 => 65 | _ => 64
def rf267 : Nat → Nat := fun j => match j with | 1 => 268 | 2 => 269 | 3 => 270 | 4 => 271 | 5 => 272 | 16 => 273 | 17 => 274 | 18 => 275 | 19 => 276 | 20 => 277 | 21 => 278 | 22 => 279 | 23 => 280 | 24 => 281 | 25 => 282 | 27 => 283 | 29 => 284 | 30 => 285 | 31 => 286 | 32 => 287 | 33 => 288 | _ => 289
theorem rf_45 (P : Nat → Nat) (j : Nat) : rf P 45 j = rf45 j := rfl
theorem rf_47 (P : Nat → Nat) (j : Nat) : rf P 47 j = 18 + 9 * j := rfl
theorem rf_49 (P : Nat → Nat) (j : Nat) : rf P 49 j = 46 := rfl
theorem rf_50 (P : Nat → Nat) (j : Nat) : rf P 50 j = rf50 j := rfl
theorem rf_51 (P : Nat → Nat) (j : Nat) : rf P 51 j = 52 + j := rfl
theorem rf_58 (P : Nat → Nat) (j : Nat) : rf P 58 j = rf58 P j := rfl
theorem rf_63 (P : Nat → Nat) (j : Nat) : rf P 63 j = rf63 j := rfl
theorem rf_65 (P : Nat → Nat) (j : Nat) : rf P 65 j = 66 + j := rfl
theorem rf_267 (P : Nat → Nat) (j : Nat) : rf P 267 j = rf267 j := rfl
theorem ob_45 : isOb 45 5 = true := rfl
theorem ob_49 : isOb 49 1 = true := rfl
theorem ob_50 : isOb 50 4 = true := rfl
theorem ob_58 : isOb 58 3 = true := rfl
theorem ob_63 : isOb 63 0 = true := rfl
theorem ob_267 : isOb 267 6 = true := rfl
theorem sc_0 : SC 0 := by unfold SC; omega
theorem sc_9 : SC 9 := by unfold SC; omega
theorem sc_im {j : Nat} (h : j < 3) : SC (18 + 9 * j) := by unfold SC; omega
theorem ln_slot {i : Nat} (h : i < 4) : lnA (52 + i) 1 = some 60 := by
  match i, h with
  | 0, _ => rfl
  | 1, _ => rfl
  | 2, _ => rfl
  | 3, _ => rfl
theorem ln_slot0 {i : Nat} (h : i < 4) : lnA (52 + i) 0 = none := by
  match i, h with
  | 0, _ => rfl
  | 1, _ => rfl
  | 2, _ => rfl
  | 3, _ => rfl
theorem ln_chain : ∀ i, i < 201 → lnA (66 + i) 1 = some 15 := by decide +kernel
theorem ln_46 : lnA 46 2 = some 1600 := rfl
theorem ln_46n : lnA 46 0 = none := rfl
theorem ln_46m : lnA 46 1 = none := rfl
theorem ln_47 : lnA 47 5 = some 3 := rfl
theorem ln_47n : lnA 47 4 = none := rfl
theorem ln_48 : lnA 48 3 = some 3 := rfl
theorem ln_48n : lnA 48 2 = none := rfl
theorem ln_51 : lnA 51 4 = some 4 := rfl
theorem ln_56 : lnA 56 0 = some 4 := rfl
theorem ln_57 : lnA 57 0 = some 4 := rfl
theorem ln_59 : lnA 59 0 = some 16384 := rfl
theorem ln_60 : lnA 60 0 = some 16384 := rfl
theorem ln_61 : lnA 61 0 = some 16384 := rfl
theorem ln_62 : lnA 62 0 = some 16384 := rfl
theorem ln_64 : lnA 64 1 = some 65 := rfl
theorem ln_64n : lnA 64 0 = none := rfl
theorem ln_65 : lnA 65 4 = some 201 := rfl
theorem ln_268 : lnA 268 0 = some 4 := rfl
theorem ln_269 : lnA 269 0 = some 4 := rfl
theorem ln_270 : lnA 270 1 = some 240 := rfl
theorem ln_270n : lnA 270 0 = none := rfl
theorem ln_271 : lnA 271 1 = some 60 := rfl
theorem ln_271n : lnA 271 0 = none := rfl
theorem ln_272 : lnA 272 2 = some 1600 := rfl
theorem ln_272n : lnA 272 0 = none := rfl
theorem ln_272m : lnA 272 1 = none := rfl
theorem ln_273 : lnA 273 0 = some 6 := rfl
theorem ln_274 : lnA 274 0 = some 6 := rfl
theorem ln_275 : lnA 275 0 = some 24 := rfl
theorem ln_276 : lnA 276 0 = some 252 := rfl
theorem ln_277 : lnA 277 0 = some 84 := rfl
theorem ln_278 : lnA 278 3 = some 3 := rfl
theorem ln_278n : lnA 278 2 = none := rfl
theorem ln_279 : lnA 279 0 = some 14 := rfl
theorem ln_280 : lnA 280 0 = some 14 := rfl
theorem ln_281 : lnA 281 0 = some 16384 := rfl
theorem ln_282 : lnA 282 0 = some 16384 := rfl
theorem ln_283 : lnA 283 1 = some 16384 := rfl
theorem ln_283n : lnA 283 0 = none := rfl
theorem ln_284 : lnA 284 0 = some 16384 := rfl
theorem ln_285 : lnA 285 0 = some 16384 := rfl
theorem ln_286 : lnA 286 1 = some 1365 := rfl
theorem ln_286n : lnA 286 0 = none := rfl
theorem ln_287 : lnA 287 1 = some 3015 := rfl
theorem ln_287n : lnA 287 0 = none := rfl
theorem ln_288 : lnA 288 0 = some 3015 := rfl
theorem ln_289 : lnA 289 3 = some 16384 := rfl
theorem ln_289n : lnA 289 2 = none := rfl
/-! ===== any int, any long ===== -/
theorem i32_cases (x : Int32) : (∃ a : Nat, a < 2 ^ 31 ∧ x = nI a) ∨ (∃ b : Nat, 0 < b ∧ b ≤ 2 ^ 31 ∧ x = mI b) := by
  by_cases h : x < 0
  · right
    have h1 : x.toInt < 0 := by simpa using Int32.lt_iff_toInt_lt.mp h
    have h2 := Int32.le_toInt x
    refine ⟨(-x.toInt).toNat, by omega, by omega, ?_⟩
    apply Int32.toInt_inj.mp
    rw [m_toInt (by omega)]
    omega
  · left
    obtain ⟨j, hj, e⟩ := nI_of h
    exact ⟨j, hj, e⟩
theorem l_toInt {a : Nat} (h : a < 2 ^ 63) : (lN a).toInt = (a : Int) := lg_ofNat_toInt (by omega)
theorem ml_toInt {a : Nat} (h : a ≤ 2 ^ 63) : (mL a).toInt = -(a : Int) := by
  unfold mL
  exact Int64.toInt_ofInt_of_le (by omega) (by omega)
theorem i64_cases (x : Int64) : (∃ a : Nat, a < 2 ^ 63 ∧ x = lN a) ∨ (∃ b : Nat, 0 < b ∧ b ≤ 2 ^ 63 ∧ x = mL b) := by
  have h2 := Int64.le_toInt x
  have h3 := Int64.toInt_lt x
  by_cases h : x.toInt < 0
  · right
    refine ⟨(-x.toInt).toNat, by omega, by omega, ?_⟩
    apply Int64.toInt_inj.mp
    rw [ml_toInt (by omega)]
    omega
  · left
    refine ⟨x.toInt.toNat, by omega, ?_⟩
    apply Int64.toInt_inj.mp
    rw [l_toInt (by omega)]
    omega
theorem m_i2l {b : Nat} (h : b ≤ 2 ^ 31) : i2lI (mI b) = mL b := by
  apply Int64.toInt_inj.mp
  unfold i2lI
  rw [Int32.toInt_toInt64, m_toInt h, ml_toInt (by omega)]
theorem l_lt {a b : Nat} (ha : a < 2 ^ 63) (hb : b < 2 ^ 63) : (lN a < lN b) = (a < b) := by
  rw [Int64.lt_iff_toInt_lt, l_toInt ha, l_toInt hb]
  exact propext (by omega)
theorem l_eq {a b : Nat} (ha : a < 2 ^ 63) (hb : b < 2 ^ 63) : (lN a = lN b) = (a = b) := by
  rw [← Int64.toInt_inj, l_toInt ha, l_toInt hb]
  exact propext (by omega)
theorem l_ltm {a b : Nat} (ha : a < 2 ^ 63) (hb : b ≤ 2 ^ 63) : (lN a < mL b) = False := by
  rw [Int64.lt_iff_toInt_lt, l_toInt ha, ml_toInt hb]
  exact eq_false (by omega)
theorem ml_ltn {a b : Nat} (ha : a < 2 ^ 63) (hb : b ≤ 2 ^ 63) (h0 : 0 < b) : (mL b < lN a) = True := by
  rw [Int64.lt_iff_toInt_lt, l_toInt ha, ml_toInt hb]
  exact eq_true (by omega)
theorem ml_ltm {a b : Nat} (ha : a ≤ 2 ^ 63) (hb : b ≤ 2 ^ 63) : (mL a < mL b) = (b < a) := by
  rw [Int64.lt_iff_toInt_lt, ml_toInt ha, ml_toInt hb]
  exact propext (by omega)
theorem l_eqm {a b : Nat} (ha : a < 2 ^ 63) (hb : b ≤ 2 ^ 63) (h0 : 0 < b) : (lN a = mL b) = False := by
  rw [← Int64.toInt_inj, l_toInt ha, ml_toInt hb]
  exact eq_false (by omega)
theorem ml_eqn {a b : Nat} (ha : a < 2 ^ 63) (hb : b ≤ 2 ^ 63) (h0 : 0 < b) : (mL b = lN a) = False := by
  rw [← Int64.toInt_inj, l_toInt ha, ml_toInt hb]
  exact eq_false (by omega)
theorem ml_eqm {a b : Nat} (ha : a ≤ 2 ^ 63) (hb : b ≤ 2 ^ 63) : (mL a = mL b) = (a = b) := by
  rw [← Int64.toInt_inj, ml_toInt ha, ml_toInt hb]
  exact propext (by omega)
theorem lc_lt (x y : Int64) : (lg_cmp x y < nI 0) = (x < y) := by
  unfold lg_cmp
  rw [nI_0]
  by_cases h : x > y
  · rw [if_pos h]
    exact propext ⟨fun q => absurd q (by decide), fun q => absurd q (by rw [Int64.lt_iff_toInt_lt]; have := Int64.lt_iff_toInt_lt.mp h; omega)⟩
  · rw [if_neg h]
    by_cases e : x = y
    · rw [if_pos e]
      subst e
      exact propext ⟨fun q => absurd q (by decide), fun q => absurd q h⟩
    · rw [if_neg e]
      refine propext ⟨fun _ => ?_, fun _ => by decide⟩
      rw [Int64.lt_iff_toInt_lt]
      have h1 : ¬ y.toInt < x.toInt := fun q => h (Int64.lt_iff_toInt_lt.mpr q)
      have h2 : ¬ x.toInt = y.toInt := fun q => e (Int64.toInt_inj.mp q)
      omega
theorem lc_gt (x y : Int64) : (nI 0 < lg_cmp x y) = (y < x) := by
  unfold lg_cmp
  rw [nI_0]
  by_cases h : x > y
  · rw [if_pos h]
    exact propext ⟨fun _ => h, fun _ => by decide⟩
  · rw [if_neg h]
    by_cases e : x = y
    · rw [if_pos e]
      exact propext ⟨fun q => absurd q (by decide), fun q => absurd q h⟩
    · rw [if_neg e]
      exact propext ⟨fun q => absurd q (by decide), fun q => absurd q h⟩
theorem lc_eq (x y : Int64) : (lg_cmp x y = nI 0) = (x = y) := by
  unfold lg_cmp
  rw [nI_0]
  by_cases h : x > y
  · rw [if_pos h]
    refine propext ⟨fun q => absurd q (by decide), fun q => ?_⟩
    subst q
    exact absurd (Int64.lt_iff_toInt_lt.mp h) (by omega)
  · rw [if_neg h]
    by_cases e : x = y
    · rw [if_pos e]
      exact propext ⟨fun _ => e, fun _ => rfl⟩
    · rw [if_neg e]
      exact propext ⟨fun q => absurd q (by decide), fun q => absurd q e⟩
theorem l_div {a b : Nat} (ha : a < 2 ^ 63) (h0 : 0 < b) (hb : b < 2 ^ 63) : divL (lN a) (lN b) = lN (a / b) := pk_lDiv ha h0 hb
theorem l_rem {a b : Nat} (ha : a < 2 ^ 63) (h0 : 0 < b) (hb : b < 2 ^ 63) : remL (lN a) (lN b) = lN (a % b) := pk_lRem ha h0 hb
theorem l_eq0 {a : Nat} (ha : a < 2 ^ 63) : (lN a = 0) = (a = 0) := by
  rw [show (0 : Int64) = lN 0 from rfl]
  exact l_eq ha (by decide)
