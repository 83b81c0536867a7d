theorem dX7_in_0 : decode cX7_in 0 = .ok (.lload_n 0, 1) := by decide +kernel
theorem dX7_in_1 : decode cX7_in 1 = .ok (.lload_n 2, 1) := by decide +kernel
theorem dX7_in_2 : decode cX7_in 2 = .ok (.lcmp, 1) := by decide +kernel
theorem dX7_in_3 : decode cX7_in 3 = .ok (.ifCond .lt 14, 3) := by decide +kernel
theorem dX7_in_6 : decode cX7_in 6 = .ok (.lload_n 0, 1) := by decide +kernel
theorem dX7_in_7 : decode cX7_in 7 = .ok (.lload 4, 2) := by decide +kernel
theorem dX7_in_9 : decode cX7_in 9 = .ok (.lcmp, 1) := by decide +kernel
theorem dX7_in_10 : decode cX7_in 10 = .ok (.ifCond .gt 7, 3) := by decide +kernel
theorem dX7_in_13 : decode cX7_in 13 = .ok (.iconst 1, 1) := by decide +kernel
theorem dX7_in_14 : decode cX7_in 14 = .ok (.goto 4, 3) := by decide +kernel
theorem dX7_in_17 : decode cX7_in 17 = .ok (.iconst 0, 1) := by decide +kernel
theorem dX7_in_18 : decode cX7_in 18 = .ok (.ireturn, 1) := by decide +kernel
theorem dX7_within_0 : decode cX7_within 0 = .ok (.iload_n 0, 1) := by decide +kernel
theorem dX7_within_1 : decode cX7_within 1 = .ok (.iload_n 1, 1) := by decide +kernel
theorem dX7_within_2 : decode cX7_within 2 = .ok (.if_icmp .ge 7, 3) := by decide +kernel
theorem dX7_within_5 : decode cX7_within 5 = .ok (.iload_n 1, 1) := by decide +kernel
theorem dX7_within_6 : decode cX7_within 6 = .ok (.goto 13, 3) := by decide +kernel
theorem dX7_within_9 : decode cX7_within 9 = .ok (.iload_n 0, 1) := by decide +kernel
theorem dX7_within_10 : decode cX7_within 10 = .ok (.iload_n 2, 1) := by decide +kernel
theorem dX7_within_11 : decode cX7_within 11 = .ok (.if_icmp .le 7, 3) := by decide +kernel
theorem dX7_within_14 : decode cX7_within 14 = .ok (.iload_n 2, 1) := by decide +kernel
theorem dX7_within_15 : decode cX7_within 15 = .ok (.goto 4, 3) := by decide +kernel
theorem dX7_within_18 : decode cX7_within 18 = .ok (.iload_n 0, 1) := by decide +kernel
theorem dX7_within_19 : decode cX7_within 19 = .ok (.ireturn, 1) := by decide +kernel
theorem dX7_init_0 : decode cX7_init 0 = .ok (.aload_n 0, 1) := by decide +kernel
theorem dX7_init_1 : decode cX7_init 1 = .ok (.invokespecial 7, 3) := by decide +kernel
theorem dX7_init_4 : decode cX7_init 4 = .ok (.aload_n 0, 1) := by decide +kernel
theorem dX7_init_5 : decode cX7_init 5 = .ok (.sipush 960, 3) := by decide +kernel
theorem dX7_init_8 : decode cX7_init 8 = .ok (.newarray .int, 2) := by decide +kernel
theorem dX7_init_10 : decode cX7_init 10 = .ok (.putfield 13, 3) := by decide +kernel
theorem dX7_init_13 : decode cX7_init 13 = .ok (.aload_n 0, 1) := by decide +kernel
theorem dX7_init_14 : decode cX7_init 14 = .ok (.bipush 6, 2) := by decide +kernel
theorem dX7_init_16 : decode cX7_init 16 = .ok (.newarray .int, 2) := by decide +kernel
theorem dX7_init_18 : decode cX7_init 18 = .ok (.putfield 17, 3) := by decide +kernel
theorem dX7_init_21 : decode cX7_init 21 = .ok (.aload_n 0, 1) := by decide +kernel
theorem dX7_init_22 : decode cX7_init 22 = .ok (.sipush 160, 3) := by decide +kernel
theorem dX7_init_25 : decode cX7_init 25 = .ok (.newarray .int, 2) := by decide +kernel
theorem dX7_init_27 : decode cX7_init 27 = .ok (.putfield 20, 3) := by decide +kernel
theorem dX7_init_30 : decode cX7_init 30 = .ok (.aload_n 0, 1) := by decide +kernel
theorem dX7_init_31 : decode cX7_init 31 = .ok (.bipush 8, 2) := by decide +kernel
theorem dX7_init_33 : decode cX7_init 33 = .ok (.newarray .int, 2) := by decide +kernel
theorem dX7_init_35 : decode cX7_init 35 = .ok (.dup, 1) := by decide +kernel
theorem dX7_init_36 : decode cX7_init 36 = .ok (.iconst 0, 1) := by decide +kernel
theorem dX7_init_37 : decode cX7_init 37 = .ok (.iconst 0, 1) := by decide +kernel
theorem dX7_init_38 : decode cX7_init 38 = .ok (.iastore, 1) := by decide +kernel
theorem dX7_init_39 : decode cX7_init 39 = .ok (.dup, 1) := by decide +kernel
theorem dX7_init_40 : decode cX7_init 40 = .ok (.iconst 1, 1) := by decide +kernel
theorem dX7_init_41 : decode cX7_init 41 = .ok (.bipush 9, 2) := by decide +kernel
theorem dX7_init_43 : decode cX7_init 43 = .ok (.iastore, 1) := by decide +kernel
theorem dX7_init_44 : decode cX7_init 44 = .ok (.dup, 1) := by decide +kernel
theorem dX7_init_45 : decode cX7_init 45 = .ok (.iconst 2, 1) := by decide +kernel
theorem dX7_init_46 : decode cX7_init 46 = .ok (.iconst 0, 1) := by decide +kernel
theorem dX7_init_47 : decode cX7_init 47 = .ok (.iastore, 1) := by decide +kernel
theorem dX7_init_48 : decode cX7_init 48 = .ok (.dup, 1) := by decide +kernel
theorem dX7_init_49 : decode cX7_init 49 = .ok (.iconst 3, 1) := by decide +kernel
theorem dX7_init_50 : decode cX7_init 50 = .ok (.sipush 199, 3) := by decide +kernel
theorem dX7_init_53 : decode cX7_init 53 = .ok (.iastore, 1) := by decide +kernel
theorem dX7_init_54 : decode cX7_init 54 = .ok (.dup, 1) := by decide +kernel
theorem dX7_init_55 : decode cX7_init 55 = .ok (.iconst 4, 1) := by decide +kernel
theorem dX7_init_56 : decode cX7_init 56 = .ok (.iconst 0, 1) := by decide +kernel
theorem dX7_init_57 : decode cX7_init 57 = .ok (.iastore, 1) := by decide +kernel
theorem dX7_init_58 : decode cX7_init 58 = .ok (.dup, 1) := by decide +kernel
theorem dX7_init_59 : decode cX7_init 59 = .ok (.iconst 5, 1) := by decide +kernel
theorem dX7_init_60 : decode cX7_init 60 = .ok (.iconst 0, 1) := by decide +kernel
theorem dX7_init_61 : decode cX7_init 61 = .ok (.iastore, 1) := by decide +kernel
theorem dX7_init_62 : decode cX7_init 62 = .ok (.dup, 1) := by decide +kernel
theorem dX7_init_63 : decode cX7_init 63 = .ok (.bipush 6, 2) := by decide +kernel
theorem dX7_init_65 : decode cX7_init 65 = .ok (.iconst 0, 1) := by decide +kernel
theorem dX7_init_66 : decode cX7_init 66 = .ok (.iastore, 1) := by decide +kernel
theorem dX7_init_67 : decode cX7_init 67 = .ok (.dup, 1) := by decide +kernel
theorem dX7_init_68 : decode cX7_init 68 = .ok (.bipush 7, 2) := by decide +kernel
theorem dX7_init_70 : decode cX7_init 70 = .ok (.sipush 199, 3) := by decide +kernel
theorem dX7_init_73 : decode cX7_init 73 = .ok (.iastore, 1) := by decide +kernel
theorem dX7_init_74 : decode cX7_init 74 = .ok (.putfield 23, 3) := by decide +kernel
theorem dX7_init_77 : decode cX7_init 77 = .ok (.aload_n 0, 1) := by decide +kernel
theorem dX7_init_78 : decode cX7_init 78 = .ok (.bipush 7, 2) := by decide +kernel
theorem dX7_init_80 : decode cX7_init 80 = .ok (.newarray .int, 2) := by decide +kernel
theorem dX7_init_82 : decode cX7_init 82 = .ok (.putfield 26, 3) := by decide +kernel
theorem dX7_init_85 : decode cX7_init 85 = .ok (.aload_n 0, 1) := by decide +kernel
theorem dX7_init_86 : decode cX7_init 86 = .ok (.bipush 35, 2) := by decide +kernel
theorem dX7_init_88 : decode cX7_init 88 = .ok (.newarray .int, 2) := by decide +kernel
theorem dX7_init_90 : decode cX7_init 90 = .ok (.putfield 29, 3) := by decide +kernel
theorem dX7_init_93 : decode cX7_init 93 = .ok (.aload_n 0, 1) := by decide +kernel
theorem dX7_init_94 : decode cX7_init 94 = .ok (.bipush 7, 2) := by decide +kernel
theorem dX7_init_96 : decode cX7_init 96 = .ok (.newarray .int, 2) := by decide +kernel
theorem dX7_init_98 : decode cX7_init 98 = .ok (.putfield 32, 3) := by decide +kernel
theorem dX7_init_101 : decode cX7_init 101 = .ok (.aload_n 0, 1) := by decide +kernel
theorem dX7_init_102 : decode cX7_init 102 = .ok (.bipush 7, 2) := by decide +kernel
theorem dX7_init_104 : decode cX7_init 104 = .ok (.newarray .int, 2) := by decide +kernel
theorem dX7_init_106 : decode cX7_init 106 = .ok (.putfield 35, 3) := by decide +kernel
theorem dX7_init_109 : decode cX7_init 109 = .ok (.aload_n 0, 1) := by decide +kernel
theorem dX7_init_110 : decode cX7_init 110 = .ok (.iconst 4, 1) := by decide +kernel
theorem dX7_init_111 : decode cX7_init 111 = .ok (.newarray .int, 2) := by decide +kernel
theorem dX7_init_113 : decode cX7_init 113 = .ok (.putfield 38, 3) := by decide +kernel
theorem dX7_init_116 : decode cX7_init 116 = .ok (.aload_n 0, 1) := by decide +kernel
theorem dX7_init_117 : decode cX7_init 117 = .ok (.bipush 8, 2) := by decide +kernel
theorem dX7_init_119 : decode cX7_init 119 = .ok (.newarray .int, 2) := by decide +kernel
theorem dX7_init_121 : decode cX7_init 121 = .ok (.putfield 41, 3) := by decide +kernel
theorem dX7_init_124 : decode cX7_init 124 = .ok (.aload_n 0, 1) := by decide +kernel
theorem dX7_init_125 : decode cX7_init 125 = .ok (.bipush 35, 2) := by decide +kernel
theorem dX7_init_127 : decode cX7_init 127 = .ok (.newarray .int, 2) := by decide +kernel
theorem dX7_init_129 : decode cX7_init 129 = .ok (.putfield 44, 3) := by decide +kernel
theorem dX7_init_132 : decode cX7_init 132 = .ok (.aload_n 0, 1) := by decide +kernel
theorem dX7_init_133 : decode cX7_init 133 = .ok (.iconst (-1), 1) := by decide +kernel
theorem dX7_init_134 : decode cX7_init 134 = .ok (.putfield 47, 3) := by decide +kernel
theorem dX7_init_137 : decode cX7_init 137 = .ok (.aload_n 0, 1) := by decide +kernel
theorem dX7_init_138 : decode cX7_init 138 = .ok (.iconst 4, 1) := by decide +kernel
theorem dX7_init_139 : decode cX7_init 139 = .ok (.newarray .boolean, 2) := by decide +kernel
theorem dX7_init_141 : decode cX7_init 141 = .ok (.putfield 50, 3) := by decide +kernel
theorem dX7_init_144 : decode cX7_init 144 = .ok (.aload_n 0, 1) := by decide +kernel
theorem dX7_init_145 : decode cX7_init 145 = .ok (.iconst 4, 1) := by decide +kernel
theorem dX7_init_146 : decode cX7_init 146 = .ok (.newarray .int, 2) := by decide +kernel
theorem dX7_init_148 : decode cX7_init 148 = .ok (.putfield 54, 3) := by decide +kernel
theorem dX7_init_151 : decode cX7_init 151 = .ok (.aload_n 0, 1) := by decide +kernel
theorem dX7_init_152 : decode cX7_init 152 = .ok (.iconst 4, 1) := by decide +kernel
theorem dX7_init_153 : decode cX7_init 153 = .ok (.newarray .int, 2) := by decide +kernel
theorem dX7_init_155 : decode cX7_init 155 = .ok (.putfield 57, 3) := by decide +kernel
theorem dX7_init_158 : decode cX7_init 158 = .ok (.aload_n 0, 1) := by decide +kernel
theorem dX7_init_159 : decode cX7_init 159 = .ok (.sipush 160, 3) := by decide +kernel
theorem dX7_init_162 : decode cX7_init 162 = .ok (.newarray .int, 2) := by decide +kernel
theorem dX7_init_164 : decode cX7_init 164 = .ok (.putfield 60, 3) := by decide +kernel
theorem dX7_init_167 : decode cX7_init 167 = .ok (.aload_n 0, 1) := by decide +kernel
theorem dX7_init_168 : decode cX7_init 168 = .ok (.iconst 0, 1) := by decide +kernel
theorem dX7_init_169 : decode cX7_init 169 = .ok (.bipush 116, 2) := by decide +kernel
theorem dX7_init_171 : decode cX7_init 171 = .ok (.bipush 117, 2) := by decide +kernel
theorem dX7_init_173 : decode cX7_init 173 = .ok (.bipush 114, 2) := by decide +kernel
theorem dX7_init_175 : decode cX7_init 175 = .ok (.bipush 110, 2) := by decide +kernel
theorem dX7_init_177 : decode cX7_init 177 = .ok (.bipush 115, 2) := by decide +kernel
theorem dX7_init_179 : decode cX7_init 179 = .ok (.bipush 32, 2) := by decide +kernel
theorem dX7_init_181 : decode cX7_init 181 = .ok (.bipush 102, 2) := by decide +kernel
theorem dX7_init_183 : decode cX7_init 183 = .ok (.bipush 97, 2) := by decide +kernel
theorem dX7_init_185 : decode cX7_init 185 = .ok (.invokevirtual 63, 3) := by decide +kernel
theorem dX7_init_188 : decode cX7_init 188 = .ok (.aload_n 0, 1) := by decide +kernel
theorem dX7_init_189 : decode cX7_init 189 = .ok (.bipush 8, 2) := by decide +kernel
theorem dX7_init_191 : decode cX7_init 191 = .ok (.bipush 114, 2) := by decide +kernel
theorem dX7_init_193 : decode cX7_init 193 = .ok (.bipush 32, 2) := by decide +kernel
theorem dX7_init_195 : decode cX7_init 195 = .ok (.bipush 59, 2) := by decide +kernel
theorem dX7_init_197 : decode cX7_init 197 = .ok (.bipush 32, 2) := by decide +kernel
theorem dX7_init_199 : decode cX7_init 199 = .ok (.bipush 102, 2) := by decide +kernel
theorem dX7_init_201 : decode cX7_init 201 = .ok (.bipush 105, 2) := by decide +kernel
theorem dX7_init_203 : decode cX7_init 203 = .ok (.bipush 110, 2) := by decide +kernel
theorem dX7_init_205 : decode cX7_init 205 = .ok (.bipush 100, 2) := by decide +kernel
theorem dX7_init_207 : decode cX7_init 207 = .ok (.invokevirtual 63, 3) := by decide +kernel
theorem dX7_init_210 : decode cX7_init 210 = .ok (.aload_n 0, 1) := by decide +kernel
theorem dX7_init_211 : decode cX7_init 211 = .ok (.bipush 16, 2) := by decide +kernel
theorem dX7_init_213 : decode cX7_init 213 = .ok (.bipush 115, 2) := by decide +kernel
theorem dX7_init_215 : decode cX7_init 215 = .ok (.bipush 32, 2) := by decide +kernel
theorem dX7_init_217 : decode cX7_init 217 = .ok (.bipush 53, 2) := by decide +kernel
theorem dX7_init_219 : decode cX7_init 219 = .ok (.bipush 32, 2) := by decide +kernel
theorem dX7_init_221 : decode cX7_init 221 = .ok (.bipush 59, 2) := by decide +kernel
theorem dX7_init_223 : decode cX7_init 223 = .ok (.bipush 32, 2) := by decide +kernel
theorem dX7_init_225 : decode cX7_init 225 = .ok (.bipush 119, 2) := by decide +kernel
theorem dX7_init_227 : decode cX7_init 227 = .ok (.bipush 97, 2) := by decide +kernel
theorem dX7_init_229 : decode cX7_init 229 = .ok (.invokevirtual 63, 3) := by decide +kernel
theorem dX7_init_232 : decode cX7_init 232 = .ok (.aload_n 0, 1) := by decide +kernel
theorem dX7_init_233 : decode cX7_init 233 = .ok (.bipush 24, 2) := by decide +kernel
theorem dX7_init_235 : decode cX7_init 235 = .ok (.bipush 105, 2) := by decide +kernel
theorem dX7_init_237 : decode cX7_init 237 = .ok (.bipush 116, 2) := by decide +kernel
theorem dX7_init_239 : decode cX7_init 239 = .ok (.bipush 115, 2) := by decide +kernel
theorem dX7_init_241 : decode cX7_init 241 = .ok (.bipush 32, 2) := by decide +kernel
theorem dX7_init_243 : decode cX7_init 243 = .ok (.bipush 48, 2) := by decide +kernel
theorem dX7_init_245 : decode cX7_init 245 = .ok (.bipush 32, 2) := by decide +kernel
theorem dX7_init_247 : decode cX7_init 247 = .ok (.bipush 59, 2) := by decide +kernel
theorem dX7_init_249 : decode cX7_init 249 = .ok (.bipush 32, 2) := by decide +kernel
theorem dX7_init_251 : decode cX7_init 251 = .ok (.invokevirtual 63, 3) := by decide +kernel
theorem dX7_init_254 : decode cX7_init 254 = .ok (.aload_n 0, 1) := by decide +kernel
theorem dX7_init_255 : decode cX7_init 255 = .ok (.getfield 17, 3) := by decide +kernel
theorem dX7_init_258 : decode cX7_init 258 = .ok (.iconst 0, 1) := by decide +kernel
theorem dX7_init_259 : decode cX7_init 259 = .ok (.bipush 32, 2) := by decide +kernel
theorem dX7_init_261 : decode cX7_init 261 = .ok (.iastore, 1) := by decide +kernel
theorem dX7_init_262 : decode cX7_init 262 = .ok (.aload_n 0, 1) := by decide +kernel
theorem dX7_init_263 : decode cX7_init 263 = .ok (.iconst 1, 1) := by decide +kernel
theorem dX7_init_264 : decode cX7_init 264 = .ok (.putfield 67, 3) := by decide +kernel
theorem dX7_init_267 : decode cX7_init 267 = .ok (.return_, 1) := by decide +kernel
theorem dX7_spell_0 : decode cX7_spell 0 = .ok (.aload_n 0, 1) := by decide +kernel
theorem dX7_spell_1 : decode cX7_spell 1 = .ok (.getfield 13, 3) := by decide +kernel
theorem dX7_spell_4 : decode cX7_spell 4 = .ok (.iload_n 1, 1) := by decide +kernel
theorem dX7_spell_5 : decode cX7_spell 5 = .ok (.iload_n 2, 1) := by decide +kernel
theorem dX7_spell_6 : decode cX7_spell 6 = .ok (.iastore, 1) := by decide +kernel
theorem dX7_spell_7 : decode cX7_spell 7 = .ok (.aload_n 0, 1) := by decide +kernel
theorem dX7_spell_8 : decode cX7_spell 8 = .ok (.getfield 13, 3) := by decide +kernel
theorem dX7_spell_11 : decode cX7_spell 11 = .ok (.iload_n 1, 1) := by decide +kernel
theorem dX7_spell_12 : decode cX7_spell 12 = .ok (.iconst 1, 1) := by decide +kernel
theorem dX7_spell_13 : decode cX7_spell 13 = .ok (.iadd, 1) := by decide +kernel
theorem dX7_spell_14 : decode cX7_spell 14 = .ok (.iload_n 3, 1) := by decide +kernel
theorem dX7_spell_15 : decode cX7_spell 15 = .ok (.iastore, 1) := by decide +kernel
theorem dX7_spell_16 : decode cX7_spell 16 = .ok (.aload_n 0, 1) := by decide +kernel
theorem dX7_spell_17 : decode cX7_spell 17 = .ok (.getfield 13, 3) := by decide +kernel
theorem dX7_spell_20 : decode cX7_spell 20 = .ok (.iload_n 1, 1) := by decide +kernel
theorem dX7_spell_21 : decode cX7_spell 21 = .ok (.iconst 2, 1) := by decide +kernel
theorem dX7_spell_22 : decode cX7_spell 22 = .ok (.iadd, 1) := by decide +kernel
theorem dX7_spell_23 : decode cX7_spell 23 = .ok (.iload 4, 2) := by decide +kernel
theorem dX7_spell_25 : decode cX7_spell 25 = .ok (.iastore, 1) := by decide +kernel
theorem dX7_spell_26 : decode cX7_spell 26 = .ok (.aload_n 0, 1) := by decide +kernel
theorem dX7_spell_27 : decode cX7_spell 27 = .ok (.getfield 13, 3) := by decide +kernel
theorem dX7_spell_30 : decode cX7_spell 30 = .ok (.iload_n 1, 1) := by decide +kernel
theorem dX7_spell_31 : decode cX7_spell 31 = .ok (.iconst 3, 1) := by decide +kernel
theorem dX7_spell_32 : decode cX7_spell 32 = .ok (.iadd, 1) := by decide +kernel
theorem dX7_spell_33 : decode cX7_spell 33 = .ok (.iload 5, 2) := by decide +kernel
theorem dX7_spell_35 : decode cX7_spell 35 = .ok (.iastore, 1) := by decide +kernel
theorem dX7_spell_36 : decode cX7_spell 36 = .ok (.aload_n 0, 1) := by decide +kernel
theorem dX7_spell_37 : decode cX7_spell 37 = .ok (.getfield 13, 3) := by decide +kernel
theorem dX7_spell_40 : decode cX7_spell 40 = .ok (.iload_n 1, 1) := by decide +kernel
theorem dX7_spell_41 : decode cX7_spell 41 = .ok (.iconst 4, 1) := by decide +kernel
theorem dX7_spell_42 : decode cX7_spell 42 = .ok (.iadd, 1) := by decide +kernel
theorem dX7_spell_43 : decode cX7_spell 43 = .ok (.iload 6, 2) := by decide +kernel
theorem dX7_spell_45 : decode cX7_spell 45 = .ok (.iastore, 1) := by decide +kernel
theorem dX7_spell_46 : decode cX7_spell 46 = .ok (.aload_n 0, 1) := by decide +kernel
theorem dX7_spell_47 : decode cX7_spell 47 = .ok (.getfield 13, 3) := by decide +kernel
theorem dX7_spell_50 : decode cX7_spell 50 = .ok (.iload_n 1, 1) := by decide +kernel
theorem dX7_spell_51 : decode cX7_spell 51 = .ok (.iconst 5, 1) := by decide +kernel
theorem dX7_spell_52 : decode cX7_spell 52 = .ok (.iadd, 1) := by decide +kernel
theorem dX7_spell_53 : decode cX7_spell 53 = .ok (.iload 7, 2) := by decide +kernel
theorem dX7_spell_55 : decode cX7_spell 55 = .ok (.iastore, 1) := by decide +kernel
theorem dX7_spell_56 : decode cX7_spell 56 = .ok (.aload_n 0, 1) := by decide +kernel
theorem dX7_spell_57 : decode cX7_spell 57 = .ok (.getfield 13, 3) := by decide +kernel
theorem dX7_spell_60 : decode cX7_spell 60 = .ok (.iload_n 1, 1) := by decide +kernel
theorem dX7_spell_61 : decode cX7_spell 61 = .ok (.bipush 6, 2) := by decide +kernel
theorem dX7_spell_63 : decode cX7_spell 63 = .ok (.iadd, 1) := by decide +kernel
theorem dX7_spell_64 : decode cX7_spell 64 = .ok (.iload 8, 2) := by decide +kernel
theorem dX7_spell_66 : decode cX7_spell 66 = .ok (.iastore, 1) := by decide +kernel
theorem dX7_spell_67 : decode cX7_spell 67 = .ok (.aload_n 0, 1) := by decide +kernel
theorem dX7_spell_68 : decode cX7_spell 68 = .ok (.getfield 13, 3) := by decide +kernel
theorem dX7_spell_71 : decode cX7_spell 71 = .ok (.iload_n 1, 1) := by decide +kernel
theorem dX7_spell_72 : decode cX7_spell 72 = .ok (.bipush 7, 2) := by decide +kernel
theorem dX7_spell_74 : decode cX7_spell 74 = .ok (.iadd, 1) := by decide +kernel
theorem dX7_spell_75 : decode cX7_spell 75 = .ok (.iload 9, 2) := by decide +kernel
theorem dX7_spell_77 : decode cX7_spell 77 = .ok (.iastore, 1) := by decide +kernel
theorem dX7_spell_78 : decode cX7_spell 78 = .ok (.return_, 1) := by decide +kernel
theorem dX7_isSight_0 : decode cX7_isSight 0 = .ok (.iload_n 1, 1) := by decide +kernel
theorem dX7_isSight_1 : decode cX7_isSight 1 = .ok (.i2l, 1) := by decide +kernel
theorem dX7_isSight_2 : decode cX7_isSight 2 = .ok (.lconst 0, 1) := by decide +kernel
theorem dX7_isSight_3 : decode cX7_isSight 3 = .ok (.aload_n 0, 1) := by decide +kernel
theorem dX7_isSight_4 : decode cX7_isSight 4 = .ok (.getfield 70, 3) := by decide +kernel
theorem dX7_isSight_7 : decode cX7_isSight 7 = .ok (.iconst 1, 1) := by decide +kernel
theorem dX7_isSight_8 : decode cX7_isSight 8 = .ok (.isub, 1) := by decide +kernel
theorem dX7_isSight_9 : decode cX7_isSight 9 = .ok (.i2l, 1) := by decide +kernel
theorem dX7_isSight_10 : decode cX7_isSight 10 = .ok (.invokestatic 73, 3) := by decide +kernel
theorem dX7_isSight_13 : decode cX7_isSight 13 = .ok (.ireturn, 1) := by decide +kernel
theorem dX7_row_0 : decode cX7_row 0 = .ok (.aload_n 0, 1) := by decide +kernel
theorem dX7_row_1 : decode cX7_row 1 = .ok (.getfield 29, 3) := by decide +kernel
theorem dX7_row_4 : decode cX7_row 4 = .ok (.iconst 5, 1) := by decide +kernel
theorem dX7_row_5 : decode cX7_row 5 = .ok (.iload_n 1, 1) := by decide +kernel
theorem dX7_row_6 : decode cX7_row 6 = .ok (.imul, 1) := by decide +kernel
theorem dX7_row_7 : decode cX7_row 7 = .ok (.iload_n 2, 1) := by decide +kernel
theorem dX7_row_8 : decode cX7_row 8 = .ok (.iadd, 1) := by decide +kernel
theorem dX7_row_9 : decode cX7_row 9 = .ok (.iaload, 1) := by decide +kernel
theorem dX7_row_10 : decode cX7_row 10 = .ok (.ireturn, 1) := by decide +kernel
theorem dX7_mostOf_0 : decode cX7_mostOf 0 = .ok (.iload_n 0, 1) := by decide +kernel
theorem dX7_mostOf_1 : decode cX7_mostOf 1 = .ok (.bipush 8, 2) := by decide +kernel
theorem dX7_mostOf_3 : decode cX7_mostOf 3 = .ok (.if_icmp .ge 27, 3) := by decide +kernel
theorem dX7_mostOf_6 : decode cX7_mostOf 6 = .ok (.iload_n 0, 1) := by decide +kernel
theorem dX7_mostOf_7 : decode cX7_mostOf 7 = .ok (.iconst 3, 1) := by decide +kernel
theorem dX7_mostOf_8 : decode cX7_mostOf 8 = .ok (.if_icmp .ge 8, 3) := by decide +kernel
theorem dX7_mostOf_11 : decode cX7_mostOf 11 = .ok (.bipush 9, 2) := by decide +kernel
theorem dX7_mostOf_13 : decode cX7_mostOf 13 = .ok (.goto 16, 3) := by decide +kernel
theorem dX7_mostOf_16 : decode cX7_mostOf 16 = .ok (.iload_n 0, 1) := by decide +kernel
theorem dX7_mostOf_17 : decode cX7_mostOf 17 = .ok (.iconst 5, 1) := by decide +kernel
theorem dX7_mostOf_18 : decode cX7_mostOf 18 = .ok (.if_icmp .ne 8, 3) := by decide +kernel
theorem dX7_mostOf_21 : decode cX7_mostOf 21 = .ok (.bipush 99, 2) := by decide +kernel
theorem dX7_mostOf_23 : decode cX7_mostOf 23 = .ok (.goto 6, 3) := by decide +kernel
theorem dX7_mostOf_26 : decode cX7_mostOf 26 = .ok (.sipush 199, 3) := by decide +kernel
theorem dX7_mostOf_29 : decode cX7_mostOf 29 = .ok (.ireturn, 1) := by decide +kernel
theorem dX7_mostOf_30 : decode cX7_mostOf 30 = .ok (.iload_n 0, 1) := by decide +kernel
theorem dX7_mostOf_31 : decode cX7_mostOf 31 = .ok (.bipush 8, 2) := by decide +kernel
theorem dX7_mostOf_33 : decode cX7_mostOf 33 = .ok (.if_icmp .ne 8, 3) := by decide +kernel
theorem dX7_mostOf_36 : decode cX7_mostOf 36 = .ok (.bipush 9, 2) := by decide +kernel
theorem dX7_mostOf_38 : decode cX7_mostOf 38 = .ok (.goto 28, 3) := by decide +kernel
theorem dX7_mostOf_41 : decode cX7_mostOf 41 = .ok (.iload_n 0, 1) := by decide +kernel
theorem dX7_mostOf_42 : decode cX7_mostOf 42 = .ok (.bipush 9, 2) := by decide +kernel
theorem dX7_mostOf_44 : decode cX7_mostOf 44 = .ok (.if_icmp .ne 8, 3) := by decide +kernel
theorem dX7_mostOf_47 : decode cX7_mostOf 47 = .ok (.bipush 99, 2) := by decide +kernel
theorem dX7_mostOf_49 : decode cX7_mostOf 49 = .ok (.goto 17, 3) := by decide +kernel
theorem dX7_mostOf_52 : decode cX7_mostOf 52 = .ok (.iload_n 0, 1) := by decide +kernel
theorem dX7_mostOf_53 : decode cX7_mostOf 53 = .ok (.bipush 12, 2) := by decide +kernel
theorem dX7_mostOf_55 : decode cX7_mostOf 55 = .ok (.if_icmp .ne 8, 3) := by decide +kernel
theorem dX7_mostOf_58 : decode cX7_mostOf 58 = .ok (.bipush 99, 2) := by decide +kernel
theorem dX7_mostOf_60 : decode cX7_mostOf 60 = .ok (.goto 6, 3) := by decide +kernel
theorem dX7_mostOf_63 : decode cX7_mostOf 63 = .ok (.sipush 199, 3) := by decide +kernel
theorem dX7_mostOf_66 : decode cX7_mostOf 66 = .ok (.ireturn, 1) := by decide +kernel
theorem dX7_set_0 : decode cX7_set 0 = .ok (.iload_n 1, 1) := by decide +kernel
theorem dX7_set_1 : decode cX7_set 1 = .ok (.i2l, 1) := by decide +kernel
theorem dX7_set_2 : decode cX7_set 2 = .ok (.lconst 0, 1) := by decide +kernel
theorem dX7_set_3 : decode cX7_set 3 = .ok (.ldc2_w 77, 3) := by decide +kernel
theorem dX7_set_6 : decode cX7_set 6 = .ok (.invokestatic 73, 3) := by decide +kernel
theorem dX7_set_9 : decode cX7_set 9 = .ok (.ifCond .eq 31, 3) := by decide +kernel
theorem dX7_set_12 : decode cX7_set 12 = .ok (.iload_n 1, 1) := by decide +kernel
theorem dX7_set_13 : decode cX7_set 13 = .ok (.bipush 7, 2) := by decide +kernel
theorem dX7_set_15 : decode cX7_set 15 = .ok (.if_icmp .le 11, 3) := by decide +kernel
theorem dX7_set_18 : decode cX7_set 18 = .ok (.aload_n 0, 1) := by decide +kernel
theorem dX7_set_19 : decode cX7_set 19 = .ok (.iload_n 2, 1) := by decide +kernel
theorem dX7_set_20 : decode cX7_set 20 = .ok (.invokevirtual 79, 3) := by decide +kernel
theorem dX7_set_23 : decode cX7_set 23 = .ok (.ifCond .eq 17, 3) := by decide +kernel
theorem dX7_set_26 : decode cX7_set 26 = .ok (.iload_n 3, 1) := by decide +kernel
theorem dX7_set_27 : decode cX7_set 27 = .ok (.i2l, 1) := by decide +kernel
theorem dX7_set_28 : decode cX7_set 28 = .ok (.lconst 0, 1) := by decide +kernel
theorem dX7_set_29 : decode cX7_set 29 = .ok (.iload_n 1, 1) := by decide +kernel
theorem dX7_set_30 : decode cX7_set 30 = .ok (.invokestatic 83, 3) := by decide +kernel
theorem dX7_set_33 : decode cX7_set 33 = .ok (.i2l, 1) := by decide +kernel
theorem dX7_set_34 : decode cX7_set 34 = .ok (.invokestatic 73, 3) := by decide +kernel
theorem dX7_set_37 : decode cX7_set 37 = .ok (.ifCond .ne 6, 3) := by decide +kernel
theorem dX7_set_40 : decode cX7_set 40 = .ok (.bipush (-2), 2) := by decide +kernel
theorem dX7_set_42 : decode cX7_set 42 = .ok (.ireturn, 1) := by decide +kernel
theorem dX7_set_43 : decode cX7_set 43 = .ok (.iload_n 1, 1) := by decide +kernel
theorem dX7_set_44 : decode cX7_set 44 = .ok (.bipush 10, 2) := by decide +kernel
theorem dX7_set_46 : decode cX7_set 46 = .ok (.if_icmp .ne 13, 3) := by decide +kernel
theorem dX7_set_49 : decode cX7_set 49 = .ok (.iload_n 3, 1) := by decide +kernel
theorem dX7_set_50 : decode cX7_set 50 = .ok (.aload_n 0, 1) := by decide +kernel
theorem dX7_set_51 : decode cX7_set 51 = .ok (.iload_n 2, 1) := by decide +kernel
theorem dX7_set_52 : decode cX7_set 52 = .ok (.iconst 3, 1) := by decide +kernel
theorem dX7_set_53 : decode cX7_set 53 = .ok (.invokevirtual 87, 3) := by decide +kernel
theorem dX7_set_56 : decode cX7_set 56 = .ok (.if_icmp .gt 19, 3) := by decide +kernel
theorem dX7_set_59 : decode cX7_set 59 = .ok (.iload_n 1, 1) := by decide +kernel
theorem dX7_set_60 : decode cX7_set 60 = .ok (.bipush 11, 2) := by decide +kernel
theorem dX7_set_62 : decode cX7_set 62 = .ok (.if_icmp .ne 16, 3) := by decide +kernel
theorem dX7_set_65 : decode cX7_set 65 = .ok (.iload_n 3, 1) := by decide +kernel
theorem dX7_set_66 : decode cX7_set 66 = .ok (.aload_n 0, 1) := by decide +kernel
theorem dX7_set_67 : decode cX7_set 67 = .ok (.iload_n 2, 1) := by decide +kernel
theorem dX7_set_68 : decode cX7_set 68 = .ok (.iconst 2, 1) := by decide +kernel
theorem dX7_set_69 : decode cX7_set 69 = .ok (.invokevirtual 87, 3) := by decide +kernel
theorem dX7_set_72 : decode cX7_set 72 = .ok (.if_icmp .ge 6, 3) := by decide +kernel
theorem dX7_set_75 : decode cX7_set 75 = .ok (.bipush (-2), 2) := by decide +kernel
theorem dX7_set_77 : decode cX7_set 77 = .ok (.ireturn, 1) := by decide +kernel
theorem dX7_set_78 : decode cX7_set 78 = .ok (.aload_n 0, 1) := by decide +kernel
theorem dX7_set_79 : decode cX7_set 79 = .ok (.iload_n 2, 1) := by decide +kernel
theorem dX7_set_80 : decode cX7_set 80 = .ok (.iload_n 1, 1) := by decide +kernel
theorem dX7_set_81 : decode cX7_set 81 = .ok (.invokevirtual 91, 3) := by decide +kernel
theorem dX7_set_84 : decode cX7_set 84 = .ok (.istore 4, 2) := by decide +kernel
theorem dX7_set_86 : decode cX7_set 86 = .ok (.iload_n 1, 1) := by decide +kernel
theorem dX7_set_87 : decode cX7_set 87 = .ok (.bipush 8, 2) := by decide +kernel
theorem dX7_set_89 : decode cX7_set 89 = .ok (.if_icmp .ge 13, 3) := by decide +kernel
theorem dX7_set_92 : decode cX7_set 92 = .ok (.aload_n 0, 1) := by decide +kernel
theorem dX7_set_93 : decode cX7_set 93 = .ok (.getfield 23, 3) := by decide +kernel
theorem dX7_set_96 : decode cX7_set 96 = .ok (.iload_n 1, 1) := by decide +kernel
theorem dX7_set_97 : decode cX7_set 97 = .ok (.iload_n 3, 1) := by decide +kernel
theorem dX7_set_98 : decode cX7_set 98 = .ok (.iastore, 1) := by decide +kernel
theorem dX7_set_99 : decode cX7_set 99 = .ok (.goto 17, 3) := by decide +kernel
theorem dX7_set_102 : decode cX7_set 102 = .ok (.aload_n 0, 1) := by decide +kernel
theorem dX7_set_103 : decode cX7_set 103 = .ok (.getfield 29, 3) := by decide +kernel
theorem dX7_set_106 : decode cX7_set 106 = .ok (.iconst 5, 1) := by decide +kernel
theorem dX7_set_107 : decode cX7_set 107 = .ok (.iload_n 2, 1) := by decide +kernel
theorem dX7_set_108 : decode cX7_set 108 = .ok (.imul, 1) := by decide +kernel
theorem dX7_set_109 : decode cX7_set 109 = .ok (.iload_n 1, 1) := by decide +kernel
theorem dX7_set_110 : decode cX7_set 110 = .ok (.iadd, 1) := by decide +kernel
theorem dX7_set_111 : decode cX7_set 111 = .ok (.bipush 8, 2) := by decide +kernel
theorem dX7_set_113 : decode cX7_set 113 = .ok (.isub, 1) := by decide +kernel
theorem dX7_set_114 : decode cX7_set 114 = .ok (.iload_n 3, 1) := by decide +kernel
theorem dX7_set_115 : decode cX7_set 115 = .ok (.iastore, 1) := by decide +kernel
theorem dX7_set_116 : decode cX7_set 116 = .ok (.iload 4, 2) := by decide +kernel
theorem dX7_set_118 : decode cX7_set 118 = .ok (.ireturn, 1) := by decide +kernel
theorem dX7_sight_0 : decode cX7_sight 0 = .ok (.iload_n 1, 1) := by decide +kernel
theorem dX7_sight_1 : decode cX7_sight 1 = .ok (.i2l, 1) := by decide +kernel
theorem dX7_sight_2 : decode cX7_sight 2 = .ok (.lconst 0, 1) := by decide +kernel
theorem dX7_sight_3 : decode cX7_sight 3 = .ok (.ldc2_w 94, 3) := by decide +kernel
theorem dX7_sight_6 : decode cX7_sight 6 = .ok (.invokestatic 73, 3) := by decide +kernel
theorem dX7_sight_9 : decode cX7_sight 9 = .ok (.ifCond .eq 27, 3) := by decide +kernel
theorem dX7_sight_12 : decode cX7_sight 12 = .ok (.iload_n 2, 1) := by decide +kernel
theorem dX7_sight_13 : decode cX7_sight 13 = .ok (.i2l, 1) := by decide +kernel
theorem dX7_sight_14 : decode cX7_sight 14 = .ok (.lconst 0, 1) := by decide +kernel
theorem dX7_sight_15 : decode cX7_sight 15 = .ok (.ldc2_w 96, 3) := by decide +kernel
theorem dX7_sight_18 : decode cX7_sight 18 = .ok (.invokestatic 73, 3) := by decide +kernel
theorem dX7_sight_21 : decode cX7_sight 21 = .ok (.ifCond .eq 15, 3) := by decide +kernel
theorem dX7_sight_24 : decode cX7_sight 24 = .ok (.iload_n 3, 1) := by decide +kernel
theorem dX7_sight_25 : decode cX7_sight 25 = .ok (.i2l, 1) := by decide +kernel
theorem dX7_sight_26 : decode cX7_sight 26 = .ok (.lconst 0, 1) := by decide +kernel
theorem dX7_sight_27 : decode cX7_sight 27 = .ok (.ldc2_w 98, 3) := by decide +kernel
theorem dX7_sight_30 : decode cX7_sight 30 = .ok (.invokestatic 73, 3) := by decide +kernel
theorem dX7_sight_33 : decode cX7_sight 33 = .ok (.ifCond .ne 6, 3) := by decide +kernel
theorem dX7_sight_36 : decode cX7_sight 36 = .ok (.bipush (-2), 2) := by decide +kernel
theorem dX7_sight_38 : decode cX7_sight 38 = .ok (.ireturn, 1) := by decide +kernel
theorem dX7_sight_39 : decode cX7_sight 39 = .ok (.aload_n 0, 1) := by decide +kernel
theorem dX7_sight_40 : decode cX7_sight 40 = .ok (.getfield 70, 3) := by decide +kernel
theorem dX7_sight_43 : decode cX7_sight 43 = .ok (.bipush 7, 2) := by decide +kernel
theorem dX7_sight_45 : decode cX7_sight 45 = .ok (.if_icmp .ne 6, 3) := by decide +kernel
theorem dX7_sight_48 : decode cX7_sight 48 = .ok (.bipush (-4), 2) := by decide +kernel
theorem dX7_sight_50 : decode cX7_sight 50 = .ok (.ireturn, 1) := by decide +kernel
theorem dX7_sight_51 : decode cX7_sight 51 = .ok (.iconst 5, 1) := by decide +kernel
theorem dX7_sight_52 : decode cX7_sight 52 = .ok (.aload_n 0, 1) := by decide +kernel
theorem dX7_sight_53 : decode cX7_sight 53 = .ok (.getfield 70, 3) := by decide +kernel
theorem dX7_sight_56 : decode cX7_sight 56 = .ok (.imul, 1) := by decide +kernel
theorem dX7_sight_57 : decode cX7_sight 57 = .ok (.istore 4, 2) := by decide +kernel
theorem dX7_sight_59 : decode cX7_sight 59 = .ok (.aload_n 0, 1) := by decide +kernel
theorem dX7_sight_60 : decode cX7_sight 60 = .ok (.getfield 26, 3) := by decide +kernel
theorem dX7_sight_63 : decode cX7_sight 63 = .ok (.aload_n 0, 1) := by decide +kernel
theorem dX7_sight_64 : decode cX7_sight 64 = .ok (.getfield 70, 3) := by decide +kernel
theorem dX7_sight_67 : decode cX7_sight 67 = .ok (.iload_n 1, 1) := by decide +kernel
theorem dX7_sight_68 : decode cX7_sight 68 = .ok (.iastore, 1) := by decide +kernel
theorem dX7_sight_69 : decode cX7_sight 69 = .ok (.aload_n 0, 1) := by decide +kernel
theorem dX7_sight_70 : decode cX7_sight 70 = .ok (.getfield 29, 3) := by decide +kernel
theorem dX7_sight_73 : decode cX7_sight 73 = .ok (.iload 4, 2) := by decide +kernel
theorem dX7_sight_75 : decode cX7_sight 75 = .ok (.iload_n 2, 1) := by decide +kernel
theorem dX7_sight_76 : decode cX7_sight 76 = .ok (.iastore, 1) := by decide +kernel
theorem dX7_sight_77 : decode cX7_sight 77 = .ok (.aload_n 0, 1) := by decide +kernel
theorem dX7_sight_78 : decode cX7_sight 78 = .ok (.getfield 29, 3) := by decide +kernel
theorem dX7_sight_81 : decode cX7_sight 81 = .ok (.iload 4, 2) := by decide +kernel
theorem dX7_sight_83 : decode cX7_sight 83 = .ok (.iconst 1, 1) := by decide +kernel
theorem dX7_sight_84 : decode cX7_sight 84 = .ok (.iadd, 1) := by decide +kernel
theorem dX7_sight_85 : decode cX7_sight 85 = .ok (.iload_n 3, 1) := by decide +kernel
theorem dX7_sight_86 : decode cX7_sight 86 = .ok (.iastore, 1) := by decide +kernel
theorem dX7_sight_87 : decode cX7_sight 87 = .ok (.aload_n 0, 1) := by decide +kernel
theorem dX7_sight_88 : decode cX7_sight 88 = .ok (.getfield 29, 3) := by decide +kernel
theorem dX7_sight_91 : decode cX7_sight 91 = .ok (.iload 4, 2) := by decide +kernel
theorem dX7_sight_93 : decode cX7_sight 93 = .ok (.iconst 2, 1) := by decide +kernel
theorem dX7_sight_94 : decode cX7_sight 94 = .ok (.iadd, 1) := by decide +kernel
theorem dX7_sight_95 : decode cX7_sight 95 = .ok (.iconst 0, 1) := by decide +kernel
theorem dX7_sight_96 : decode cX7_sight 96 = .ok (.iastore, 1) := by decide +kernel
theorem dX7_sight_97 : decode cX7_sight 97 = .ok (.aload_n 0, 1) := by decide +kernel
theorem dX7_sight_98 : decode cX7_sight 98 = .ok (.getfield 29, 3) := by decide +kernel
theorem dX7_sight_101 : decode cX7_sight 101 = .ok (.iload 4, 2) := by decide +kernel
theorem dX7_sight_103 : decode cX7_sight 103 = .ok (.iconst 3, 1) := by decide +kernel
theorem dX7_sight_104 : decode cX7_sight 104 = .ok (.iadd, 1) := by decide +kernel
theorem dX7_sight_105 : decode cX7_sight 105 = .ok (.sipush 199, 3) := by decide +kernel
theorem dX7_sight_108 : decode cX7_sight 108 = .ok (.iastore, 1) := by decide +kernel
theorem dX7_sight_109 : decode cX7_sight 109 = .ok (.aload_n 0, 1) := by decide +kernel
theorem dX7_sight_110 : decode cX7_sight 110 = .ok (.getfield 29, 3) := by decide +kernel
theorem dX7_sight_113 : decode cX7_sight 113 = .ok (.iload 4, 2) := by decide +kernel
theorem dX7_sight_115 : decode cX7_sight 115 = .ok (.iconst 4, 1) := by decide +kernel
theorem dX7_sight_116 : decode cX7_sight 116 = .ok (.iadd, 1) := by decide +kernel
theorem dX7_sight_117 : decode cX7_sight 117 = .ok (.bipush 10, 2) := by decide +kernel
theorem dX7_sight_119 : decode cX7_sight 119 = .ok (.iastore, 1) := by decide +kernel
theorem dX7_sight_120 : decode cX7_sight 120 = .ok (.aload_n 0, 1) := by decide +kernel
theorem dX7_sight_121 : decode cX7_sight 121 = .ok (.dup, 1) := by decide +kernel
theorem dX7_sight_122 : decode cX7_sight 122 = .ok (.getfield 70, 3) := by decide +kernel
theorem dX7_sight_125 : decode cX7_sight 125 = .ok (.iconst 1, 1) := by decide +kernel
theorem dX7_sight_126 : decode cX7_sight 126 = .ok (.iadd, 1) := by decide +kernel
theorem dX7_sight_127 : decode cX7_sight 127 = .ok (.putfield 70, 3) := by decide +kernel
theorem dX7_sight_130 : decode cX7_sight 130 = .ok (.aload_n 0, 1) := by decide +kernel
theorem dX7_sight_131 : decode cX7_sight 131 = .ok (.getfield 70, 3) := by decide +kernel
theorem dX7_sight_134 : decode cX7_sight 134 = .ok (.iconst 1, 1) := by decide +kernel
theorem dX7_sight_135 : decode cX7_sight 135 = .ok (.isub, 1) := by decide +kernel
theorem dX7_sight_136 : decode cX7_sight 136 = .ok (.ireturn, 1) := by decide +kernel
theorem dX7_paysOf_0 : decode cX7_paysOf 0 = .ok (.aload_n 0, 1) := by decide +kernel
theorem dX7_paysOf_1 : decode cX7_paysOf 1 = .ok (.getfield 26, 3) := by decide +kernel
theorem dX7_paysOf_4 : decode cX7_paysOf 4 = .ok (.iload_n 1, 1) := by decide +kernel
theorem dX7_paysOf_5 : decode cX7_paysOf 5 = .ok (.iaload, 1) := by decide +kernel
theorem dX7_paysOf_6 : decode cX7_paysOf 6 = .ok (.istore_n 2, 1) := by decide +kernel
theorem dX7_paysOf_7 : decode cX7_paysOf 7 = .ok (.aload_n 0, 1) := by decide +kernel
theorem dX7_paysOf_8 : decode cX7_paysOf 8 = .ok (.iload_n 1, 1) := by decide +kernel
theorem dX7_paysOf_9 : decode cX7_paysOf 9 = .ok (.iconst 4, 1) := by decide +kernel
theorem dX7_paysOf_10 : decode cX7_paysOf 10 = .ok (.invokevirtual 87, 3) := by decide +kernel
theorem dX7_paysOf_13 : decode cX7_paysOf 13 = .ok (.aload_n 0, 1) := by decide +kernel
theorem dX7_paysOf_14 : decode cX7_paysOf 14 = .ok (.iload_n 1, 1) := by decide +kernel
theorem dX7_paysOf_15 : decode cX7_paysOf 15 = .ok (.iconst 0, 1) := by decide +kernel
theorem dX7_paysOf_16 : decode cX7_paysOf 16 = .ok (.invokevirtual 87, 3) := by decide +kernel
theorem dX7_paysOf_19 : decode cX7_paysOf 19 = .ok (.iadd, 1) := by decide +kernel
theorem dX7_paysOf_20 : decode cX7_paysOf 20 = .ok (.istore_n 3, 1) := by decide +kernel
theorem dX7_paysOf_21 : decode cX7_paysOf 21 = .ok (.iload_n 2, 1) := by decide +kernel
theorem dX7_paysOf_22 : decode cX7_paysOf 22 = .ok (.iconst 1, 1) := by decide +kernel
theorem dX7_paysOf_23 : decode cX7_paysOf 23 = .ok (.if_icmp .ne 7, 3) := by decide +kernel
theorem dX7_paysOf_26 : decode cX7_paysOf 26 = .ok (.iload_n 3, 1) := by decide +kernel
theorem dX7_paysOf_27 : decode cX7_paysOf 27 = .ok (.goto 36, 3) := by decide +kernel
theorem dX7_paysOf_30 : decode cX7_paysOf 30 = .ok (.iload_n 2, 1) := by decide +kernel
theorem dX7_paysOf_31 : decode cX7_paysOf 31 = .ok (.iconst 3, 1) := by decide +kernel
theorem dX7_paysOf_32 : decode cX7_paysOf 32 = .ok (.if_icmp .ne 9, 3) := by decide +kernel
theorem dX7_paysOf_35 : decode cX7_paysOf 35 = .ok (.iconst 2, 1) := by decide +kernel
theorem dX7_paysOf_36 : decode cX7_paysOf 36 = .ok (.iload_n 3, 1) := by decide +kernel
theorem dX7_paysOf_37 : decode cX7_paysOf 37 = .ok (.imul, 1) := by decide +kernel
theorem dX7_paysOf_38 : decode cX7_paysOf 38 = .ok (.goto 25, 3) := by decide +kernel
theorem dX7_paysOf_41 : decode cX7_paysOf 41 = .ok (.iload_n 2, 1) := by decide +kernel
theorem dX7_paysOf_42 : decode cX7_paysOf 42 = .ok (.iconst 4, 1) := by decide +kernel
theorem dX7_paysOf_43 : decode cX7_paysOf 43 = .ok (.if_icmp .ne 14, 3) := by decide +kernel
theorem dX7_paysOf_46 : decode cX7_paysOf 46 = .ok (.aload_n 0, 1) := by decide +kernel
theorem dX7_paysOf_47 : decode cX7_paysOf 47 = .ok (.iload_n 1, 1) := by decide +kernel
theorem dX7_paysOf_48 : decode cX7_paysOf 48 = .ok (.iconst 4, 1) := by decide +kernel
theorem dX7_paysOf_49 : decode cX7_paysOf 49 = .ok (.invokevirtual 87, 3) := by decide +kernel
theorem dX7_paysOf_52 : decode cX7_paysOf 52 = .ok (.iconst 1, 1) := by decide +kernel
theorem dX7_paysOf_53 : decode cX7_paysOf 53 = .ok (.iadd, 1) := by decide +kernel
theorem dX7_paysOf_54 : decode cX7_paysOf 54 = .ok (.goto 9, 3) := by decide +kernel
theorem dX7_paysOf_57 : decode cX7_paysOf 57 = .ok (.aload_n 0, 1) := by decide +kernel
theorem dX7_paysOf_58 : decode cX7_paysOf 58 = .ok (.iload_n 1, 1) := by decide +kernel
theorem dX7_paysOf_59 : decode cX7_paysOf 59 = .ok (.iconst 4, 1) := by decide +kernel
theorem dX7_paysOf_60 : decode cX7_paysOf 60 = .ok (.invokevirtual 87, 3) := by decide +kernel
theorem dX7_paysOf_63 : decode cX7_paysOf 63 = .ok (.ireturn, 1) := by decide +kernel
theorem dX7_told_0 : decode cX7_told 0 = .ok (.iload_n 2, 1) := by decide +kernel
theorem dX7_told_1 : decode cX7_told 1 = .ok (.i2l, 1) := by decide +kernel
theorem dX7_told_2 : decode cX7_told 2 = .ok (.lconst 0, 1) := by decide +kernel
theorem dX7_told_3 : decode cX7_told 3 = .ok (.ldc2_w 100, 3) := by decide +kernel
theorem dX7_told_6 : decode cX7_told 6 = .ok (.invokestatic 73, 3) := by decide +kernel
theorem dX7_told_9 : decode cX7_told 9 = .ok (.ifCond .eq 17, 3) := by decide +kernel
theorem dX7_told_12 : decode cX7_told 12 = .ok (.iload_n 2, 1) := by decide +kernel
theorem dX7_told_13 : decode cX7_told 13 = .ok (.bipush 7, 2) := by decide +kernel
theorem dX7_told_15 : decode cX7_told 15 = .ok (.if_icmp .le 14, 3) := by decide +kernel
theorem dX7_told_18 : decode cX7_told 18 = .ok (.aload_n 0, 1) := by decide +kernel
theorem dX7_told_19 : decode cX7_told 19 = .ok (.iload_n 1, 1) := by decide +kernel
theorem dX7_told_20 : decode cX7_told 20 = .ok (.invokevirtual 79, 3) := by decide +kernel
theorem dX7_told_23 : decode cX7_told 23 = .ok (.ifCond .ne 6, 3) := by decide +kernel
theorem dX7_told_26 : decode cX7_told 26 = .ok (.bipush (-2), 2) := by decide +kernel
theorem dX7_told_28 : decode cX7_told 28 = .ok (.ireturn, 1) := by decide +kernel
theorem dX7_told_29 : decode cX7_told 29 = .ok (.iload_n 2, 1) := by decide +kernel
theorem dX7_told_30 : decode cX7_told 30 = .ok (.bipush 8, 2) := by decide +kernel
theorem dX7_told_32 : decode cX7_told 32 = .ok (.if_icmp .ge 12, 3) := by decide +kernel
theorem dX7_told_35 : decode cX7_told 35 = .ok (.aload_n 0, 1) := by decide +kernel
theorem dX7_told_36 : decode cX7_told 36 = .ok (.getfield 23, 3) := by decide +kernel
theorem dX7_told_39 : decode cX7_told 39 = .ok (.iload_n 2, 1) := by decide +kernel
theorem dX7_told_40 : decode cX7_told 40 = .ok (.iaload, 1) := by decide +kernel
theorem dX7_told_41 : decode cX7_told 41 = .ok (.goto 41, 3) := by decide +kernel
theorem dX7_told_44 : decode cX7_told 44 = .ok (.iload_n 2, 1) := by decide +kernel
theorem dX7_told_45 : decode cX7_told 45 = .ok (.bipush 13, 2) := by decide +kernel
theorem dX7_told_47 : decode cX7_told 47 = .ok (.if_icmp .ge 15, 3) := by decide +kernel
theorem dX7_told_50 : decode cX7_told 50 = .ok (.aload_n 0, 1) := by decide +kernel
theorem dX7_told_51 : decode cX7_told 51 = .ok (.iload_n 1, 1) := by decide +kernel
theorem dX7_told_52 : decode cX7_told 52 = .ok (.iload_n 2, 1) := by decide +kernel
theorem dX7_told_53 : decode cX7_told 53 = .ok (.bipush 8, 2) := by decide +kernel
theorem dX7_told_55 : decode cX7_told 55 = .ok (.isub, 1) := by decide +kernel
theorem dX7_told_56 : decode cX7_told 56 = .ok (.invokevirtual 87, 3) := by decide +kernel
theorem dX7_told_59 : decode cX7_told 59 = .ok (.goto 23, 3) := by decide +kernel
theorem dX7_told_62 : decode cX7_told 62 = .ok (.iload_n 2, 1) := by decide +kernel
theorem dX7_told_63 : decode cX7_told 63 = .ok (.bipush 13, 2) := by decide +kernel
theorem dX7_told_65 : decode cX7_told 65 = .ok (.if_icmp .ne 12, 3) := by decide +kernel
theorem dX7_told_68 : decode cX7_told 68 = .ok (.aload_n 0, 1) := by decide +kernel
theorem dX7_told_69 : decode cX7_told 69 = .ok (.getfield 26, 3) := by decide +kernel
theorem dX7_told_72 : decode cX7_told 72 = .ok (.iload_n 1, 1) := by decide +kernel
theorem dX7_told_73 : decode cX7_told 73 = .ok (.iaload, 1) := by decide +kernel
theorem dX7_told_74 : decode cX7_told 74 = .ok (.goto 8, 3) := by decide +kernel
theorem dX7_told_77 : decode cX7_told 77 = .ok (.aload_n 0, 1) := by decide +kernel
theorem dX7_told_78 : decode cX7_told 78 = .ok (.iload_n 1, 1) := by decide +kernel
theorem dX7_told_79 : decode cX7_told 79 = .ok (.invokevirtual 102, 3) := by decide +kernel
theorem dX7_told_82 : decode cX7_told 82 = .ok (.ireturn, 1) := by decide +kernel
theorem dX7_isUp_0 : decode cX7_isUp 0 = .ok (.aload_n 0, 1) := by decide +kernel
theorem dX7_isUp_1 : decode cX7_isUp 1 = .ok (.getfield 26, 3) := by decide +kernel
theorem dX7_isUp_4 : decode cX7_isUp 4 = .ok (.iload_n 1, 1) := by decide +kernel
theorem dX7_isUp_5 : decode cX7_isUp 5 = .ok (.iaload, 1) := by decide +kernel
theorem dX7_isUp_6 : decode cX7_isUp 6 = .ok (.istore_n 3, 1) := by decide +kernel
theorem dX7_isUp_7 : decode cX7_isUp 7 = .ok (.aload_n 0, 1) := by decide +kernel
theorem dX7_isUp_8 : decode cX7_isUp 8 = .ok (.iload_n 1, 1) := by decide +kernel
theorem dX7_isUp_9 : decode cX7_isUp 9 = .ok (.iconst 0, 1) := by decide +kernel
theorem dX7_isUp_10 : decode cX7_isUp 10 = .ok (.invokevirtual 87, 3) := by decide +kernel
theorem dX7_isUp_13 : decode cX7_isUp 13 = .ok (.istore 4, 2) := by decide +kernel
theorem dX7_isUp_15 : decode cX7_isUp 15 = .ok (.iload_n 2, 1) := by decide +kernel
theorem dX7_isUp_16 : decode cX7_isUp 16 = .ok (.i2l, 1) := by decide +kernel
theorem dX7_isUp_17 : decode cX7_isUp 17 = .ok (.aload_n 0, 1) := by decide +kernel
theorem dX7_isUp_18 : decode cX7_isUp 18 = .ok (.iload_n 1, 1) := by decide +kernel
theorem dX7_isUp_19 : decode cX7_isUp 19 = .ok (.iconst 2, 1) := by decide +kernel
theorem dX7_isUp_20 : decode cX7_isUp 20 = .ok (.invokevirtual 87, 3) := by decide +kernel
theorem dX7_isUp_23 : decode cX7_isUp 23 = .ok (.i2l, 1) := by decide +kernel
theorem dX7_isUp_24 : decode cX7_isUp 24 = .ok (.aload_n 0, 1) := by decide +kernel
theorem dX7_isUp_25 : decode cX7_isUp 25 = .ok (.iload_n 1, 1) := by decide +kernel
theorem dX7_isUp_26 : decode cX7_isUp 26 = .ok (.iconst 3, 1) := by decide +kernel
theorem dX7_isUp_27 : decode cX7_isUp 27 = .ok (.invokevirtual 87, 3) := by decide +kernel
theorem dX7_isUp_30 : decode cX7_isUp 30 = .ok (.i2l, 1) := by decide +kernel
theorem dX7_isUp_31 : decode cX7_isUp 31 = .ok (.invokestatic 73, 3) := by decide +kernel
theorem dX7_isUp_34 : decode cX7_isUp 34 = .ok (.istore 5, 2) := by decide +kernel
theorem dX7_isUp_36 : decode cX7_isUp 36 = .ok (.iload_n 3, 1) := by decide +kernel
theorem dX7_isUp_37 : decode cX7_isUp 37 = .ok (.iconst 1, 1) := by decide +kernel
theorem dX7_isUp_38 : decode cX7_isUp 38 = .ok (.if_icmp .eq 8, 3) := by decide +kernel
theorem dX7_isUp_41 : decode cX7_isUp 41 = .ok (.iload_n 3, 1) := by decide +kernel
theorem dX7_isUp_42 : decode cX7_isUp 42 = .ok (.iconst 3, 1) := by decide +kernel
theorem dX7_isUp_43 : decode cX7_isUp 43 = .ok (.if_icmp .ne 27, 3) := by decide +kernel
theorem dX7_isUp_46 : decode cX7_isUp 46 = .ok (.iload 5, 2) := by decide +kernel
theorem dX7_isUp_48 : decode cX7_isUp 48 = .ok (.ifCond .eq 20, 3) := by decide +kernel
theorem dX7_isUp_51 : decode cX7_isUp 51 = .ok (.iload_n 2, 1) := by decide +kernel
theorem dX7_isUp_52 : decode cX7_isUp 52 = .ok (.aload_n 0, 1) := by decide +kernel
theorem dX7_isUp_53 : decode cX7_isUp 53 = .ok (.iload_n 1, 1) := by decide +kernel
theorem dX7_isUp_54 : decode cX7_isUp 54 = .ok (.iconst 2, 1) := by decide +kernel
theorem dX7_isUp_55 : decode cX7_isUp 55 = .ok (.invokevirtual 87, 3) := by decide +kernel
theorem dX7_isUp_58 : decode cX7_isUp 58 = .ok (.iload 4, 2) := by decide +kernel
theorem dX7_isUp_60 : decode cX7_isUp 60 = .ok (.iadd, 1) := by decide +kernel
theorem dX7_isUp_61 : decode cX7_isUp 61 = .ok (.if_icmp .lt 7, 3) := by decide +kernel
theorem dX7_isUp_64 : decode cX7_isUp 64 = .ok (.iconst 1, 1) := by decide +kernel
theorem dX7_isUp_65 : decode cX7_isUp 65 = .ok (.goto 4, 3) := by decide +kernel
theorem dX7_isUp_68 : decode cX7_isUp 68 = .ok (.iconst 0, 1) := by decide +kernel
theorem dX7_isUp_69 : decode cX7_isUp 69 = .ok (.ireturn, 1) := by decide +kernel
theorem dX7_isUp_70 : decode cX7_isUp 70 = .ok (.iload_n 3, 1) := by decide +kernel
theorem dX7_isUp_71 : decode cX7_isUp 71 = .ok (.iconst 2, 1) := by decide +kernel
theorem dX7_isUp_72 : decode cX7_isUp 72 = .ok (.if_icmp .eq 8, 3) := by decide +kernel
theorem dX7_isUp_75 : decode cX7_isUp 75 = .ok (.iload_n 3, 1) := by decide +kernel
theorem dX7_isUp_76 : decode cX7_isUp 76 = .ok (.iconst 4, 1) := by decide +kernel
theorem dX7_isUp_77 : decode cX7_isUp 77 = .ok (.if_icmp .ne 26, 3) := by decide +kernel
theorem dX7_isUp_80 : decode cX7_isUp 80 = .ok (.iload_n 2, 1) := by decide +kernel
theorem dX7_isUp_81 : decode cX7_isUp 81 = .ok (.i2l, 1) := by decide +kernel
theorem dX7_isUp_82 : decode cX7_isUp 82 = .ok (.aload_n 0, 1) := by decide +kernel
theorem dX7_isUp_83 : decode cX7_isUp 83 = .ok (.iload_n 1, 1) := by decide +kernel
theorem dX7_isUp_84 : decode cX7_isUp 84 = .ok (.iconst 2, 1) := by decide +kernel
theorem dX7_isUp_85 : decode cX7_isUp 85 = .ok (.invokevirtual 87, 3) := by decide +kernel
theorem dX7_isUp_88 : decode cX7_isUp 88 = .ok (.i2l, 1) := by decide +kernel
theorem dX7_isUp_89 : decode cX7_isUp 89 = .ok (.aload_n 0, 1) := by decide +kernel
theorem dX7_isUp_90 : decode cX7_isUp 90 = .ok (.iload_n 1, 1) := by decide +kernel
theorem dX7_isUp_91 : decode cX7_isUp 91 = .ok (.iconst 3, 1) := by decide +kernel
theorem dX7_isUp_92 : decode cX7_isUp 92 = .ok (.invokevirtual 87, 3) := by decide +kernel
theorem dX7_isUp_95 : decode cX7_isUp 95 = .ok (.iload 4, 2) := by decide +kernel
theorem dX7_isUp_97 : decode cX7_isUp 97 = .ok (.iadd, 1) := by decide +kernel
theorem dX7_isUp_98 : decode cX7_isUp 98 = .ok (.i2l, 1) := by decide +kernel
theorem dX7_isUp_99 : decode cX7_isUp 99 = .ok (.invokestatic 73, 3) := by decide +kernel
theorem dX7_isUp_102 : decode cX7_isUp 102 = .ok (.ireturn, 1) := by decide +kernel
theorem dX7_isUp_103 : decode cX7_isUp 103 = .ok (.iload 5, 2) := by decide +kernel
theorem dX7_isUp_105 : decode cX7_isUp 105 = .ok (.ifCond .eq 21, 3) := by decide +kernel
theorem dX7_isUp_108 : decode cX7_isUp 108 = .ok (.iload_n 3, 1) := by decide +kernel
theorem dX7_isUp_109 : decode cX7_isUp 109 = .ok (.iconst 5, 1) := by decide +kernel
theorem dX7_isUp_110 : decode cX7_isUp 110 = .ok (.if_icmp .ne 12, 3) := by decide +kernel
theorem dX7_isUp_113 : decode cX7_isUp 113 = .ok (.iload_n 2, 1) := by decide +kernel
theorem dX7_isUp_114 : decode cX7_isUp 114 = .ok (.iload 4, 2) := by decide +kernel
theorem dX7_isUp_116 : decode cX7_isUp 116 = .ok (.iconst 2, 1) := by decide +kernel
theorem dX7_isUp_117 : decode cX7_isUp 117 = .ok (.iadd, 1) := by decide +kernel
theorem dX7_isUp_118 : decode cX7_isUp 118 = .ok (.irem, 1) := by decide +kernel
theorem dX7_isUp_119 : decode cX7_isUp 119 = .ok (.ifCond .eq 7, 3) := by decide +kernel
theorem dX7_isUp_122 : decode cX7_isUp 122 = .ok (.iconst 1, 1) := by decide +kernel
theorem dX7_isUp_123 : decode cX7_isUp 123 = .ok (.goto 4, 3) := by decide +kernel
theorem dX7_isUp_126 : decode cX7_isUp 126 = .ok (.iconst 0, 1) := by decide +kernel
theorem dX7_isUp_127 : decode cX7_isUp 127 = .ok (.ireturn, 1) := by decide +kernel
theorem dX7_isClouded_0 : decode cX7_isClouded 0 = .ok (.aload_n 0, 1) := by decide +kernel
theorem dX7_isClouded_1 : decode cX7_isClouded 1 = .ok (.getfield 105, 3) := by decide +kernel
theorem dX7_isClouded_4 : decode cX7_isClouded 4 = .ok (.ifCond .ne 59, 3) := by decide +kernel
theorem dX7_isClouded_7 : decode cX7_isClouded 7 = .ok (.aload_n 0, 1) := by decide +kernel
theorem dX7_isClouded_8 : decode cX7_isClouded 8 = .ok (.iload_n 1, 1) := by decide +kernel
theorem dX7_isClouded_9 : decode cX7_isClouded 9 = .ok (.iconst 1, 1) := by decide +kernel
theorem dX7_isClouded_10 : decode cX7_isClouded 10 = .ok (.invokevirtual 87, 3) := by decide +kernel
theorem dX7_isClouded_13 : decode cX7_isClouded 13 = .ok (.bipush 10, 2) := by decide +kernel
theorem dX7_isClouded_15 : decode cX7_isClouded 15 = .ok (.irem, 1) := by decide +kernel
theorem dX7_isClouded_16 : decode cX7_isClouded 16 = .ok (.i2l, 1) := by decide +kernel
theorem dX7_isClouded_17 : decode cX7_isClouded 17 = .ok (.aload_n 0, 1) := by decide +kernel
theorem dX7_isClouded_18 : decode cX7_isClouded 18 = .ok (.getfield 23, 3) := by decide +kernel
theorem dX7_isClouded_21 : decode cX7_isClouded 21 = .ok (.iconst 1, 1) := by decide +kernel
theorem dX7_isClouded_22 : decode cX7_isClouded 22 = .ok (.iaload, 1) := by decide +kernel
theorem dX7_isClouded_23 : decode cX7_isClouded 23 = .ok (.i2l, 1) := by decide +kernel
theorem dX7_isClouded_24 : decode cX7_isClouded 24 = .ok (.aload_n 0, 1) := by decide +kernel
theorem dX7_isClouded_25 : decode cX7_isClouded 25 = .ok (.getfield 23, 3) := by decide +kernel
theorem dX7_isClouded_28 : decode cX7_isClouded 28 = .ok (.iconst 2, 1) := by decide +kernel
theorem dX7_isClouded_29 : decode cX7_isClouded 29 = .ok (.iaload, 1) := by decide +kernel
theorem dX7_isClouded_30 : decode cX7_isClouded 30 = .ok (.i2l, 1) := by decide +kernel
theorem dX7_isClouded_31 : decode cX7_isClouded 31 = .ok (.invokestatic 73, 3) := by decide +kernel
theorem dX7_isClouded_34 : decode cX7_isClouded 34 = .ok (.ifCond .eq 29, 3) := by decide +kernel
theorem dX7_isClouded_37 : decode cX7_isClouded 37 = .ok (.iload_n 2, 1) := by decide +kernel
theorem dX7_isClouded_38 : decode cX7_isClouded 38 = .ok (.i2l, 1) := by decide +kernel
theorem dX7_isClouded_39 : decode cX7_isClouded 39 = .ok (.aload_n 0, 1) := by decide +kernel
theorem dX7_isClouded_40 : decode cX7_isClouded 40 = .ok (.getfield 23, 3) := by decide +kernel
theorem dX7_isClouded_43 : decode cX7_isClouded 43 = .ok (.iconst 3, 1) := by decide +kernel
theorem dX7_isClouded_44 : decode cX7_isClouded 44 = .ok (.iaload, 1) := by decide +kernel
theorem dX7_isClouded_45 : decode cX7_isClouded 45 = .ok (.i2l, 1) := by decide +kernel
theorem dX7_isClouded_46 : decode cX7_isClouded 46 = .ok (.aload_n 0, 1) := by decide +kernel
theorem dX7_isClouded_47 : decode cX7_isClouded 47 = .ok (.getfield 23, 3) := by decide +kernel
theorem dX7_isClouded_50 : decode cX7_isClouded 50 = .ok (.iconst 4, 1) := by decide +kernel
theorem dX7_isClouded_51 : decode cX7_isClouded 51 = .ok (.iaload, 1) := by decide +kernel
theorem dX7_isClouded_52 : decode cX7_isClouded 52 = .ok (.i2l, 1) := by decide +kernel
theorem dX7_isClouded_53 : decode cX7_isClouded 53 = .ok (.invokestatic 73, 3) := by decide +kernel
theorem dX7_isClouded_56 : decode cX7_isClouded 56 = .ok (.ifCond .eq 7, 3) := by decide +kernel
theorem dX7_isClouded_59 : decode cX7_isClouded 59 = .ok (.iconst 1, 1) := by decide +kernel
theorem dX7_isClouded_60 : decode cX7_isClouded 60 = .ok (.goto 4, 3) := by decide +kernel
theorem dX7_isClouded_63 : decode cX7_isClouded 63 = .ok (.iconst 0, 1) := by decide +kernel
theorem dX7_isClouded_64 : decode cX7_isClouded 64 = .ok (.ireturn, 1) := by decide +kernel
theorem dX7_shines_0 : decode cX7_shines 0 = .ok (.aload_n 0, 1) := by decide +kernel
theorem dX7_shines_1 : decode cX7_shines 1 = .ok (.iload_n 1, 1) := by decide +kernel
theorem dX7_shines_2 : decode cX7_shines 2 = .ok (.invokevirtual 79, 3) := by decide +kernel
theorem dX7_shines_5 : decode cX7_shines 5 = .ok (.ifCond .eq 25, 3) := by decide +kernel
theorem dX7_shines_8 : decode cX7_shines 8 = .ok (.iload_n 2, 1) := by decide +kernel
theorem dX7_shines_9 : decode cX7_shines 9 = .ok (.i2l, 1) := by decide +kernel
theorem dX7_shines_10 : decode cX7_shines 10 = .ok (.lconst 0, 1) := by decide +kernel
theorem dX7_shines_11 : decode cX7_shines 11 = .ok (.ldc2_w 109, 3) := by decide +kernel
theorem dX7_shines_14 : decode cX7_shines 14 = .ok (.invokestatic 73, 3) := by decide +kernel
theorem dX7_shines_17 : decode cX7_shines 17 = .ok (.ifCond .eq 13, 3) := by decide +kernel
theorem dX7_shines_20 : decode cX7_shines 20 = .ok (.iload_n 3, 1) := by decide +kernel
theorem dX7_shines_21 : decode cX7_shines 21 = .ok (.i2l, 1) := by decide +kernel
theorem dX7_shines_22 : decode cX7_shines 22 = .ok (.lconst 0, 1) := by decide +kernel
theorem dX7_shines_23 : decode cX7_shines 23 = .ok (.lconst 1, 1) := by decide +kernel
theorem dX7_shines_24 : decode cX7_shines 24 = .ok (.invokestatic 73, 3) := by decide +kernel
theorem dX7_shines_27 : decode cX7_shines 27 = .ok (.ifCond .ne 6, 3) := by decide +kernel
theorem dX7_shines_30 : decode cX7_shines 30 = .ok (.bipush (-2), 2) := by decide +kernel
theorem dX7_shines_32 : decode cX7_shines 32 = .ok (.ireturn, 1) := by decide +kernel
theorem dX7_shines_33 : decode cX7_shines 33 = .ok (.iload_n 3, 1) := by decide +kernel
theorem dX7_shines_34 : decode cX7_shines 34 = .ok (.ifCond .ne 20, 3) := by decide +kernel
theorem dX7_shines_37 : decode cX7_shines 37 = .ok (.aload_n 0, 1) := by decide +kernel
theorem dX7_shines_38 : decode cX7_shines 38 = .ok (.iload_n 1, 1) := by decide +kernel
theorem dX7_shines_39 : decode cX7_shines 39 = .ok (.iload_n 2, 1) := by decide +kernel
theorem dX7_shines_40 : decode cX7_shines 40 = .ok (.invokevirtual 111, 3) := by decide +kernel
theorem dX7_shines_43 : decode cX7_shines 43 = .ok (.ifCond .eq 7, 3) := by decide +kernel
theorem dX7_shines_46 : decode cX7_shines 46 = .ok (.iconst 1, 1) := by decide +kernel
theorem dX7_shines_47 : decode cX7_shines 47 = .ok (.goto 21, 3) := by decide +kernel
theorem dX7_shines_50 : decode cX7_shines 50 = .ok (.iconst 0, 1) := by decide +kernel
theorem dX7_shines_51 : decode cX7_shines 51 = .ok (.goto 17, 3) := by decide +kernel
theorem dX7_shines_54 : decode cX7_shines 54 = .ok (.aload_n 0, 1) := by decide +kernel
theorem dX7_shines_55 : decode cX7_shines 55 = .ok (.iload_n 1, 1) := by decide +kernel
theorem dX7_shines_56 : decode cX7_shines 56 = .ok (.iload_n 2, 1) := by decide +kernel
theorem dX7_shines_57 : decode cX7_shines 57 = .ok (.invokevirtual 115, 3) := by decide +kernel
theorem dX7_shines_60 : decode cX7_shines 60 = .ok (.ifCond .eq 7, 3) := by decide +kernel
theorem dX7_shines_63 : decode cX7_shines 63 = .ok (.iconst 1, 1) := by decide +kernel
theorem dX7_shines_64 : decode cX7_shines 64 = .ok (.goto 4, 3) := by decide +kernel
theorem dX7_shines_67 : decode cX7_shines 67 = .ok (.iconst 0, 1) := by decide +kernel
theorem dX7_shines_68 : decode cX7_shines 68 = .ok (.ireturn, 1) := by decide +kernel
theorem dX7_farOf_0 : decode cX7_farOf 0 = .ok (.iload_n 0, 1) := by decide +kernel
theorem dX7_farOf_1 : decode cX7_farOf 1 = .ok (.bipush 10, 2) := by decide +kernel
theorem dX7_farOf_3 : decode cX7_farOf 3 = .ok (.irem, 1) := by decide +kernel
theorem dX7_farOf_4 : decode cX7_farOf 4 = .ok (.iload_n 1, 1) := by decide +kernel
theorem dX7_farOf_5 : decode cX7_farOf 5 = .ok (.bipush 10, 2) := by decide +kernel
theorem dX7_farOf_7 : decode cX7_farOf 7 = .ok (.irem, 1) := by decide +kernel
theorem dX7_farOf_8 : decode cX7_farOf 8 = .ok (.isub, 1) := by decide +kernel
theorem dX7_farOf_9 : decode cX7_farOf 9 = .ok (.istore_n 2, 1) := by decide +kernel
theorem dX7_farOf_10 : decode cX7_farOf 10 = .ok (.iload_n 0, 1) := by decide +kernel
theorem dX7_farOf_11 : decode cX7_farOf 11 = .ok (.bipush 10, 2) := by decide +kernel
theorem dX7_farOf_13 : decode cX7_farOf 13 = .ok (.idiv, 1) := by decide +kernel
theorem dX7_farOf_14 : decode cX7_farOf 14 = .ok (.iload_n 1, 1) := by decide +kernel
theorem dX7_farOf_15 : decode cX7_farOf 15 = .ok (.bipush 10, 2) := by decide +kernel
theorem dX7_farOf_17 : decode cX7_farOf 17 = .ok (.idiv, 1) := by decide +kernel
theorem dX7_farOf_18 : decode cX7_farOf 18 = .ok (.isub, 1) := by decide +kernel
theorem dX7_farOf_19 : decode cX7_farOf 19 = .ok (.istore_n 3, 1) := by decide +kernel
theorem dX7_farOf_20 : decode cX7_farOf 20 = .ok (.iload_n 2, 1) := by decide +kernel
theorem dX7_farOf_21 : decode cX7_farOf 21 = .ok (.ifCond .ge 8, 3) := by decide +kernel
theorem dX7_farOf_24 : decode cX7_farOf 24 = .ok (.iload_n 2, 1) := by decide +kernel
theorem dX7_farOf_25 : decode cX7_farOf 25 = .ok (.ineg, 1) := by decide +kernel
theorem dX7_farOf_26 : decode cX7_farOf 26 = .ok (.goto 4, 3) := by decide +kernel
theorem dX7_farOf_29 : decode cX7_farOf 29 = .ok (.iload_n 2, 1) := by decide +kernel
theorem dX7_farOf_30 : decode cX7_farOf 30 = .ok (.istore 4, 2) := by decide +kernel
theorem dX7_farOf_32 : decode cX7_farOf 32 = .ok (.iload_n 3, 1) := by decide +kernel
theorem dX7_farOf_33 : decode cX7_farOf 33 = .ok (.ifCond .ge 8, 3) := by decide +kernel
theorem dX7_farOf_36 : decode cX7_farOf 36 = .ok (.iload_n 3, 1) := by decide +kernel
theorem dX7_farOf_37 : decode cX7_farOf 37 = .ok (.ineg, 1) := by decide +kernel
theorem dX7_farOf_38 : decode cX7_farOf 38 = .ok (.goto 4, 3) := by decide +kernel
theorem dX7_farOf_41 : decode cX7_farOf 41 = .ok (.iload_n 3, 1) := by decide +kernel
theorem dX7_farOf_42 : decode cX7_farOf 42 = .ok (.istore 5, 2) := by decide +kernel
theorem dX7_farOf_44 : decode cX7_farOf 44 = .ok (.iload 4, 2) := by decide +kernel
theorem dX7_farOf_46 : decode cX7_farOf 46 = .ok (.iload 5, 2) := by decide +kernel
theorem dX7_farOf_48 : decode cX7_farOf 48 = .ok (.if_icmp .le 8, 3) := by decide +kernel
theorem dX7_farOf_51 : decode cX7_farOf 51 = .ok (.iload 4, 2) := by decide +kernel
theorem dX7_farOf_53 : decode cX7_farOf 53 = .ok (.goto 5, 3) := by decide +kernel
theorem dX7_farOf_56 : decode cX7_farOf 56 = .ok (.iload 5, 2) := by decide +kernel
theorem dX7_farOf_58 : decode cX7_farOf 58 = .ok (.ireturn, 1) := by decide +kernel
theorem dX7_feed_0 : decode cX7_feed 0 = .ok (.iload_n 1, 1) := by decide +kernel
theorem dX7_feed_1 : decode cX7_feed 1 = .ok (.i2l, 1) := by decide +kernel
theorem dX7_feed_2 : decode cX7_feed 2 = .ok (.lconst 0, 1) := by decide +kernel
theorem dX7_feed_3 : decode cX7_feed 3 = .ok (.ldc2_w 118, 3) := by decide +kernel
theorem dX7_feed_6 : decode cX7_feed 6 = .ok (.invokestatic 73, 3) := by decide +kernel
theorem dX7_feed_9 : decode cX7_feed 9 = .ok (.ifCond .ne 6, 3) := by decide +kernel
theorem dX7_feed_12 : decode cX7_feed 12 = .ok (.bipush (-2), 2) := by decide +kernel
theorem dX7_feed_14 : decode cX7_feed 14 = .ok (.ireturn, 1) := by decide +kernel
theorem dX7_feed_15 : decode cX7_feed 15 = .ok (.aload_n 0, 1) := by decide +kernel
theorem dX7_feed_16 : decode cX7_feed 16 = .ok (.getfield 120, 3) := by decide +kernel
theorem dX7_feed_19 : decode cX7_feed 19 = .ok (.sipush 160, 3) := by decide +kernel
theorem dX7_feed_22 : decode cX7_feed 22 = .ok (.if_icmp .ne 6, 3) := by decide +kernel
theorem dX7_feed_25 : decode cX7_feed 25 = .ok (.bipush (-4), 2) := by decide +kernel
theorem dX7_feed_27 : decode cX7_feed 27 = .ok (.ireturn, 1) := by decide +kernel
theorem dX7_feed_28 : decode cX7_feed 28 = .ok (.aload_n 0, 1) := by decide +kernel
theorem dX7_feed_29 : decode cX7_feed 29 = .ok (.getfield 20, 3) := by decide +kernel
theorem dX7_feed_32 : decode cX7_feed 32 = .ok (.aload_n 0, 1) := by decide +kernel
theorem dX7_feed_33 : decode cX7_feed 33 = .ok (.getfield 120, 3) := by decide +kernel
theorem dX7_feed_36 : decode cX7_feed 36 = .ok (.iload_n 1, 1) := by decide +kernel
theorem dX7_feed_37 : decode cX7_feed 37 = .ok (.iastore, 1) := by decide +kernel
theorem dX7_feed_38 : decode cX7_feed 38 = .ok (.aload_n 0, 1) := by decide +kernel
theorem dX7_feed_39 : decode cX7_feed 39 = .ok (.dup, 1) := by decide +kernel
theorem dX7_feed_40 : decode cX7_feed 40 = .ok (.getfield 120, 3) := by decide +kernel
theorem dX7_feed_43 : decode cX7_feed 43 = .ok (.iconst 1, 1) := by decide +kernel
theorem dX7_feed_44 : decode cX7_feed 44 = .ok (.iadd, 1) := by decide +kernel
theorem dX7_feed_45 : decode cX7_feed 45 = .ok (.putfield 120, 3) := by decide +kernel
theorem dX7_feed_48 : decode cX7_feed 48 = .ok (.aload_n 0, 1) := by decide +kernel
theorem dX7_feed_49 : decode cX7_feed 49 = .ok (.getfield 120, 3) := by decide +kernel
theorem dX7_feed_52 : decode cX7_feed 52 = .ok (.ireturn, 1) := by decide +kernel
theorem dX7_byteAt_0 : decode cX7_byteAt 0 = .ok (.iload_n 1, 1) := by decide +kernel
theorem dX7_byteAt_1 : decode cX7_byteAt 1 = .ok (.aload_n 0, 1) := by decide +kernel
theorem dX7_byteAt_2 : decode cX7_byteAt 2 = .ok (.getfield 123, 3) := by decide +kernel
theorem dX7_byteAt_5 : decode cX7_byteAt 5 = .ok (.if_icmp .ge 17, 3) := by decide +kernel
theorem dX7_byteAt_8 : decode cX7_byteAt 8 = .ok (.aload_n 0, 1) := by decide +kernel
theorem dX7_byteAt_9 : decode cX7_byteAt 9 = .ok (.getfield 13, 3) := by decide +kernel
theorem dX7_byteAt_12 : decode cX7_byteAt 12 = .ok (.aload_n 0, 1) := by decide +kernel
theorem dX7_byteAt_13 : decode cX7_byteAt 13 = .ok (.getfield 126, 3) := by decide +kernel
theorem dX7_byteAt_16 : decode cX7_byteAt 16 = .ok (.iload_n 1, 1) := by decide +kernel
theorem dX7_byteAt_17 : decode cX7_byteAt 17 = .ok (.iadd, 1) := by decide +kernel
theorem dX7_byteAt_18 : decode cX7_byteAt 18 = .ok (.iaload, 1) := by decide +kernel
theorem dX7_byteAt_19 : decode cX7_byteAt 19 = .ok (.goto 4, 3) := by decide +kernel
theorem dX7_byteAt_22 : decode cX7_byteAt 22 = .ok (.iconst (-1), 1) := by decide +kernel
theorem dX7_byteAt_23 : decode cX7_byteAt 23 = .ok (.ireturn, 1) := by decide +kernel
theorem dX7_next_0 : decode cX7_next 0 = .ok (.aload_n 0, 1) := by decide +kernel
theorem dX7_next_1 : decode cX7_next 1 = .ok (.aload_n 0, 1) := by decide +kernel
theorem dX7_next_2 : decode cX7_next 2 = .ok (.getfield 129, 3) := by decide +kernel
theorem dX7_next_5 : decode cX7_next 5 = .ok (.invokevirtual 132, 3) := by decide +kernel
theorem dX7_next_8 : decode cX7_next 8 = .ok (.bipush 32, 2) := by decide +kernel
theorem dX7_next_10 : decode cX7_next 10 = .ok (.if_icmp .eq 16, 3) := by decide +kernel
theorem dX7_next_13 : decode cX7_next 13 = .ok (.aload_n 0, 1) := by decide +kernel
theorem dX7_next_14 : decode cX7_next 14 = .ok (.aload_n 0, 1) := by decide +kernel
theorem dX7_next_15 : decode cX7_next 15 = .ok (.getfield 129, 3) := by decide +kernel
theorem dX7_next_18 : decode cX7_next 18 = .ok (.invokevirtual 132, 3) := by decide +kernel
theorem dX7_next_21 : decode cX7_next 21 = .ok (.bipush 10, 2) := by decide +kernel
theorem dX7_next_23 : decode cX7_next 23 = .ok (.if_icmp .ne 16, 3) := by decide +kernel
theorem dX7_next_26 : decode cX7_next 26 = .ok (.aload_n 0, 1) := by decide +kernel
theorem dX7_next_27 : decode cX7_next 27 = .ok (.dup, 1) := by decide +kernel
theorem dX7_next_28 : decode cX7_next 28 = .ok (.getfield 129, 3) := by decide +kernel
theorem dX7_next_31 : decode cX7_next 31 = .ok (.iconst 1, 1) := by decide +kernel
theorem dX7_next_32 : decode cX7_next 32 = .ok (.iadd, 1) := by decide +kernel
theorem dX7_next_33 : decode cX7_next 33 = .ok (.putfield 129, 3) := by decide +kernel
theorem dX7_next_36 : decode cX7_next 36 = .ok (.goto (-36), 3) := by decide +kernel
theorem dX7_next_39 : decode cX7_next 39 = .ok (.aload_n 0, 1) := by decide +kernel
theorem dX7_next_40 : decode cX7_next 40 = .ok (.aload_n 0, 1) := by decide +kernel
theorem dX7_next_41 : decode cX7_next 41 = .ok (.getfield 129, 3) := by decide +kernel
theorem dX7_next_44 : decode cX7_next 44 = .ok (.putfield 135, 3) := by decide +kernel
theorem dX7_next_47 : decode cX7_next 47 = .ok (.aload_n 0, 1) := by decide +kernel
theorem dX7_next_48 : decode cX7_next 48 = .ok (.aload_n 0, 1) := by decide +kernel
theorem dX7_next_49 : decode cX7_next 49 = .ok (.getfield 129, 3) := by decide +kernel
theorem dX7_next_52 : decode cX7_next 52 = .ok (.invokevirtual 132, 3) := by decide +kernel
theorem dX7_next_55 : decode cX7_next 55 = .ok (.istore_n 1, 1) := by decide +kernel
theorem dX7_next_56 : decode cX7_next 56 = .ok (.aload_n 0, 1) := by decide +kernel
theorem dX7_next_57 : decode cX7_next 57 = .ok (.iconst 4, 1) := by decide +kernel
theorem dX7_next_58 : decode cX7_next 58 = .ok (.putfield 138, 3) := by decide +kernel
theorem dX7_next_61 : decode cX7_next 61 = .ok (.iload_n 1, 1) := by decide +kernel
theorem dX7_next_62 : decode cX7_next 62 = .ok (.ifCond .ge 19, 3) := by decide +kernel
theorem dX7_next_65 : decode cX7_next 65 = .ok (.aload_n 0, 1) := by decide +kernel
theorem dX7_next_66 : decode cX7_next 66 = .ok (.iconst 0, 1) := by decide +kernel
theorem dX7_next_67 : decode cX7_next 67 = .ok (.putfield 138, 3) := by decide +kernel
theorem dX7_next_70 : decode cX7_next 70 = .ok (.aload_n 0, 1) := by decide +kernel
theorem dX7_next_71 : decode cX7_next 71 = .ok (.aload_n 0, 1) := by decide +kernel
theorem dX7_next_72 : decode cX7_next 72 = .ok (.getfield 123, 3) := by decide +kernel
theorem dX7_next_75 : decode cX7_next 75 = .ok (.putfield 135, 3) := by decide +kernel
theorem dX7_next_78 : decode cX7_next 78 = .ok (.goto 243, 3) := by decide +kernel
theorem dX7_next_81 : decode cX7_next 81 = .ok (.iload_n 1, 1) := by decide +kernel
theorem dX7_next_82 : decode cX7_next 82 = .ok (.i2l, 1) := by decide +kernel
theorem dX7_next_83 : decode cX7_next 83 = .ok (.ldc2_w 141, 3) := by decide +kernel
theorem dX7_next_86 : decode cX7_next 86 = .ok (.ldc2_w 143, 3) := by decide +kernel
theorem dX7_next_89 : decode cX7_next 89 = .ok (.invokestatic 73, 3) := by decide +kernel
theorem dX7_next_92 : decode cX7_next 92 = .ok (.ifCond .eq 42, 3) := by decide +kernel
theorem dX7_next_95 : decode cX7_next 95 = .ok (.aload_n 0, 1) := by decide +kernel
theorem dX7_next_96 : decode cX7_next 96 = .ok (.iconst 1, 1) := by decide +kernel
theorem dX7_next_97 : decode cX7_next 97 = .ok (.putfield 138, 3) := by decide +kernel
theorem dX7_next_100 : decode cX7_next 100 = .ok (.aload_n 0, 1) := by decide +kernel
theorem dX7_next_101 : decode cX7_next 101 = .ok (.aload_n 0, 1) := by decide +kernel
theorem dX7_next_102 : decode cX7_next 102 = .ok (.getfield 129, 3) := by decide +kernel
theorem dX7_next_105 : decode cX7_next 105 = .ok (.invokevirtual 132, 3) := by decide +kernel
theorem dX7_next_108 : decode cX7_next 108 = .ok (.i2l, 1) := by decide +kernel
theorem dX7_next_109 : decode cX7_next 109 = .ok (.ldc2_w 141, 3) := by decide +kernel
theorem dX7_next_112 : decode cX7_next 112 = .ok (.ldc2_w 143, 3) := by decide +kernel
theorem dX7_next_115 : decode cX7_next 115 = .ok (.invokestatic 73, 3) := by decide +kernel
theorem dX7_next_118 : decode cX7_next 118 = .ok (.ifCond .eq 203, 3) := by decide +kernel
theorem dX7_next_121 : decode cX7_next 121 = .ok (.aload_n 0, 1) := by decide +kernel
theorem dX7_next_122 : decode cX7_next 122 = .ok (.dup, 1) := by decide +kernel
theorem dX7_next_123 : decode cX7_next 123 = .ok (.getfield 129, 3) := by decide +kernel
theorem dX7_next_126 : decode cX7_next 126 = .ok (.iconst 1, 1) := by decide +kernel
theorem dX7_next_127 : decode cX7_next 127 = .ok (.iadd, 1) := by decide +kernel
theorem dX7_next_128 : decode cX7_next 128 = .ok (.putfield 129, 3) := by decide +kernel
theorem dX7_next_131 : decode cX7_next 131 = .ok (.goto (-31), 3) := by decide +kernel
theorem dX7_next_134 : decode cX7_next 134 = .ok (.iload_n 1, 1) := by decide +kernel
theorem dX7_next_135 : decode cX7_next 135 = .ok (.i2l, 1) := by decide +kernel
theorem dX7_next_136 : decode cX7_next 136 = .ok (.ldc2_w 145, 3) := by decide +kernel
theorem dX7_next_139 : decode cX7_next 139 = .ok (.ldc2_w 147, 3) := by decide +kernel
theorem dX7_next_142 : decode cX7_next 142 = .ok (.invokestatic 73, 3) := by decide +kernel
theorem dX7_next_145 : decode cX7_next 145 = .ok (.ifCond .eq 107, 3) := by decide +kernel
theorem dX7_next_148 : decode cX7_next 148 = .ok (.aload_n 0, 1) := by decide +kernel
theorem dX7_next_149 : decode cX7_next 149 = .ok (.iconst 2, 1) := by decide +kernel
theorem dX7_next_150 : decode cX7_next 150 = .ok (.putfield 138, 3) := by decide +kernel
theorem dX7_next_153 : decode cX7_next 153 = .ok (.aload_n 0, 1) := by decide +kernel
theorem dX7_next_154 : decode cX7_next 154 = .ok (.lconst 0, 1) := by decide +kernel
theorem dX7_next_155 : decode cX7_next 155 = .ok (.putfield 149, 3) := by decide +kernel
theorem dX7_next_158 : decode cX7_next 158 = .ok (.iconst 0, 1) := by decide +kernel
theorem dX7_next_159 : decode cX7_next 159 = .ok (.istore_n 2, 1) := by decide +kernel
theorem dX7_next_160 : decode cX7_next 160 = .ok (.aload_n 0, 1) := by decide +kernel
theorem dX7_next_161 : decode cX7_next 161 = .ok (.aload_n 0, 1) := by decide +kernel
theorem dX7_next_162 : decode cX7_next 162 = .ok (.getfield 129, 3) := by decide +kernel
theorem dX7_next_165 : decode cX7_next 165 = .ok (.invokevirtual 132, 3) := by decide +kernel
theorem dX7_next_168 : decode cX7_next 168 = .ok (.i2l, 1) := by decide +kernel
theorem dX7_next_169 : decode cX7_next 169 = .ok (.ldc2_w 145, 3) := by decide +kernel
theorem dX7_next_172 : decode cX7_next 172 = .ok (.ldc2_w 147, 3) := by decide +kernel
theorem dX7_next_175 : decode cX7_next 175 = .ok (.invokestatic 73, 3) := by decide +kernel
theorem dX7_next_178 : decode cX7_next 178 = .ok (.ifCond .eq 57, 3) := by decide +kernel
theorem dX7_next_181 : decode cX7_next 181 = .ok (.aload_n 0, 1) := by decide +kernel
theorem dX7_next_182 : decode cX7_next 182 = .ok (.iload_n 2, 1) := by decide +kernel
theorem dX7_next_183 : decode cX7_next 183 = .ok (.iconst 4, 1) := by decide +kernel
theorem dX7_next_184 : decode cX7_next 184 = .ok (.if_icmp .ge 28, 3) := by decide +kernel
theorem dX7_next_187 : decode cX7_next 187 = .ok (.ldc2_w 153, 3) := by decide +kernel
theorem dX7_next_190 : decode cX7_next 190 = .ok (.aload_n 0, 1) := by decide +kernel
theorem dX7_next_191 : decode cX7_next 191 = .ok (.getfield 149, 3) := by decide +kernel
theorem dX7_next_194 : decode cX7_next 194 = .ok (.lmul, 1) := by decide +kernel
theorem dX7_next_195 : decode cX7_next 195 = .ok (.aload_n 0, 1) := by decide +kernel
theorem dX7_next_196 : decode cX7_next 196 = .ok (.aload_n 0, 1) := by decide +kernel
theorem dX7_next_197 : decode cX7_next 197 = .ok (.getfield 129, 3) := by decide +kernel
theorem dX7_next_200 : decode cX7_next 200 = .ok (.invokevirtual 132, 3) := by decide +kernel
theorem dX7_next_203 : decode cX7_next 203 = .ok (.i2l, 1) := by decide +kernel
theorem dX7_next_204 : decode cX7_next 204 = .ok (.ladd, 1) := by decide +kernel
theorem dX7_next_205 : decode cX7_next 205 = .ok (.ldc2_w 145, 3) := by decide +kernel
theorem dX7_next_208 : decode cX7_next 208 = .ok (.lsub, 1) := by decide +kernel
theorem dX7_next_209 : decode cX7_next 209 = .ok (.goto 7, 3) := by decide +kernel
theorem dX7_next_212 : decode cX7_next 212 = .ok (.aload_n 0, 1) := by decide +kernel
theorem dX7_next_213 : decode cX7_next 213 = .ok (.getfield 149, 3) := by decide +kernel
theorem dX7_next_216 : decode cX7_next 216 = .ok (.putfield 149, 3) := by decide +kernel
theorem dX7_next_219 : decode cX7_next 219 = .ok (.iinc 2 1, 3) := by decide +kernel
theorem dX7_next_222 : decode cX7_next 222 = .ok (.aload_n 0, 1) := by decide +kernel
theorem dX7_next_223 : decode cX7_next 223 = .ok (.dup, 1) := by decide +kernel
theorem dX7_next_224 : decode cX7_next 224 = .ok (.getfield 129, 3) := by decide +kernel
theorem dX7_next_227 : decode cX7_next 227 = .ok (.iconst 1, 1) := by decide +kernel
theorem dX7_next_228 : decode cX7_next 228 = .ok (.iadd, 1) := by decide +kernel
theorem dX7_next_229 : decode cX7_next 229 = .ok (.putfield 129, 3) := by decide +kernel
theorem dX7_next_232 : decode cX7_next 232 = .ok (.goto (-72), 3) := by decide +kernel
theorem dX7_next_235 : decode cX7_next 235 = .ok (.aload_n 0, 1) := by decide +kernel
theorem dX7_next_236 : decode cX7_next 236 = .ok (.iload_n 2, 1) := by decide +kernel
theorem dX7_next_237 : decode cX7_next 237 = .ok (.iconst 4, 1) := by decide +kernel
theorem dX7_next_238 : decode cX7_next 238 = .ok (.if_icmp .le 7, 3) := by decide +kernel
theorem dX7_next_241 : decode cX7_next 241 = .ok (.iconst 4, 1) := by decide +kernel
theorem dX7_next_242 : decode cX7_next 242 = .ok (.goto 4, 3) := by decide +kernel
theorem dX7_next_245 : decode cX7_next 245 = .ok (.iconst 2, 1) := by decide +kernel
theorem dX7_next_246 : decode cX7_next 246 = .ok (.putfield 138, 3) := by decide +kernel
theorem dX7_next_249 : decode cX7_next 249 = .ok (.goto 72, 3) := by decide +kernel
theorem dX7_next_252 : decode cX7_next 252 = .ok (.iload_n 1, 1) := by decide +kernel
theorem dX7_next_253 : decode cX7_next 253 = .ok (.bipush 40, 2) := by decide +kernel
theorem dX7_next_255 : decode cX7_next 255 = .ok (.if_icmp .eq 45, 3) := by decide +kernel
theorem dX7_next_258 : decode cX7_next 258 = .ok (.iload_n 1, 1) := by decide +kernel
theorem dX7_next_259 : decode cX7_next 259 = .ok (.bipush 41, 2) := by decide +kernel
theorem dX7_next_261 : decode cX7_next 261 = .ok (.if_icmp .eq 39, 3) := by decide +kernel
theorem dX7_next_264 : decode cX7_next 264 = .ok (.iload_n 1, 1) := by decide +kernel
theorem dX7_next_265 : decode cX7_next 265 = .ok (.bipush 59, 2) := by decide +kernel
theorem dX7_next_267 : decode cX7_next 267 = .ok (.if_icmp .eq 33, 3) := by decide +kernel
theorem dX7_next_270 : decode cX7_next 270 = .ok (.iload_n 1, 1) := by decide +kernel
theorem dX7_next_271 : decode cX7_next 271 = .ok (.bipush 43, 2) := by decide +kernel
theorem dX7_next_273 : decode cX7_next 273 = .ok (.if_icmp .eq 27, 3) := by decide +kernel
theorem dX7_next_276 : decode cX7_next 276 = .ok (.iload_n 1, 1) := by decide +kernel
theorem dX7_next_277 : decode cX7_next 277 = .ok (.bipush 45, 2) := by decide +kernel
theorem dX7_next_279 : decode cX7_next 279 = .ok (.if_icmp .eq 21, 3) := by decide +kernel
theorem dX7_next_282 : decode cX7_next 282 = .ok (.iload_n 1, 1) := by decide +kernel
theorem dX7_next_283 : decode cX7_next 283 = .ok (.bipush 42, 2) := by decide +kernel
theorem dX7_next_285 : decode cX7_next 285 = .ok (.if_icmp .eq 15, 3) := by decide +kernel
theorem dX7_next_288 : decode cX7_next 288 = .ok (.iload_n 1, 1) := by decide +kernel
theorem dX7_next_289 : decode cX7_next 289 = .ok (.bipush 60, 2) := by decide +kernel
theorem dX7_next_291 : decode cX7_next 291 = .ok (.if_icmp .eq 9, 3) := by decide +kernel
theorem dX7_next_294 : decode cX7_next 294 = .ok (.iload_n 1, 1) := by decide +kernel
theorem dX7_next_295 : decode cX7_next 295 = .ok (.bipush 61, 2) := by decide +kernel
theorem dX7_next_297 : decode cX7_next 297 = .ok (.if_icmp .ne 24, 3) := by decide +kernel
theorem dX7_next_300 : decode cX7_next 300 = .ok (.aload_n 0, 1) := by decide +kernel
theorem dX7_next_301 : decode cX7_next 301 = .ok (.iconst 3, 1) := by decide +kernel
theorem dX7_next_302 : decode cX7_next 302 = .ok (.putfield 138, 3) := by decide +kernel
theorem dX7_next_305 : decode cX7_next 305 = .ok (.aload_n 0, 1) := by decide +kernel
theorem dX7_next_306 : decode cX7_next 306 = .ok (.iload_n 1, 1) := by decide +kernel
theorem dX7_next_307 : decode cX7_next 307 = .ok (.i2l, 1) := by decide +kernel
theorem dX7_next_308 : decode cX7_next 308 = .ok (.putfield 149, 3) := by decide +kernel
theorem dX7_next_311 : decode cX7_next 311 = .ok (.aload_n 0, 1) := by decide +kernel
theorem dX7_next_312 : decode cX7_next 312 = .ok (.dup, 1) := by decide +kernel
theorem dX7_next_313 : decode cX7_next 313 = .ok (.getfield 129, 3) := by decide +kernel
theorem dX7_next_316 : decode cX7_next 316 = .ok (.iconst 1, 1) := by decide +kernel
theorem dX7_next_317 : decode cX7_next 317 = .ok (.iadd, 1) := by decide +kernel
theorem dX7_next_318 : decode cX7_next 318 = .ok (.putfield 129, 3) := by decide +kernel
theorem dX7_next_321 : decode cX7_next 321 = .ok (.return_, 1) := by decide +kernel
theorem dX7_fail_0 : decode cX7_fail 0 = .ok (.aload_n 0, 1) := by decide +kernel
theorem dX7_fail_1 : decode cX7_fail 1 = .ok (.getfield 155, 3) := by decide +kernel
theorem dX7_fail_4 : decode cX7_fail 4 = .ok (.ifCond .ne 16, 3) := by decide +kernel
theorem dX7_fail_7 : decode cX7_fail 7 = .ok (.aload_n 0, 1) := by decide +kernel
theorem dX7_fail_8 : decode cX7_fail 8 = .ok (.iconst 1, 1) := by decide +kernel
theorem dX7_fail_9 : decode cX7_fail 9 = .ok (.putfield 155, 3) := by decide +kernel
theorem dX7_fail_12 : decode cX7_fail 12 = .ok (.aload_n 0, 1) := by decide +kernel
theorem dX7_fail_13 : decode cX7_fail 13 = .ok (.aload_n 0, 1) := by decide +kernel
theorem dX7_fail_14 : decode cX7_fail 14 = .ok (.getfield 135, 3) := by decide +kernel
theorem dX7_fail_17 : decode cX7_fail 17 = .ok (.putfield 158, 3) := by decide +kernel
theorem dX7_fail_20 : decode cX7_fail 20 = .ok (.return_, 1) := by decide +kernel
theorem dX7_isLetter_0 : decode cX7_isLetter 0 = .ok (.aload_n 0, 1) := by decide +kernel
theorem dX7_isLetter_1 : decode cX7_isLetter 1 = .ok (.getfield 135, 3) := by decide +kernel
theorem dX7_isLetter_4 : decode cX7_isLetter 4 = .ok (.iload_n 1, 1) := by decide +kernel
theorem dX7_isLetter_5 : decode cX7_isLetter 5 = .ok (.iadd, 1) := by decide +kernel
theorem dX7_isLetter_6 : decode cX7_isLetter 6 = .ok (.aload_n 0, 1) := by decide +kernel
theorem dX7_isLetter_7 : decode cX7_isLetter 7 = .ok (.getfield 129, 3) := by decide +kernel
theorem dX7_isLetter_10 : decode cX7_isLetter 10 = .ok (.if_icmp .ge 25, 3) := by decide +kernel
theorem dX7_isLetter_13 : decode cX7_isLetter 13 = .ok (.aload_n 0, 1) := by decide +kernel
theorem dX7_isLetter_14 : decode cX7_isLetter 14 = .ok (.aload_n 0, 1) := by decide +kernel
theorem dX7_isLetter_15 : decode cX7_isLetter 15 = .ok (.getfield 135, 3) := by decide +kernel
theorem dX7_isLetter_18 : decode cX7_isLetter 18 = .ok (.iload_n 1, 1) := by decide +kernel
theorem dX7_isLetter_19 : decode cX7_isLetter 19 = .ok (.iadd, 1) := by decide +kernel
theorem dX7_isLetter_20 : decode cX7_isLetter 20 = .ok (.invokevirtual 132, 3) := by decide +kernel
theorem dX7_isLetter_23 : decode cX7_isLetter 23 = .ok (.iload_n 2, 1) := by decide +kernel
theorem dX7_isLetter_24 : decode cX7_isLetter 24 = .ok (.if_icmp .ne 7, 3) := by decide +kernel
theorem dX7_isLetter_27 : decode cX7_isLetter 27 = .ok (.iconst 1, 1) := by decide +kernel
theorem dX7_isLetter_28 : decode cX7_isLetter 28 = .ok (.goto 16, 3) := by decide +kernel
theorem dX7_isLetter_31 : decode cX7_isLetter 31 = .ok (.iconst 0, 1) := by decide +kernel
theorem dX7_isLetter_32 : decode cX7_isLetter 32 = .ok (.goto 12, 3) := by decide +kernel
theorem dX7_isLetter_35 : decode cX7_isLetter 35 = .ok (.iload_n 2, 1) := by decide +kernel
theorem dX7_isLetter_36 : decode cX7_isLetter 36 = .ok (.ifCond .ne 7, 3) := by decide +kernel
theorem dX7_isLetter_39 : decode cX7_isLetter 39 = .ok (.iconst 1, 1) := by decide +kernel
theorem dX7_isLetter_40 : decode cX7_isLetter 40 = .ok (.goto 4, 3) := by decide +kernel
theorem dX7_isLetter_43 : decode cX7_isLetter 43 = .ok (.iconst 0, 1) := by decide +kernel
theorem dX7_isLetter_44 : decode cX7_isLetter 44 = .ok (.ireturn, 1) := by decide +kernel
theorem dX7_isWord_0 : decode cX7_isWord 0 = .ok (.aload_n 0, 1) := by decide +kernel
theorem dX7_isWord_1 : decode cX7_isWord 1 = .ok (.getfield 155, 3) := by decide +kernel
theorem dX7_isWord_4 : decode cX7_isWord 4 = .ok (.ifCond .ne 108, 3) := by decide +kernel
theorem dX7_isWord_7 : decode cX7_isWord 7 = .ok (.aload_n 0, 1) := by decide +kernel
theorem dX7_isWord_8 : decode cX7_isWord 8 = .ok (.getfield 138, 3) := by decide +kernel
theorem dX7_isWord_11 : decode cX7_isWord 11 = .ok (.iconst 1, 1) := by decide +kernel
theorem dX7_isWord_12 : decode cX7_isWord 12 = .ok (.if_icmp .ne 100, 3) := by decide +kernel
theorem dX7_isWord_15 : decode cX7_isWord 15 = .ok (.aload_n 0, 1) := by decide +kernel
theorem dX7_isWord_16 : decode cX7_isWord 16 = .ok (.getfield 129, 3) := by decide +kernel
theorem dX7_isWord_19 : decode cX7_isWord 19 = .ok (.aload_n 0, 1) := by decide +kernel
theorem dX7_isWord_20 : decode cX7_isWord 20 = .ok (.getfield 135, 3) := by decide +kernel
theorem dX7_isWord_23 : decode cX7_isWord 23 = .ok (.bipush 8, 2) := by decide +kernel
theorem dX7_isWord_25 : decode cX7_isWord 25 = .ok (.iadd, 1) := by decide +kernel
theorem dX7_isWord_26 : decode cX7_isWord 26 = .ok (.if_icmp .gt 86, 3) := by decide +kernel
theorem dX7_isWord_29 : decode cX7_isWord 29 = .ok (.aload_n 0, 1) := by decide +kernel
theorem dX7_isWord_30 : decode cX7_isWord 30 = .ok (.iconst 0, 1) := by decide +kernel
theorem dX7_isWord_31 : decode cX7_isWord 31 = .ok (.iload_n 1, 1) := by decide +kernel
theorem dX7_isWord_32 : decode cX7_isWord 32 = .ok (.invokevirtual 161, 3) := by decide +kernel
theorem dX7_isWord_35 : decode cX7_isWord 35 = .ok (.ifCond .eq 77, 3) := by decide +kernel
theorem dX7_isWord_38 : decode cX7_isWord 38 = .ok (.aload_n 0, 1) := by decide +kernel
theorem dX7_isWord_39 : decode cX7_isWord 39 = .ok (.iconst 1, 1) := by decide +kernel
theorem dX7_isWord_40 : decode cX7_isWord 40 = .ok (.iload_n 2, 1) := by decide +kernel
theorem dX7_isWord_41 : decode cX7_isWord 41 = .ok (.invokevirtual 161, 3) := by decide +kernel
theorem dX7_isWord_44 : decode cX7_isWord 44 = .ok (.ifCond .eq 68, 3) := by decide +kernel
theorem dX7_isWord_47 : decode cX7_isWord 47 = .ok (.aload_n 0, 1) := by decide +kernel
theorem dX7_isWord_48 : decode cX7_isWord 48 = .ok (.iconst 2, 1) := by decide +kernel
theorem dX7_isWord_49 : decode cX7_isWord 49 = .ok (.iload_n 3, 1) := by decide +kernel
theorem dX7_isWord_50 : decode cX7_isWord 50 = .ok (.invokevirtual 161, 3) := by decide +kernel
theorem dX7_isWord_53 : decode cX7_isWord 53 = .ok (.ifCond .eq 59, 3) := by decide +kernel
theorem dX7_isWord_56 : decode cX7_isWord 56 = .ok (.aload_n 0, 1) := by decide +kernel
theorem dX7_isWord_57 : decode cX7_isWord 57 = .ok (.iconst 3, 1) := by decide +kernel
theorem dX7_isWord_58 : decode cX7_isWord 58 = .ok (.iload 4, 2) := by decide +kernel
theorem dX7_isWord_60 : decode cX7_isWord 60 = .ok (.invokevirtual 161, 3) := by decide +kernel
theorem dX7_isWord_63 : decode cX7_isWord 63 = .ok (.ifCond .eq 49, 3) := by decide +kernel
theorem dX7_isWord_66 : decode cX7_isWord 66 = .ok (.aload_n 0, 1) := by decide +kernel
theorem dX7_isWord_67 : decode cX7_isWord 67 = .ok (.iconst 4, 1) := by decide +kernel
theorem dX7_isWord_68 : decode cX7_isWord 68 = .ok (.iload 5, 2) := by decide +kernel
theorem dX7_isWord_70 : decode cX7_isWord 70 = .ok (.invokevirtual 161, 3) := by decide +kernel
theorem dX7_isWord_73 : decode cX7_isWord 73 = .ok (.ifCond .eq 39, 3) := by decide +kernel
theorem dX7_isWord_76 : decode cX7_isWord 76 = .ok (.aload_n 0, 1) := by decide +kernel
theorem dX7_isWord_77 : decode cX7_isWord 77 = .ok (.iconst 5, 1) := by decide +kernel
theorem dX7_isWord_78 : decode cX7_isWord 78 = .ok (.iload 6, 2) := by decide +kernel
theorem dX7_isWord_80 : decode cX7_isWord 80 = .ok (.invokevirtual 161, 3) := by decide +kernel
theorem dX7_isWord_83 : decode cX7_isWord 83 = .ok (.ifCond .eq 29, 3) := by decide +kernel
theorem dX7_isWord_86 : decode cX7_isWord 86 = .ok (.aload_n 0, 1) := by decide +kernel
theorem dX7_isWord_87 : decode cX7_isWord 87 = .ok (.bipush 6, 2) := by decide +kernel
theorem dX7_isWord_89 : decode cX7_isWord 89 = .ok (.iload 7, 2) := by decide +kernel
theorem dX7_isWord_91 : decode cX7_isWord 91 = .ok (.invokevirtual 161, 3) := by decide +kernel
theorem dX7_isWord_94 : decode cX7_isWord 94 = .ok (.ifCond .eq 18, 3) := by decide +kernel
theorem dX7_isWord_97 : decode cX7_isWord 97 = .ok (.aload_n 0, 1) := by decide +kernel
theorem dX7_isWord_98 : decode cX7_isWord 98 = .ok (.bipush 7, 2) := by decide +kernel
theorem dX7_isWord_100 : decode cX7_isWord 100 = .ok (.iload 8, 2) := by decide +kernel
theorem dX7_isWord_102 : decode cX7_isWord 102 = .ok (.invokevirtual 161, 3) := by decide +kernel
theorem dX7_isWord_105 : decode cX7_isWord 105 = .ok (.ifCond .eq 7, 3) := by decide +kernel
theorem dX7_isWord_108 : decode cX7_isWord 108 = .ok (.iconst 1, 1) := by decide +kernel
theorem dX7_isWord_109 : decode cX7_isWord 109 = .ok (.goto 4, 3) := by decide +kernel
theorem dX7_isWord_112 : decode cX7_isWord 112 = .ok (.iconst 0, 1) := by decide +kernel
theorem dX7_isWord_113 : decode cX7_isWord 113 = .ok (.ireturn, 1) := by decide +kernel
theorem dX7_isSign_0 : decode cX7_isSign 0 = .ok (.aload_n 0, 1) := by decide +kernel
theorem dX7_isSign_1 : decode cX7_isSign 1 = .ok (.getfield 155, 3) := by decide +kernel
theorem dX7_isSign_4 : decode cX7_isSign 4 = .ok (.ifCond .ne 25, 3) := by decide +kernel
theorem dX7_isSign_7 : decode cX7_isSign 7 = .ok (.aload_n 0, 1) := by decide +kernel
theorem dX7_isSign_8 : decode cX7_isSign 8 = .ok (.getfield 138, 3) := by decide +kernel
theorem dX7_isSign_11 : decode cX7_isSign 11 = .ok (.iconst 3, 1) := by decide +kernel
theorem dX7_isSign_12 : decode cX7_isSign 12 = .ok (.if_icmp .ne 17, 3) := by decide +kernel
theorem dX7_isSign_15 : decode cX7_isSign 15 = .ok (.aload_n 0, 1) := by decide +kernel
theorem dX7_isSign_16 : decode cX7_isSign 16 = .ok (.getfield 149, 3) := by decide +kernel
theorem dX7_isSign_19 : decode cX7_isSign 19 = .ok (.iload_n 1, 1) := by decide +kernel
theorem dX7_isSign_20 : decode cX7_isSign 20 = .ok (.i2l, 1) := by decide +kernel
theorem dX7_isSign_21 : decode cX7_isSign 21 = .ok (.lcmp, 1) := by decide +kernel
theorem dX7_isSign_22 : decode cX7_isSign 22 = .ok (.ifCond .ne 7, 3) := by decide +kernel
theorem dX7_isSign_25 : decode cX7_isSign 25 = .ok (.iconst 1, 1) := by decide +kernel
theorem dX7_isSign_26 : decode cX7_isSign 26 = .ok (.goto 4, 3) := by decide +kernel
theorem dX7_isSign_29 : decode cX7_isSign 29 = .ok (.iconst 0, 1) := by decide +kernel
theorem dX7_isSign_30 : decode cX7_isSign 30 = .ok (.ireturn, 1) := by decide +kernel
theorem dX7_opens_0 : decode cX7_opens 0 = .ok (.aload_n 0, 1) := by decide +kernel
theorem dX7_opens_1 : decode cX7_opens 1 = .ok (.getfield 164, 3) := by decide +kernel
theorem dX7_opens_4 : decode cX7_opens 4 = .ok (.iconst 5, 1) := by decide +kernel
theorem dX7_opens_5 : decode cX7_opens 5 = .ok (.if_icmp .ne 9, 3) := by decide +kernel
theorem dX7_opens_8 : decode cX7_opens 8 = .ok (.aload_n 0, 1) := by decide +kernel
theorem dX7_opens_9 : decode cX7_opens 9 = .ok (.invokevirtual 167, 3) := by decide +kernel
theorem dX7_opens_12 : decode cX7_opens 12 = .ok (.iconst 0, 1) := by decide +kernel
theorem dX7_opens_13 : decode cX7_opens 13 = .ok (.ireturn, 1) := by decide +kernel
theorem dX7_opens_14 : decode cX7_opens 14 = .ok (.aload_n 0, 1) := by decide +kernel
theorem dX7_opens_15 : decode cX7_opens 15 = .ok (.dup, 1) := by decide +kernel
theorem dX7_opens_16 : decode cX7_opens 16 = .ok (.getfield 164, 3) := by decide +kernel
theorem dX7_opens_19 : decode cX7_opens 19 = .ok (.iconst 1, 1) := by decide +kernel
theorem dX7_opens_20 : decode cX7_opens 20 = .ok (.iadd, 1) := by decide +kernel
theorem dX7_opens_21 : decode cX7_opens 21 = .ok (.putfield 164, 3) := by decide +kernel
theorem dX7_opens_24 : decode cX7_opens 24 = .ok (.aload_n 0, 1) := by decide +kernel
theorem dX7_opens_25 : decode cX7_opens 25 = .ok (.invokevirtual 170, 3) := by decide +kernel
theorem dX7_opens_28 : decode cX7_opens 28 = .ok (.iconst 1, 1) := by decide +kernel
theorem dX7_opens_29 : decode cX7_opens 29 = .ok (.ireturn, 1) := by decide +kernel
theorem dX7_name_0 : decode cX7_name 0 = .ok (.aload_n 0, 1) := by decide +kernel
theorem dX7_name_1 : decode cX7_name 1 = .ok (.bipush 116, 2) := by decide +kernel
theorem dX7_name_3 : decode cX7_name 3 = .ok (.bipush 105, 2) := by decide +kernel
theorem dX7_name_5 : decode cX7_name 5 = .ok (.bipush 99, 2) := by decide +kernel
theorem dX7_name_7 : decode cX7_name 7 = .ok (.bipush 107, 2) := by decide +kernel
theorem dX7_name_9 : decode cX7_name 9 = .ok (.iconst 0, 1) := by decide +kernel
theorem dX7_name_10 : decode cX7_name 10 = .ok (.iconst 0, 1) := by decide +kernel
theorem dX7_name_11 : decode cX7_name 11 = .ok (.iconst 0, 1) := by decide +kernel
theorem dX7_name_12 : decode cX7_name 12 = .ok (.iconst 0, 1) := by decide +kernel
theorem dX7_name_13 : decode cX7_name 13 = .ok (.invokevirtual 173, 3) := by decide +kernel
theorem dX7_name_16 : decode cX7_name 16 = .ok (.ifCond .eq 8, 3) := by decide +kernel
theorem dX7_name_19 : decode cX7_name 19 = .ok (.aload_n 0, 1) := by decide +kernel
theorem dX7_name_20 : decode cX7_name 20 = .ok (.getfield 177, 3) := by decide +kernel
theorem dX7_name_23 : decode cX7_name 23 = .ok (.ireturn, 1) := by decide +kernel
theorem dX7_name_24 : decode cX7_name 24 = .ok (.aload_n 0, 1) := by decide +kernel
theorem dX7_name_25 : decode cX7_name 25 = .ok (.bipush 102, 2) := by decide +kernel
theorem dX7_name_27 : decode cX7_name 27 = .ok (.bipush 97, 2) := by decide +kernel
theorem dX7_name_29 : decode cX7_name 29 = .ok (.bipush 114, 2) := by decide +kernel
theorem dX7_name_31 : decode cX7_name 31 = .ok (.iconst 0, 1) := by decide +kernel
theorem dX7_name_32 : decode cX7_name 32 = .ok (.iconst 0, 1) := by decide +kernel
theorem dX7_name_33 : decode cX7_name 33 = .ok (.iconst 0, 1) := by decide +kernel
theorem dX7_name_34 : decode cX7_name 34 = .ok (.iconst 0, 1) := by decide +kernel
theorem dX7_name_35 : decode cX7_name 35 = .ok (.iconst 0, 1) := by decide +kernel
theorem dX7_name_36 : decode cX7_name 36 = .ok (.invokevirtual 173, 3) := by decide +kernel
theorem dX7_name_39 : decode cX7_name 39 = .ok (.ifCond .eq 8, 3) := by decide +kernel
theorem dX7_name_42 : decode cX7_name 42 = .ok (.aload_n 0, 1) := by decide +kernel
theorem dX7_name_43 : decode cX7_name 43 = .ok (.getfield 180, 3) := by decide +kernel
theorem dX7_name_46 : decode cX7_name 46 = .ok (.ireturn, 1) := by decide +kernel
theorem dX7_name_47 : decode cX7_name 47 = .ok (.aload_n 0, 1) := by decide +kernel
theorem dX7_name_48 : decode cX7_name 48 = .ok (.bipush 109, 2) := by decide +kernel
theorem dX7_name_50 : decode cX7_name 50 = .ok (.bipush 111, 2) := by decide +kernel
theorem dX7_name_52 : decode cX7_name 52 = .ok (.bipush 111, 2) := by decide +kernel
theorem dX7_name_54 : decode cX7_name 54 = .ok (.bipush 110, 2) := by decide +kernel
theorem dX7_name_56 : decode cX7_name 56 = .ok (.iconst 0, 1) := by decide +kernel
theorem dX7_name_57 : decode cX7_name 57 = .ok (.iconst 0, 1) := by decide +kernel
theorem dX7_name_58 : decode cX7_name 58 = .ok (.iconst 0, 1) := by decide +kernel
theorem dX7_name_59 : decode cX7_name 59 = .ok (.iconst 0, 1) := by decide +kernel
theorem dX7_name_60 : decode cX7_name 60 = .ok (.invokevirtual 173, 3) := by decide +kernel
theorem dX7_name_63 : decode cX7_name 63 = .ok (.ifCond .eq 8, 3) := by decide +kernel
theorem dX7_name_66 : decode cX7_name 66 = .ok (.aload_n 0, 1) := by decide +kernel
theorem dX7_name_67 : decode cX7_name 67 = .ok (.getfield 183, 3) := by decide +kernel
theorem dX7_name_70 : decode cX7_name 70 = .ok (.ireturn, 1) := by decide +kernel
theorem dX7_name_71 : decode cX7_name 71 = .ok (.aload_n 0, 1) := by decide +kernel
theorem dX7_name_72 : decode cX7_name 72 = .ok (.bipush 110, 2) := by decide +kernel
theorem dX7_name_74 : decode cX7_name 74 = .ok (.bipush 117, 2) := by decide +kernel
theorem dX7_name_76 : decode cX7_name 76 = .ok (.bipush 109, 2) := by decide +kernel
theorem dX7_name_78 : decode cX7_name 78 = .ok (.bipush 98, 2) := by decide +kernel
theorem dX7_name_80 : decode cX7_name 80 = .ok (.bipush 101, 2) := by decide +kernel
theorem dX7_name_82 : decode cX7_name 82 = .ok (.bipush 114, 2) := by decide +kernel
theorem dX7_name_84 : decode cX7_name 84 = .ok (.iconst 0, 1) := by decide +kernel
theorem dX7_name_85 : decode cX7_name 85 = .ok (.iconst 0, 1) := by decide +kernel
theorem dX7_name_86 : decode cX7_name 86 = .ok (.invokevirtual 173, 3) := by decide +kernel
theorem dX7_name_89 : decode cX7_name 89 = .ok (.ifCond .eq 8, 3) := by decide +kernel
theorem dX7_name_92 : decode cX7_name 92 = .ok (.aload_n 0, 1) := by decide +kernel
theorem dX7_name_93 : decode cX7_name 93 = .ok (.getfield 186, 3) := by decide +kernel
theorem dX7_name_96 : decode cX7_name 96 = .ok (.ireturn, 1) := by decide +kernel
theorem dX7_name_97 : decode cX7_name 97 = .ok (.aload_n 0, 1) := by decide +kernel
theorem dX7_name_98 : decode cX7_name 98 = .ok (.bipush 104, 2) := by decide +kernel
theorem dX7_name_100 : decode cX7_name 100 = .ok (.bipush 101, 2) := by decide +kernel
theorem dX7_name_102 : decode cX7_name 102 = .ok (.bipush 105, 2) := by decide +kernel
theorem dX7_name_104 : decode cX7_name 104 = .ok (.bipush 103, 2) := by decide +kernel
theorem dX7_name_106 : decode cX7_name 106 = .ok (.bipush 104, 2) := by decide +kernel
theorem dX7_name_108 : decode cX7_name 108 = .ok (.bipush 116, 2) := by decide +kernel
theorem dX7_name_110 : decode cX7_name 110 = .ok (.iconst 0, 1) := by decide +kernel
theorem dX7_name_111 : decode cX7_name 111 = .ok (.iconst 0, 1) := by decide +kernel
theorem dX7_name_112 : decode cX7_name 112 = .ok (.invokevirtual 173, 3) := by decide +kernel
theorem dX7_name_115 : decode cX7_name 115 = .ok (.ifCond .eq 8, 3) := by decide +kernel
theorem dX7_name_118 : decode cX7_name 118 = .ok (.aload_n 0, 1) := by decide +kernel
theorem dX7_name_119 : decode cX7_name 119 = .ok (.getfield 189, 3) := by decide +kernel
theorem dX7_name_122 : decode cX7_name 122 = .ok (.ireturn, 1) := by decide +kernel
theorem dX7_name_123 : decode cX7_name 123 = .ok (.aload_n 0, 1) := by decide +kernel
theorem dX7_name_124 : decode cX7_name 124 = .ok (.bipush 111, 2) := by decide +kernel
theorem dX7_name_126 : decode cX7_name 126 = .ok (.bipush 114, 2) := by decide +kernel
theorem dX7_name_128 : decode cX7_name 128 = .ok (.bipush 100, 2) := by decide +kernel
theorem dX7_name_130 : decode cX7_name 130 = .ok (.bipush 101, 2) := by decide +kernel
theorem dX7_name_132 : decode cX7_name 132 = .ok (.bipush 114, 2) := by decide +kernel
theorem dX7_name_134 : decode cX7_name 134 = .ok (.iconst 0, 1) := by decide +kernel
theorem dX7_name_135 : decode cX7_name 135 = .ok (.iconst 0, 1) := by decide +kernel
theorem dX7_name_136 : decode cX7_name 136 = .ok (.iconst 0, 1) := by decide +kernel
theorem dX7_name_137 : decode cX7_name 137 = .ok (.invokevirtual 173, 3) := by decide +kernel
theorem dX7_name_140 : decode cX7_name 140 = .ok (.ifCond .eq 8, 3) := by decide +kernel
theorem dX7_name_143 : decode cX7_name 143 = .ok (.aload_n 0, 1) := by decide +kernel
theorem dX7_name_144 : decode cX7_name 144 = .ok (.getfield 192, 3) := by decide +kernel
theorem dX7_name_147 : decode cX7_name 147 = .ok (.ireturn, 1) := by decide +kernel
theorem dX7_name_148 : decode cX7_name 148 = .ok (.aload_n 0, 1) := by decide +kernel
theorem dX7_name_149 : decode cX7_name 149 = .ok (.invokevirtual 167, 3) := by decide +kernel
theorem dX7_name_152 : decode cX7_name 152 = .ok (.iconst 0, 1) := by decide +kernel
theorem dX7_name_153 : decode cX7_name 153 = .ok (.ireturn, 1) := by decide +kernel
theorem dX7_atom_0 : decode cX7_atom 0 = .ok (.iconst 0, 1) := by decide +kernel
theorem dX7_atom_1 : decode cX7_atom 1 = .ok (.istore_n 1, 1) := by decide +kernel
theorem dX7_atom_2 : decode cX7_atom 2 = .ok (.aload_n 0, 1) := by decide +kernel
theorem dX7_atom_3 : decode cX7_atom 3 = .ok (.bipush 45, 2) := by decide +kernel
theorem dX7_atom_5 : decode cX7_atom 5 = .ok (.invokevirtual 195, 3) := by decide +kernel
theorem dX7_atom_8 : decode cX7_atom 8 = .ok (.ifCond .eq 29, 3) := by decide +kernel
theorem dX7_atom_11 : decode cX7_atom 11 = .ok (.aload_n 0, 1) := by decide +kernel
theorem dX7_atom_12 : decode cX7_atom 12 = .ok (.invokevirtual 198, 3) := by decide +kernel
theorem dX7_atom_15 : decode cX7_atom 15 = .ok (.ifCond .eq 146, 3) := by decide +kernel
theorem dX7_atom_18 : decode cX7_atom 18 = .ok (.aload_n 0, 1) := by decide +kernel
theorem dX7_atom_19 : decode cX7_atom 19 = .ok (.invokevirtual 202, 3) := by decide +kernel
theorem dX7_atom_22 : decode cX7_atom 22 = .ok (.ineg, 1) := by decide +kernel
theorem dX7_atom_23 : decode cX7_atom 23 = .ok (.istore_n 1, 1) := by decide +kernel
theorem dX7_atom_24 : decode cX7_atom 24 = .ok (.aload_n 0, 1) := by decide +kernel
theorem dX7_atom_25 : decode cX7_atom 25 = .ok (.dup, 1) := by decide +kernel
theorem dX7_atom_26 : decode cX7_atom 26 = .ok (.getfield 164, 3) := by decide +kernel
theorem dX7_atom_29 : decode cX7_atom 29 = .ok (.iconst 1, 1) := by decide +kernel
theorem dX7_atom_30 : decode cX7_atom 30 = .ok (.isub, 1) := by decide +kernel
theorem dX7_atom_31 : decode cX7_atom 31 = .ok (.putfield 164, 3) := by decide +kernel
theorem dX7_atom_34 : decode cX7_atom 34 = .ok (.goto 127, 3) := by decide +kernel
theorem dX7_atom_37 : decode cX7_atom 37 = .ok (.aload_n 0, 1) := by decide +kernel
theorem dX7_atom_38 : decode cX7_atom 38 = .ok (.bipush 40, 2) := by decide +kernel
theorem dX7_atom_40 : decode cX7_atom 40 = .ok (.invokevirtual 195, 3) := by decide +kernel
theorem dX7_atom_43 : decode cX7_atom 43 = .ok (.ifCond .eq 52, 3) := by decide +kernel
theorem dX7_atom_46 : decode cX7_atom 46 = .ok (.aload_n 0, 1) := by decide +kernel
theorem dX7_atom_47 : decode cX7_atom 47 = .ok (.invokevirtual 198, 3) := by decide +kernel
theorem dX7_atom_50 : decode cX7_atom 50 = .ok (.ifCond .eq 111, 3) := by decide +kernel
theorem dX7_atom_53 : decode cX7_atom 53 = .ok (.aload_n 0, 1) := by decide +kernel
theorem dX7_atom_54 : decode cX7_atom 54 = .ok (.invokevirtual 206, 3) := by decide +kernel
theorem dX7_atom_57 : decode cX7_atom 57 = .ok (.istore_n 1, 1) := by decide +kernel
theorem dX7_atom_58 : decode cX7_atom 58 = .ok (.aload_n 0, 1) := by decide +kernel
theorem dX7_atom_59 : decode cX7_atom 59 = .ok (.bipush 41, 2) := by decide +kernel
theorem dX7_atom_61 : decode cX7_atom 61 = .ok (.invokevirtual 195, 3) := by decide +kernel
theorem dX7_atom_64 : decode cX7_atom 64 = .ok (.ifCond .ne 7, 3) := by decide +kernel
theorem dX7_atom_67 : decode cX7_atom 67 = .ok (.aload_n 0, 1) := by decide +kernel
theorem dX7_atom_68 : decode cX7_atom 68 = .ok (.invokevirtual 167, 3) := by decide +kernel
theorem dX7_atom_71 : decode cX7_atom 71 = .ok (.aload_n 0, 1) := by decide +kernel
theorem dX7_atom_72 : decode cX7_atom 72 = .ok (.dup, 1) := by decide +kernel
theorem dX7_atom_73 : decode cX7_atom 73 = .ok (.getfield 164, 3) := by decide +kernel
theorem dX7_atom_76 : decode cX7_atom 76 = .ok (.iconst 1, 1) := by decide +kernel
theorem dX7_atom_77 : decode cX7_atom 77 = .ok (.isub, 1) := by decide +kernel
theorem dX7_atom_78 : decode cX7_atom 78 = .ok (.putfield 164, 3) := by decide +kernel
theorem dX7_atom_81 : decode cX7_atom 81 = .ok (.aload_n 0, 1) := by decide +kernel
theorem dX7_atom_82 : decode cX7_atom 82 = .ok (.getfield 155, 3) := by decide +kernel
theorem dX7_atom_85 : decode cX7_atom 85 = .ok (.ifCond .ne 76, 3) := by decide +kernel
theorem dX7_atom_88 : decode cX7_atom 88 = .ok (.aload_n 0, 1) := by decide +kernel
theorem dX7_atom_89 : decode cX7_atom 89 = .ok (.invokevirtual 170, 3) := by decide +kernel
theorem dX7_atom_92 : decode cX7_atom 92 = .ok (.goto 69, 3) := by decide +kernel
theorem dX7_atom_95 : decode cX7_atom 95 = .ok (.aload_n 0, 1) := by decide +kernel
theorem dX7_atom_96 : decode cX7_atom 96 = .ok (.getfield 155, 3) := by decide +kernel
theorem dX7_atom_99 : decode cX7_atom 99 = .ok (.ifCond .ne 24, 3) := by decide +kernel
theorem dX7_atom_102 : decode cX7_atom 102 = .ok (.aload_n 0, 1) := by decide +kernel
theorem dX7_atom_103 : decode cX7_atom 103 = .ok (.getfield 138, 3) := by decide +kernel
theorem dX7_atom_106 : decode cX7_atom 106 = .ok (.iconst 2, 1) := by decide +kernel
theorem dX7_atom_107 : decode cX7_atom 107 = .ok (.if_icmp .ne 16, 3) := by decide +kernel
theorem dX7_atom_110 : decode cX7_atom 110 = .ok (.aload_n 0, 1) := by decide +kernel
theorem dX7_atom_111 : decode cX7_atom 111 = .ok (.getfield 149, 3) := by decide +kernel
theorem dX7_atom_114 : decode cX7_atom 114 = .ok (.l2i, 1) := by decide +kernel
theorem dX7_atom_115 : decode cX7_atom 115 = .ok (.istore_n 1, 1) := by decide +kernel
theorem dX7_atom_116 : decode cX7_atom 116 = .ok (.aload_n 0, 1) := by decide +kernel
theorem dX7_atom_117 : decode cX7_atom 117 = .ok (.invokevirtual 170, 3) := by decide +kernel
theorem dX7_atom_120 : decode cX7_atom 120 = .ok (.goto 41, 3) := by decide +kernel
theorem dX7_atom_123 : decode cX7_atom 123 = .ok (.aload_n 0, 1) := by decide +kernel
theorem dX7_atom_124 : decode cX7_atom 124 = .ok (.getfield 155, 3) := by decide +kernel
theorem dX7_atom_127 : decode cX7_atom 127 = .ok (.ifCond .ne 30, 3) := by decide +kernel
theorem dX7_atom_130 : decode cX7_atom 130 = .ok (.aload_n 0, 1) := by decide +kernel
theorem dX7_atom_131 : decode cX7_atom 131 = .ok (.getfield 138, 3) := by decide +kernel
theorem dX7_atom_134 : decode cX7_atom 134 = .ok (.iconst 1, 1) := by decide +kernel
theorem dX7_atom_135 : decode cX7_atom 135 = .ok (.if_icmp .ne 22, 3) := by decide +kernel
theorem dX7_atom_138 : decode cX7_atom 138 = .ok (.aload_n 0, 1) := by decide +kernel
theorem dX7_atom_139 : decode cX7_atom 139 = .ok (.invokevirtual 209, 3) := by decide +kernel
theorem dX7_atom_142 : decode cX7_atom 142 = .ok (.istore_n 1, 1) := by decide +kernel
theorem dX7_atom_143 : decode cX7_atom 143 = .ok (.aload_n 0, 1) := by decide +kernel
theorem dX7_atom_144 : decode cX7_atom 144 = .ok (.getfield 155, 3) := by decide +kernel
theorem dX7_atom_147 : decode cX7_atom 147 = .ok (.ifCond .ne 14, 3) := by decide +kernel
theorem dX7_atom_150 : decode cX7_atom 150 = .ok (.aload_n 0, 1) := by decide +kernel
theorem dX7_atom_151 : decode cX7_atom 151 = .ok (.invokevirtual 170, 3) := by decide +kernel
theorem dX7_atom_154 : decode cX7_atom 154 = .ok (.goto 7, 3) := by decide +kernel
theorem dX7_atom_157 : decode cX7_atom 157 = .ok (.aload_n 0, 1) := by decide +kernel
theorem dX7_atom_158 : decode cX7_atom 158 = .ok (.invokevirtual 167, 3) := by decide +kernel
theorem dX7_atom_161 : decode cX7_atom 161 = .ok (.iload_n 1, 1) := by decide +kernel
theorem dX7_atom_162 : decode cX7_atom 162 = .ok (.ireturn, 1) := by decide +kernel
theorem dX7_term_0 : decode cX7_term 0 = .ok (.aload_n 0, 1) := by decide +kernel
theorem dX7_term_1 : decode cX7_term 1 = .ok (.invokevirtual 202, 3) := by decide +kernel
theorem dX7_term_4 : decode cX7_term 4 = .ok (.istore_n 1, 1) := by decide +kernel
theorem dX7_term_5 : decode cX7_term 5 = .ok (.aload_n 0, 1) := by decide +kernel
theorem dX7_term_6 : decode cX7_term 6 = .ok (.bipush 42, 2) := by decide +kernel
theorem dX7_term_8 : decode cX7_term 8 = .ok (.invokevirtual 195, 3) := by decide +kernel
theorem dX7_term_11 : decode cX7_term 11 = .ok (.ifCond .eq 17, 3) := by decide +kernel
theorem dX7_term_14 : decode cX7_term 14 = .ok (.aload_n 0, 1) := by decide +kernel
theorem dX7_term_15 : decode cX7_term 15 = .ok (.invokevirtual 170, 3) := by decide +kernel
theorem dX7_term_18 : decode cX7_term 18 = .ok (.iload_n 1, 1) := by decide +kernel
theorem dX7_term_19 : decode cX7_term 19 = .ok (.aload_n 0, 1) := by decide +kernel
theorem dX7_term_20 : decode cX7_term 20 = .ok (.invokevirtual 202, 3) := by decide +kernel
theorem dX7_term_23 : decode cX7_term 23 = .ok (.imul, 1) := by decide +kernel
theorem dX7_term_24 : decode cX7_term 24 = .ok (.istore_n 1, 1) := by decide +kernel
theorem dX7_term_25 : decode cX7_term 25 = .ok (.goto (-20), 3) := by decide +kernel
theorem dX7_term_28 : decode cX7_term 28 = .ok (.iload_n 1, 1) := by decide +kernel
theorem dX7_term_29 : decode cX7_term 29 = .ok (.ireturn, 1) := by decide +kernel
theorem dX7_added_0 : decode cX7_added 0 = .ok (.aload_n 0, 1) := by decide +kernel
theorem dX7_added_1 : decode cX7_added 1 = .ok (.invokevirtual 212, 3) := by decide +kernel
theorem dX7_added_4 : decode cX7_added 4 = .ok (.istore_n 1, 1) := by decide +kernel
theorem dX7_added_5 : decode cX7_added 5 = .ok (.aload_n 0, 1) := by decide +kernel
theorem dX7_added_6 : decode cX7_added 6 = .ok (.bipush 43, 2) := by decide +kernel
theorem dX7_added_8 : decode cX7_added 8 = .ok (.invokevirtual 195, 3) := by decide +kernel
theorem dX7_added_11 : decode cX7_added 11 = .ok (.ifCond .ne 12, 3) := by decide +kernel
theorem dX7_added_14 : decode cX7_added 14 = .ok (.aload_n 0, 1) := by decide +kernel
theorem dX7_added_15 : decode cX7_added 15 = .ok (.bipush 45, 2) := by decide +kernel
theorem dX7_added_17 : decode cX7_added 17 = .ok (.invokevirtual 195, 3) := by decide +kernel
theorem dX7_added_20 : decode cX7_added 20 = .ok (.ifCond .eq 46, 3) := by decide +kernel
theorem dX7_added_23 : decode cX7_added 23 = .ok (.aload_n 0, 1) := by decide +kernel
theorem dX7_added_24 : decode cX7_added 24 = .ok (.getfield 149, 3) := by decide +kernel
theorem dX7_added_27 : decode cX7_added 27 = .ok (.ldc2_w 215, 3) := by decide +kernel
theorem dX7_added_30 : decode cX7_added 30 = .ok (.lcmp, 1) := by decide +kernel
theorem dX7_added_31 : decode cX7_added 31 = .ok (.ifCond .ne 7, 3) := by decide +kernel
theorem dX7_added_34 : decode cX7_added 34 = .ok (.iconst 1, 1) := by decide +kernel
theorem dX7_added_35 : decode cX7_added 35 = .ok (.goto 4, 3) := by decide +kernel
theorem dX7_added_38 : decode cX7_added 38 = .ok (.iconst 0, 1) := by decide +kernel
theorem dX7_added_39 : decode cX7_added 39 = .ok (.istore_n 2, 1) := by decide +kernel
theorem dX7_added_40 : decode cX7_added 40 = .ok (.aload_n 0, 1) := by decide +kernel
theorem dX7_added_41 : decode cX7_added 41 = .ok (.invokevirtual 170, 3) := by decide +kernel
theorem dX7_added_44 : decode cX7_added 44 = .ok (.aload_n 0, 1) := by decide +kernel
theorem dX7_added_45 : decode cX7_added 45 = .ok (.invokevirtual 212, 3) := by decide +kernel
theorem dX7_added_48 : decode cX7_added 48 = .ok (.istore_n 3, 1) := by decide +kernel
theorem dX7_added_49 : decode cX7_added 49 = .ok (.iload_n 2, 1) := by decide +kernel
theorem dX7_added_50 : decode cX7_added 50 = .ok (.ifCond .eq 9, 3) := by decide +kernel
theorem dX7_added_53 : decode cX7_added 53 = .ok (.iload_n 1, 1) := by decide +kernel
theorem dX7_added_54 : decode cX7_added 54 = .ok (.iload_n 3, 1) := by decide +kernel
theorem dX7_added_55 : decode cX7_added 55 = .ok (.iadd, 1) := by decide +kernel
theorem dX7_added_56 : decode cX7_added 56 = .ok (.goto 6, 3) := by decide +kernel
theorem dX7_added_59 : decode cX7_added 59 = .ok (.iload_n 1, 1) := by decide +kernel
theorem dX7_added_60 : decode cX7_added 60 = .ok (.iload_n 3, 1) := by decide +kernel
theorem dX7_added_61 : decode cX7_added 61 = .ok (.isub, 1) := by decide +kernel
theorem dX7_added_62 : decode cX7_added 62 = .ok (.istore_n 1, 1) := by decide +kernel
theorem dX7_added_63 : decode cX7_added 63 = .ok (.goto (-58), 3) := by decide +kernel
theorem dX7_added_66 : decode cX7_added 66 = .ok (.iload_n 1, 1) := by decide +kernel
theorem dX7_added_67 : decode cX7_added 67 = .ok (.ireturn, 1) := by decide +kernel
theorem dX7_not_0 : decode cX7_not 0 = .ok (.aload_n 0, 1) := by decide +kernel
theorem dX7_not_1 : decode cX7_not 1 = .ok (.bipush 110, 2) := by decide +kernel
theorem dX7_not_3 : decode cX7_not 3 = .ok (.bipush 111, 2) := by decide +kernel
theorem dX7_not_5 : decode cX7_not 5 = .ok (.bipush 116, 2) := by decide +kernel
theorem dX7_not_7 : decode cX7_not 7 = .ok (.iconst 0, 1) := by decide +kernel
theorem dX7_not_8 : decode cX7_not 8 = .ok (.iconst 0, 1) := by decide +kernel
theorem dX7_not_9 : decode cX7_not 9 = .ok (.iconst 0, 1) := by decide +kernel
theorem dX7_not_10 : decode cX7_not 10 = .ok (.iconst 0, 1) := by decide +kernel
theorem dX7_not_11 : decode cX7_not 11 = .ok (.iconst 0, 1) := by decide +kernel
theorem dX7_not_12 : decode cX7_not 12 = .ok (.invokevirtual 173, 3) := by decide +kernel
theorem dX7_not_15 : decode cX7_not 15 = .ok (.ifCond .eq 37, 3) := by decide +kernel
theorem dX7_not_18 : decode cX7_not 18 = .ok (.aload_n 0, 1) := by decide +kernel
theorem dX7_not_19 : decode cX7_not 19 = .ok (.invokevirtual 198, 3) := by decide +kernel
theorem dX7_not_22 : decode cX7_not 22 = .ok (.ifCond .ne 5, 3) := by decide +kernel
theorem dX7_not_25 : decode cX7_not 25 = .ok (.iconst 0, 1) := by decide +kernel
theorem dX7_not_26 : decode cX7_not 26 = .ok (.ireturn, 1) := by decide +kernel
theorem dX7_not_27 : decode cX7_not 27 = .ok (.aload_n 0, 1) := by decide +kernel
theorem dX7_not_28 : decode cX7_not 28 = .ok (.invokevirtual 217, 3) := by decide +kernel
theorem dX7_not_31 : decode cX7_not 31 = .ok (.istore_n 1, 1) := by decide +kernel
theorem dX7_not_32 : decode cX7_not 32 = .ok (.aload_n 0, 1) := by decide +kernel
theorem dX7_not_33 : decode cX7_not 33 = .ok (.dup, 1) := by decide +kernel
theorem dX7_not_34 : decode cX7_not 34 = .ok (.getfield 164, 3) := by decide +kernel
theorem dX7_not_37 : decode cX7_not 37 = .ok (.iconst 1, 1) := by decide +kernel
theorem dX7_not_38 : decode cX7_not 38 = .ok (.isub, 1) := by decide +kernel
theorem dX7_not_39 : decode cX7_not 39 = .ok (.putfield 164, 3) := by decide +kernel
theorem dX7_not_42 : decode cX7_not 42 = .ok (.iload_n 1, 1) := by decide +kernel
theorem dX7_not_43 : decode cX7_not 43 = .ok (.ifCond .ne 7, 3) := by decide +kernel
theorem dX7_not_46 : decode cX7_not 46 = .ok (.iconst 1, 1) := by decide +kernel
theorem dX7_not_47 : decode cX7_not 47 = .ok (.goto 4, 3) := by decide +kernel
theorem dX7_not_50 : decode cX7_not 50 = .ok (.iconst 0, 1) := by decide +kernel
theorem dX7_not_51 : decode cX7_not 51 = .ok (.ireturn, 1) := by decide +kernel
theorem dX7_not_52 : decode cX7_not 52 = .ok (.aload_n 0, 1) := by decide +kernel
theorem dX7_not_53 : decode cX7_not 53 = .ok (.invokevirtual 220, 3) := by decide +kernel
theorem dX7_not_56 : decode cX7_not 56 = .ok (.istore_n 1, 1) := by decide +kernel
theorem dX7_not_57 : decode cX7_not 57 = .ok (.aload_n 0, 1) := by decide +kernel
theorem dX7_not_58 : decode cX7_not 58 = .ok (.bipush 60, 2) := by decide +kernel
theorem dX7_not_60 : decode cX7_not 60 = .ok (.invokevirtual 195, 3) := by decide +kernel
theorem dX7_not_63 : decode cX7_not 63 = .ok (.ifCond .ne 14, 3) := by decide +kernel
theorem dX7_not_66 : decode cX7_not 66 = .ok (.aload_n 0, 1) := by decide +kernel
theorem dX7_not_67 : decode cX7_not 67 = .ok (.bipush 61, 2) := by decide +kernel
theorem dX7_not_69 : decode cX7_not 69 = .ok (.invokevirtual 195, 3) := by decide +kernel
theorem dX7_not_72 : decode cX7_not 72 = .ok (.ifCond .ne 5, 3) := by decide +kernel
theorem dX7_not_75 : decode cX7_not 75 = .ok (.iload_n 1, 1) := by decide +kernel
theorem dX7_not_76 : decode cX7_not 76 = .ok (.ireturn, 1) := by decide +kernel
theorem dX7_not_77 : decode cX7_not 77 = .ok (.aload_n 0, 1) := by decide +kernel
theorem dX7_not_78 : decode cX7_not 78 = .ok (.getfield 149, 3) := by decide +kernel
theorem dX7_not_81 : decode cX7_not 81 = .ok (.ldc2_w 223, 3) := by decide +kernel
theorem dX7_not_84 : decode cX7_not 84 = .ok (.lcmp, 1) := by decide +kernel
theorem dX7_not_85 : decode cX7_not 85 = .ok (.ifCond .ne 7, 3) := by decide +kernel
theorem dX7_not_88 : decode cX7_not 88 = .ok (.iconst 1, 1) := by decide +kernel
theorem dX7_not_89 : decode cX7_not 89 = .ok (.goto 4, 3) := by decide +kernel
theorem dX7_not_92 : decode cX7_not 92 = .ok (.iconst 0, 1) := by decide +kernel
theorem dX7_not_93 : decode cX7_not 93 = .ok (.istore_n 2, 1) := by decide +kernel
theorem dX7_not_94 : decode cX7_not 94 = .ok (.aload_n 0, 1) := by decide +kernel
theorem dX7_not_95 : decode cX7_not 95 = .ok (.invokevirtual 170, 3) := by decide +kernel
theorem dX7_not_98 : decode cX7_not 98 = .ok (.aload_n 0, 1) := by decide +kernel
theorem dX7_not_99 : decode cX7_not 99 = .ok (.invokevirtual 220, 3) := by decide +kernel
theorem dX7_not_102 : decode cX7_not 102 = .ok (.istore_n 3, 1) := by decide +kernel
theorem dX7_not_103 : decode cX7_not 103 = .ok (.iload_n 2, 1) := by decide +kernel
theorem dX7_not_104 : decode cX7_not 104 = .ok (.ifCond .eq 11, 3) := by decide +kernel
theorem dX7_not_107 : decode cX7_not 107 = .ok (.iload_n 1, 1) := by decide +kernel
theorem dX7_not_108 : decode cX7_not 108 = .ok (.iload_n 3, 1) := by decide +kernel
theorem dX7_not_109 : decode cX7_not 109 = .ok (.if_icmp .ge 15, 3) := by decide +kernel
theorem dX7_not_112 : decode cX7_not 112 = .ok (.goto 8, 3) := by decide +kernel
theorem dX7_not_115 : decode cX7_not 115 = .ok (.iload_n 1, 1) := by decide +kernel
theorem dX7_not_116 : decode cX7_not 116 = .ok (.iload_n 3, 1) := by decide +kernel
theorem dX7_not_117 : decode cX7_not 117 = .ok (.if_icmp .ne 7, 3) := by decide +kernel
theorem dX7_not_120 : decode cX7_not 120 = .ok (.iconst 1, 1) := by decide +kernel
theorem dX7_not_121 : decode cX7_not 121 = .ok (.goto 4, 3) := by decide +kernel
theorem dX7_not_124 : decode cX7_not 124 = .ok (.iconst 0, 1) := by decide +kernel
theorem dX7_not_125 : decode cX7_not 125 = .ok (.ireturn, 1) := by decide +kernel
theorem dX7_both_0 : decode cX7_both 0 = .ok (.aload_n 0, 1) := by decide +kernel
theorem dX7_both_1 : decode cX7_both 1 = .ok (.invokevirtual 217, 3) := by decide +kernel
theorem dX7_both_4 : decode cX7_both 4 = .ok (.istore_n 1, 1) := by decide +kernel
theorem dX7_both_5 : decode cX7_both 5 = .ok (.aload_n 0, 1) := by decide +kernel
theorem dX7_both_6 : decode cX7_both 6 = .ok (.bipush 97, 2) := by decide +kernel
theorem dX7_both_8 : decode cX7_both 8 = .ok (.bipush 110, 2) := by decide +kernel
theorem dX7_both_10 : decode cX7_both 10 = .ok (.bipush 100, 2) := by decide +kernel
theorem dX7_both_12 : decode cX7_both 12 = .ok (.iconst 0, 1) := by decide +kernel
theorem dX7_both_13 : decode cX7_both 13 = .ok (.iconst 0, 1) := by decide +kernel
theorem dX7_both_14 : decode cX7_both 14 = .ok (.iconst 0, 1) := by decide +kernel
theorem dX7_both_15 : decode cX7_both 15 = .ok (.iconst 0, 1) := by decide +kernel
theorem dX7_both_16 : decode cX7_both 16 = .ok (.iconst 0, 1) := by decide +kernel
theorem dX7_both_17 : decode cX7_both 17 = .ok (.invokevirtual 173, 3) := by decide +kernel
theorem dX7_both_20 : decode cX7_both 20 = .ok (.ifCond .eq 29, 3) := by decide +kernel
theorem dX7_both_23 : decode cX7_both 23 = .ok (.aload_n 0, 1) := by decide +kernel
theorem dX7_both_24 : decode cX7_both 24 = .ok (.invokevirtual 170, 3) := by decide +kernel
theorem dX7_both_27 : decode cX7_both 27 = .ok (.aload_n 0, 1) := by decide +kernel
theorem dX7_both_28 : decode cX7_both 28 = .ok (.invokevirtual 217, 3) := by decide +kernel
theorem dX7_both_31 : decode cX7_both 31 = .ok (.istore_n 2, 1) := by decide +kernel
theorem dX7_both_32 : decode cX7_both 32 = .ok (.iload_n 1, 1) := by decide +kernel
theorem dX7_both_33 : decode cX7_both 33 = .ok (.ifCond .eq 11, 3) := by decide +kernel
theorem dX7_both_36 : decode cX7_both 36 = .ok (.iload_n 2, 1) := by decide +kernel
theorem dX7_both_37 : decode cX7_both 37 = .ok (.ifCond .eq 7, 3) := by decide +kernel
theorem dX7_both_40 : decode cX7_both 40 = .ok (.iconst 1, 1) := by decide +kernel
theorem dX7_both_41 : decode cX7_both 41 = .ok (.goto 4, 3) := by decide +kernel
theorem dX7_both_44 : decode cX7_both 44 = .ok (.iconst 0, 1) := by decide +kernel
theorem dX7_both_45 : decode cX7_both 45 = .ok (.istore_n 1, 1) := by decide +kernel
theorem dX7_both_46 : decode cX7_both 46 = .ok (.goto (-41), 3) := by decide +kernel
theorem dX7_both_49 : decode cX7_both 49 = .ok (.iload_n 1, 1) := by decide +kernel
theorem dX7_both_50 : decode cX7_both 50 = .ok (.ireturn, 1) := by decide +kernel
theorem dX7_either_0 : decode cX7_either 0 = .ok (.aload_n 0, 1) := by decide +kernel
theorem dX7_either_1 : decode cX7_either 1 = .ok (.invokevirtual 225, 3) := by decide +kernel
theorem dX7_either_4 : decode cX7_either 4 = .ok (.istore_n 1, 1) := by decide +kernel
theorem dX7_either_5 : decode cX7_either 5 = .ok (.aload_n 0, 1) := by decide +kernel
theorem dX7_either_6 : decode cX7_either 6 = .ok (.bipush 111, 2) := by decide +kernel
theorem dX7_either_8 : decode cX7_either 8 = .ok (.bipush 114, 2) := by decide +kernel
theorem dX7_either_10 : decode cX7_either 10 = .ok (.iconst 0, 1) := by decide +kernel
theorem dX7_either_11 : decode cX7_either 11 = .ok (.iconst 0, 1) := by decide +kernel
theorem dX7_either_12 : decode cX7_either 12 = .ok (.iconst 0, 1) := by decide +kernel
theorem dX7_either_13 : decode cX7_either 13 = .ok (.iconst 0, 1) := by decide +kernel
theorem dX7_either_14 : decode cX7_either 14 = .ok (.iconst 0, 1) := by decide +kernel
theorem dX7_either_15 : decode cX7_either 15 = .ok (.iconst 0, 1) := by decide +kernel
theorem dX7_either_16 : decode cX7_either 16 = .ok (.invokevirtual 173, 3) := by decide +kernel
theorem dX7_either_19 : decode cX7_either 19 = .ok (.ifCond .eq 29, 3) := by decide +kernel
theorem dX7_either_22 : decode cX7_either 22 = .ok (.aload_n 0, 1) := by decide +kernel
theorem dX7_either_23 : decode cX7_either 23 = .ok (.invokevirtual 170, 3) := by decide +kernel
theorem dX7_either_26 : decode cX7_either 26 = .ok (.aload_n 0, 1) := by decide +kernel
theorem dX7_either_27 : decode cX7_either 27 = .ok (.invokevirtual 225, 3) := by decide +kernel
theorem dX7_either_30 : decode cX7_either 30 = .ok (.istore_n 2, 1) := by decide +kernel
theorem dX7_either_31 : decode cX7_either 31 = .ok (.iload_n 1, 1) := by decide +kernel
theorem dX7_either_32 : decode cX7_either 32 = .ok (.ifCond .ne 7, 3) := by decide +kernel
theorem dX7_either_35 : decode cX7_either 35 = .ok (.iload_n 2, 1) := by decide +kernel
theorem dX7_either_36 : decode cX7_either 36 = .ok (.ifCond .eq 7, 3) := by decide +kernel
theorem dX7_either_39 : decode cX7_either 39 = .ok (.iconst 1, 1) := by decide +kernel
theorem dX7_either_40 : decode cX7_either 40 = .ok (.goto 4, 3) := by decide +kernel
theorem dX7_either_43 : decode cX7_either 43 = .ok (.iconst 0, 1) := by decide +kernel
theorem dX7_either_44 : decode cX7_either 44 = .ok (.istore_n 1, 1) := by decide +kernel
theorem dX7_either_45 : decode cX7_either 45 = .ok (.goto (-40), 3) := by decide +kernel
theorem dX7_either_48 : decode cX7_either 48 = .ok (.iload_n 1, 1) := by decide +kernel
theorem dX7_either_49 : decode cX7_either 49 = .ok (.ireturn, 1) := by decide +kernel
theorem dX7_part_0 : decode cX7_part 0 = .ok (.iload_n 1, 1) := by decide +kernel
theorem dX7_part_1 : decode cX7_part 1 = .ok (.ifCond .ne 7, 3) := by decide +kernel
theorem dX7_part_4 : decode cX7_part 4 = .ok (.aload_n 0, 1) := by decide +kernel
theorem dX7_part_5 : decode cX7_part 5 = .ok (.invokevirtual 167, 3) := by decide +kernel
theorem dX7_part_8 : decode cX7_part 8 = .ok (.aload_n 0, 1) := by decide +kernel
theorem dX7_part_9 : decode cX7_part 9 = .ok (.getfield 155, 3) := by decide +kernel
theorem dX7_part_12 : decode cX7_part 12 = .ok (.ifCond .ne 7, 3) := by decide +kernel
theorem dX7_part_15 : decode cX7_part 15 = .ok (.aload_n 0, 1) := by decide +kernel
theorem dX7_part_16 : decode cX7_part 16 = .ok (.invokevirtual 170, 3) := by decide +kernel
theorem dX7_part_19 : decode cX7_part 19 = .ok (.aload_n 0, 1) := by decide +kernel
theorem dX7_part_20 : decode cX7_part 20 = .ok (.getfield 155, 3) := by decide +kernel
theorem dX7_part_23 : decode cX7_part 23 = .ok (.ifCond .eq 7, 3) := by decide +kernel
theorem dX7_part_26 : decode cX7_part 26 = .ok (.iconst 0, 1) := by decide +kernel
theorem dX7_part_27 : decode cX7_part 27 = .ok (.goto 7, 3) := by decide +kernel
theorem dX7_part_30 : decode cX7_part 30 = .ok (.aload_n 0, 1) := by decide +kernel
theorem dX7_part_31 : decode cX7_part 31 = .ok (.invokevirtual 206, 3) := by decide +kernel
theorem dX7_part_34 : decode cX7_part 34 = .ok (.istore_n 2, 1) := by decide +kernel
theorem dX7_part_35 : decode cX7_part 35 = .ok (.aload_n 0, 1) := by decide +kernel
theorem dX7_part_36 : decode cX7_part 36 = .ok (.bipush 59, 2) := by decide +kernel
theorem dX7_part_38 : decode cX7_part 38 = .ok (.invokevirtual 195, 3) := by decide +kernel
theorem dX7_part_41 : decode cX7_part 41 = .ok (.ifCond .ne 7, 3) := by decide +kernel
theorem dX7_part_44 : decode cX7_part 44 = .ok (.aload_n 0, 1) := by decide +kernel
theorem dX7_part_45 : decode cX7_part 45 = .ok (.invokevirtual 167, 3) := by decide +kernel
theorem dX7_part_48 : decode cX7_part 48 = .ok (.aload_n 0, 1) := by decide +kernel
theorem dX7_part_49 : decode cX7_part 49 = .ok (.getfield 155, 3) := by decide +kernel
theorem dX7_part_52 : decode cX7_part 52 = .ok (.ifCond .ne 7, 3) := by decide +kernel
theorem dX7_part_55 : decode cX7_part 55 = .ok (.aload_n 0, 1) := by decide +kernel
theorem dX7_part_56 : decode cX7_part 56 = .ok (.invokevirtual 170, 3) := by decide +kernel
theorem dX7_part_59 : decode cX7_part 59 = .ok (.iload_n 2, 1) := by decide +kernel
theorem dX7_part_60 : decode cX7_part 60 = .ok (.ireturn, 1) := by decide +kernel
theorem dX7_read_0 : decode cX7_read 0 = .ok (.aload_n 0, 1) := by decide +kernel
theorem dX7_read_1 : decode cX7_read 1 = .ok (.sipush 160, 3) := by decide +kernel
theorem dX7_read_4 : decode cX7_read 4 = .ok (.iload_n 1, 1) := by decide +kernel
theorem dX7_read_5 : decode cX7_read 5 = .ok (.imul, 1) := by decide +kernel
theorem dX7_read_6 : decode cX7_read 6 = .ok (.putfield 126, 3) := by decide +kernel
theorem dX7_read_9 : decode cX7_read 9 = .ok (.aload_n 0, 1) := by decide +kernel
theorem dX7_read_10 : decode cX7_read 10 = .ok (.aload_n 0, 1) := by decide +kernel
theorem dX7_read_11 : decode cX7_read 11 = .ok (.getfield 17, 3) := by decide +kernel
theorem dX7_read_14 : decode cX7_read 14 = .ok (.iload_n 1, 1) := by decide +kernel
theorem dX7_read_15 : decode cX7_read 15 = .ok (.iaload, 1) := by decide +kernel
theorem dX7_read_16 : decode cX7_read 16 = .ok (.putfield 123, 3) := by decide +kernel
theorem dX7_read_19 : decode cX7_read 19 = .ok (.aload_n 0, 1) := by decide +kernel
theorem dX7_read_20 : decode cX7_read 20 = .ok (.iconst 0, 1) := by decide +kernel
theorem dX7_read_21 : decode cX7_read 21 = .ok (.putfield 129, 3) := by decide +kernel
theorem dX7_read_24 : decode cX7_read 24 = .ok (.aload_n 0, 1) := by decide +kernel
theorem dX7_read_25 : decode cX7_read 25 = .ok (.iconst 0, 1) := by decide +kernel
theorem dX7_read_26 : decode cX7_read 26 = .ok (.putfield 164, 3) := by decide +kernel
theorem dX7_read_29 : decode cX7_read 29 = .ok (.aload_n 0, 1) := by decide +kernel
theorem dX7_read_30 : decode cX7_read 30 = .ok (.iconst 0, 1) := by decide +kernel
theorem dX7_read_31 : decode cX7_read 31 = .ok (.putfield 155, 3) := by decide +kernel
theorem dX7_read_34 : decode cX7_read 34 = .ok (.aload_n 0, 1) := by decide +kernel
theorem dX7_read_35 : decode cX7_read 35 = .ok (.invokevirtual 170, 3) := by decide +kernel
theorem dX7_read_38 : decode cX7_read 38 = .ok (.aload_n 0, 1) := by decide +kernel
theorem dX7_read_39 : decode cX7_read 39 = .ok (.aload_n 0, 1) := by decide +kernel
theorem dX7_read_40 : decode cX7_read 40 = .ok (.bipush 116, 2) := by decide +kernel
theorem dX7_read_42 : decode cX7_read 42 = .ok (.bipush 117, 2) := by decide +kernel
theorem dX7_read_44 : decode cX7_read 44 = .ok (.bipush 114, 2) := by decide +kernel
theorem dX7_read_46 : decode cX7_read 46 = .ok (.bipush 110, 2) := by decide +kernel
theorem dX7_read_48 : decode cX7_read 48 = .ok (.bipush 115, 2) := by decide +kernel
theorem dX7_read_50 : decode cX7_read 50 = .ok (.iconst 0, 1) := by decide +kernel
theorem dX7_read_51 : decode cX7_read 51 = .ok (.iconst 0, 1) := by decide +kernel
theorem dX7_read_52 : decode cX7_read 52 = .ok (.iconst 0, 1) := by decide +kernel
theorem dX7_read_53 : decode cX7_read 53 = .ok (.invokevirtual 173, 3) := by decide +kernel
theorem dX7_read_56 : decode cX7_read 56 = .ok (.invokevirtual 228, 3) := by decide +kernel
theorem dX7_read_59 : decode cX7_read 59 = .ok (.istore_n 3, 1) := by decide +kernel
theorem dX7_read_60 : decode cX7_read 60 = .ok (.aload_n 0, 1) := by decide +kernel
theorem dX7_read_61 : decode cX7_read 61 = .ok (.getfield 155, 3) := by decide +kernel
theorem dX7_read_64 : decode cX7_read 64 = .ok (.ifCond .eq 7, 3) := by decide +kernel
theorem dX7_read_67 : decode cX7_read 67 = .ok (.iconst 0, 1) := by decide +kernel
theorem dX7_read_68 : decode cX7_read 68 = .ok (.goto 24, 3) := by decide +kernel
theorem dX7_read_71 : decode cX7_read 71 = .ok (.aload_n 0, 1) := by decide +kernel
theorem dX7_read_72 : decode cX7_read 72 = .ok (.aload_n 0, 1) := by decide +kernel
theorem dX7_read_73 : decode cX7_read 73 = .ok (.bipush 102, 2) := by decide +kernel
theorem dX7_read_75 : decode cX7_read 75 = .ok (.bipush 105, 2) := by decide +kernel
theorem dX7_read_77 : decode cX7_read 77 = .ok (.bipush 110, 2) := by decide +kernel
theorem dX7_read_79 : decode cX7_read 79 = .ok (.bipush 100, 2) := by decide +kernel
theorem dX7_read_81 : decode cX7_read 81 = .ok (.bipush 115, 2) := by decide +kernel
theorem dX7_read_83 : decode cX7_read 83 = .ok (.iconst 0, 1) := by decide +kernel
theorem dX7_read_84 : decode cX7_read 84 = .ok (.iconst 0, 1) := by decide +kernel
theorem dX7_read_85 : decode cX7_read 85 = .ok (.iconst 0, 1) := by decide +kernel
theorem dX7_read_86 : decode cX7_read 86 = .ok (.invokevirtual 173, 3) := by decide +kernel
theorem dX7_read_89 : decode cX7_read 89 = .ok (.invokevirtual 228, 3) := by decide +kernel
theorem dX7_read_92 : decode cX7_read 92 = .ok (.istore 4, 2) := by decide +kernel
theorem dX7_read_94 : decode cX7_read 94 = .ok (.aload_n 0, 1) := by decide +kernel
theorem dX7_read_95 : decode cX7_read 95 = .ok (.getfield 155, 3) := by decide +kernel
theorem dX7_read_98 : decode cX7_read 98 = .ok (.ifCond .eq 7, 3) := by decide +kernel
theorem dX7_read_101 : decode cX7_read 101 = .ok (.iconst 0, 1) := by decide +kernel
theorem dX7_read_102 : decode cX7_read 102 = .ok (.goto 24, 3) := by decide +kernel
theorem dX7_read_105 : decode cX7_read 105 = .ok (.aload_n 0, 1) := by decide +kernel
theorem dX7_read_106 : decode cX7_read 106 = .ok (.aload_n 0, 1) := by decide +kernel
theorem dX7_read_107 : decode cX7_read 107 = .ok (.bipush 119, 2) := by decide +kernel
theorem dX7_read_109 : decode cX7_read 109 = .ok (.bipush 97, 2) := by decide +kernel
theorem dX7_read_111 : decode cX7_read 111 = .ok (.bipush 105, 2) := by decide +kernel
theorem dX7_read_113 : decode cX7_read 113 = .ok (.bipush 116, 2) := by decide +kernel
theorem dX7_read_115 : decode cX7_read 115 = .ok (.bipush 115, 2) := by decide +kernel
theorem dX7_read_117 : decode cX7_read 117 = .ok (.iconst 0, 1) := by decide +kernel
theorem dX7_read_118 : decode cX7_read 118 = .ok (.iconst 0, 1) := by decide +kernel
theorem dX7_read_119 : decode cX7_read 119 = .ok (.iconst 0, 1) := by decide +kernel
theorem dX7_read_120 : decode cX7_read 120 = .ok (.invokevirtual 173, 3) := by decide +kernel
theorem dX7_read_123 : decode cX7_read 123 = .ok (.invokevirtual 228, 3) := by decide +kernel
theorem dX7_read_126 : decode cX7_read 126 = .ok (.istore 5, 2) := by decide +kernel
theorem dX7_read_128 : decode cX7_read 128 = .ok (.aload_n 0, 1) := by decide +kernel
theorem dX7_read_129 : decode cX7_read 129 = .ok (.getfield 155, 3) := by decide +kernel
theorem dX7_read_132 : decode cX7_read 132 = .ok (.ifCond .ne 14, 3) := by decide +kernel
theorem dX7_read_135 : decode cX7_read 135 = .ok (.aload_n 0, 1) := by decide +kernel
theorem dX7_read_136 : decode cX7_read 136 = .ok (.getfield 138, 3) := by decide +kernel
theorem dX7_read_139 : decode cX7_read 139 = .ok (.ifCond .eq 7, 3) := by decide +kernel
theorem dX7_read_142 : decode cX7_read 142 = .ok (.aload_n 0, 1) := by decide +kernel
theorem dX7_read_143 : decode cX7_read 143 = .ok (.invokevirtual 167, 3) := by decide +kernel
theorem dX7_read_146 : decode cX7_read 146 = .ok (.iload_n 2, 1) := by decide +kernel
theorem dX7_read_147 : decode cX7_read 147 = .ok (.ifCond .ne 7, 3) := by decide +kernel
theorem dX7_read_150 : decode cX7_read 150 = .ok (.iload_n 3, 1) := by decide +kernel
theorem dX7_read_151 : decode cX7_read 151 = .ok (.goto 15, 3) := by decide +kernel
theorem dX7_read_154 : decode cX7_read 154 = .ok (.iload_n 2, 1) := by decide +kernel
theorem dX7_read_155 : decode cX7_read 155 = .ok (.iconst 1, 1) := by decide +kernel
theorem dX7_read_156 : decode cX7_read 156 = .ok (.if_icmp .ne 8, 3) := by decide +kernel
theorem dX7_read_159 : decode cX7_read 159 = .ok (.iload 4, 2) := by decide +kernel
theorem dX7_read_161 : decode cX7_read 161 = .ok (.goto 5, 3) := by decide +kernel
theorem dX7_read_164 : decode cX7_read 164 = .ok (.iload 5, 2) := by decide +kernel
theorem dX7_read_166 : decode cX7_read 166 = .ok (.ireturn, 1) := by decide +kernel
theorem dX7_text_0 : decode cX7_text 0 = .ok (.aload_n 0, 1) := by decide +kernel
theorem dX7_text_1 : decode cX7_text 1 = .ok (.getfield 67, 3) := by decide +kernel
theorem dX7_text_4 : decode cX7_text 4 = .ok (.bipush 6, 2) := by decide +kernel
theorem dX7_text_6 : decode cX7_text 6 = .ok (.if_icmp .ne 6, 3) := by decide +kernel
theorem dX7_text_9 : decode cX7_text 9 = .ok (.bipush (-4), 2) := by decide +kernel
theorem dX7_text_11 : decode cX7_text 11 = .ok (.ireturn, 1) := by decide +kernel
theorem dX7_text_12 : decode cX7_text 12 = .ok (.iconst 0, 1) := by decide +kernel
theorem dX7_text_13 : decode cX7_text 13 = .ok (.istore_n 1, 1) := by decide +kernel
theorem dX7_text_14 : decode cX7_text 14 = .ok (.iload_n 1, 1) := by decide +kernel
theorem dX7_text_15 : decode cX7_text 15 = .ok (.aload_n 0, 1) := by decide +kernel
theorem dX7_text_16 : decode cX7_text 16 = .ok (.getfield 120, 3) := by decide +kernel
theorem dX7_text_19 : decode cX7_text 19 = .ok (.if_icmp .ge 30, 3) := by decide +kernel
theorem dX7_text_22 : decode cX7_text 22 = .ok (.aload_n 0, 1) := by decide +kernel
theorem dX7_text_23 : decode cX7_text 23 = .ok (.getfield 13, 3) := by decide +kernel
theorem dX7_text_26 : decode cX7_text 26 = .ok (.sipush 160, 3) := by decide +kernel
theorem dX7_text_29 : decode cX7_text 29 = .ok (.aload_n 0, 1) := by decide +kernel
theorem dX7_text_30 : decode cX7_text 30 = .ok (.getfield 67, 3) := by decide +kernel
theorem dX7_text_33 : decode cX7_text 33 = .ok (.imul, 1) := by decide +kernel
theorem dX7_text_34 : decode cX7_text 34 = .ok (.iload_n 1, 1) := by decide +kernel
theorem dX7_text_35 : decode cX7_text 35 = .ok (.iadd, 1) := by decide +kernel
theorem dX7_text_36 : decode cX7_text 36 = .ok (.aload_n 0, 1) := by decide +kernel
theorem dX7_text_37 : decode cX7_text 37 = .ok (.getfield 20, 3) := by decide +kernel
theorem dX7_text_40 : decode cX7_text 40 = .ok (.iload_n 1, 1) := by decide +kernel
theorem dX7_text_41 : decode cX7_text 41 = .ok (.iaload, 1) := by decide +kernel
theorem dX7_text_42 : decode cX7_text 42 = .ok (.iastore, 1) := by decide +kernel
theorem dX7_text_43 : decode cX7_text 43 = .ok (.iinc 1 1, 3) := by decide +kernel
theorem dX7_text_46 : decode cX7_text 46 = .ok (.goto (-32), 3) := by decide +kernel
theorem dX7_text_49 : decode cX7_text 49 = .ok (.aload_n 0, 1) := by decide +kernel
theorem dX7_text_50 : decode cX7_text 50 = .ok (.getfield 17, 3) := by decide +kernel
theorem dX7_text_53 : decode cX7_text 53 = .ok (.aload_n 0, 1) := by decide +kernel
theorem dX7_text_54 : decode cX7_text 54 = .ok (.getfield 67, 3) := by decide +kernel
theorem dX7_text_57 : decode cX7_text 57 = .ok (.aload_n 0, 1) := by decide +kernel
theorem dX7_text_58 : decode cX7_text 58 = .ok (.getfield 120, 3) := by decide +kernel
theorem dX7_text_61 : decode cX7_text 61 = .ok (.iastore, 1) := by decide +kernel
theorem dX7_text_62 : decode cX7_text 62 = .ok (.aload_n 0, 1) := by decide +kernel
theorem dX7_text_63 : decode cX7_text 63 = .ok (.iconst 0, 1) := by decide +kernel
theorem dX7_text_64 : decode cX7_text 64 = .ok (.putfield 120, 3) := by decide +kernel
theorem dX7_text_67 : decode cX7_text 67 = .ok (.aload_n 0, 1) := by decide +kernel
theorem dX7_text_68 : decode cX7_text 68 = .ok (.aload_n 0, 1) := by decide +kernel
theorem dX7_text_69 : decode cX7_text 69 = .ok (.getfield 67, 3) := by decide +kernel
theorem dX7_text_72 : decode cX7_text 72 = .ok (.iconst 0, 1) := by decide +kernel
theorem dX7_text_73 : decode cX7_text 73 = .ok (.invokevirtual 232, 3) := by decide +kernel
theorem dX7_text_76 : decode cX7_text 76 = .ok (.istore_n 1, 1) := by decide +kernel
theorem dX7_text_77 : decode cX7_text 77 = .ok (.aload_n 0, 1) := by decide +kernel
theorem dX7_text_78 : decode cX7_text 78 = .ok (.getfield 155, 3) := by decide +kernel
theorem dX7_text_81 : decode cX7_text 81 = .ok (.ifCond .eq 11, 3) := by decide +kernel
theorem dX7_text_84 : decode cX7_text 84 = .ok (.bipush (-100), 2) := by decide +kernel
theorem dX7_text_86 : decode cX7_text 86 = .ok (.aload_n 0, 1) := by decide +kernel
theorem dX7_text_87 : decode cX7_text 87 = .ok (.getfield 158, 3) := by decide +kernel
theorem dX7_text_90 : decode cX7_text 90 = .ok (.isub, 1) := by decide +kernel
theorem dX7_text_91 : decode cX7_text 91 = .ok (.ireturn, 1) := by decide +kernel
theorem dX7_text_92 : decode cX7_text 92 = .ok (.aload_n 0, 1) := by decide +kernel
theorem dX7_text_93 : decode cX7_text 93 = .ok (.dup, 1) := by decide +kernel
theorem dX7_text_94 : decode cX7_text 94 = .ok (.getfield 67, 3) := by decide +kernel
theorem dX7_text_97 : decode cX7_text 97 = .ok (.iconst 1, 1) := by decide +kernel
theorem dX7_text_98 : decode cX7_text 98 = .ok (.iadd, 1) := by decide +kernel
theorem dX7_text_99 : decode cX7_text 99 = .ok (.putfield 67, 3) := by decide +kernel
theorem dX7_text_102 : decode cX7_text 102 = .ok (.aload_n 0, 1) := by decide +kernel
theorem dX7_text_103 : decode cX7_text 103 = .ok (.getfield 67, 3) := by decide +kernel
theorem dX7_text_106 : decode cX7_text 106 = .ok (.iconst 1, 1) := by decide +kernel
theorem dX7_text_107 : decode cX7_text 107 = .ok (.isub, 1) := by decide +kernel
theorem dX7_text_108 : decode cX7_text 108 = .ok (.ireturn, 1) := by decide +kernel
theorem dX7_force_0 : decode cX7_force 0 = .ok (.iload_n 1, 1) := by decide +kernel
theorem dX7_force_1 : decode cX7_force 1 = .ok (.i2l, 1) := by decide +kernel
theorem dX7_force_2 : decode cX7_force 2 = .ok (.lconst 0, 1) := by decide +kernel
theorem dX7_force_3 : decode cX7_force 3 = .ok (.aload_n 0, 1) := by decide +kernel
theorem dX7_force_4 : decode cX7_force 4 = .ok (.getfield 67, 3) := by decide +kernel
theorem dX7_force_7 : decode cX7_force 7 = .ok (.iconst 1, 1) := by decide +kernel
theorem dX7_force_8 : decode cX7_force 8 = .ok (.isub, 1) := by decide +kernel
theorem dX7_force_9 : decode cX7_force 9 = .ok (.i2l, 1) := by decide +kernel
theorem dX7_force_10 : decode cX7_force 10 = .ok (.invokestatic 73, 3) := by decide +kernel
theorem dX7_force_13 : decode cX7_force 13 = .ok (.ifCond .ne 6, 3) := by decide +kernel
theorem dX7_force_16 : decode cX7_force 16 = .ok (.bipush (-2), 2) := by decide +kernel
theorem dX7_force_18 : decode cX7_force 18 = .ok (.ireturn, 1) := by decide +kernel
theorem dX7_force_19 : decode cX7_force 19 = .ok (.aload_n 0, 1) := by decide +kernel
theorem dX7_force_20 : decode cX7_force 20 = .ok (.getfield 235, 3) := by decide +kernel
theorem dX7_force_23 : decode cX7_force 23 = .ok (.istore_n 2, 1) := by decide +kernel
theorem dX7_force_24 : decode cX7_force 24 = .ok (.aload_n 0, 1) := by decide +kernel
theorem dX7_force_25 : decode cX7_force 25 = .ok (.iload_n 1, 1) := by decide +kernel
theorem dX7_force_26 : decode cX7_force 26 = .ok (.putfield 235, 3) := by decide +kernel
theorem dX7_force_29 : decode cX7_force 29 = .ok (.iload_n 2, 1) := by decide +kernel
theorem dX7_force_30 : decode cX7_force 30 = .ok (.ireturn, 1) := by decide +kernel
theorem dX7_says_0 : decode cX7_says 0 = .ok (.aload_n 0, 1) := by decide +kernel
theorem dX7_says_1 : decode cX7_says 1 = .ok (.iload_n 3, 1) := by decide +kernel
theorem dX7_says_2 : decode cX7_says 2 = .ok (.putfield 177, 3) := by decide +kernel
theorem dX7_says_5 : decode cX7_says 5 = .ok (.aload_n 0, 1) := by decide +kernel
theorem dX7_says_6 : decode cX7_says 6 = .ok (.iload 4, 2) := by decide +kernel
theorem dX7_says_8 : decode cX7_says 8 = .ok (.putfield 180, 3) := by decide +kernel
theorem dX7_says_11 : decode cX7_says 11 = .ok (.aload_n 0, 1) := by decide +kernel
theorem dX7_says_12 : decode cX7_says 12 = .ok (.aload_n 0, 1) := by decide +kernel
theorem dX7_says_13 : decode cX7_says 13 = .ok (.getfield 23, 3) := by decide +kernel
theorem dX7_says_16 : decode cX7_says 16 = .ok (.iconst 0, 1) := by decide +kernel
theorem dX7_says_17 : decode cX7_says 17 = .ok (.iaload, 1) := by decide +kernel
theorem dX7_says_18 : decode cX7_says 18 = .ok (.putfield 183, 3) := by decide +kernel
theorem dX7_says_21 : decode cX7_says 21 = .ok (.aload_n 0, 1) := by decide +kernel
theorem dX7_says_22 : decode cX7_says 22 = .ok (.aload_n 0, 1) := by decide +kernel
theorem dX7_says_23 : decode cX7_says 23 = .ok (.iload_n 2, 1) := by decide +kernel
theorem dX7_says_24 : decode cX7_says 24 = .ok (.iconst 0, 1) := by decide +kernel
theorem dX7_says_25 : decode cX7_says 25 = .ok (.invokevirtual 87, 3) := by decide +kernel
theorem dX7_says_28 : decode cX7_says 28 = .ok (.putfield 186, 3) := by decide +kernel
theorem dX7_says_31 : decode cX7_says 31 = .ok (.aload_n 0, 1) := by decide +kernel
theorem dX7_says_32 : decode cX7_says 32 = .ok (.aload_n 0, 1) := by decide +kernel
theorem dX7_says_33 : decode cX7_says 33 = .ok (.iload_n 2, 1) := by decide +kernel
theorem dX7_says_34 : decode cX7_says 34 = .ok (.iconst 1, 1) := by decide +kernel
theorem dX7_says_35 : decode cX7_says 35 = .ok (.invokevirtual 87, 3) := by decide +kernel
theorem dX7_says_38 : decode cX7_says 38 = .ok (.bipush 10, 2) := by decide +kernel
theorem dX7_says_40 : decode cX7_says 40 = .ok (.idiv, 1) := by decide +kernel
theorem dX7_says_41 : decode cX7_says 41 = .ok (.putfield 189, 3) := by decide +kernel
theorem dX7_says_44 : decode cX7_says 44 = .ok (.aload_n 0, 1) := by decide +kernel
theorem dX7_says_45 : decode cX7_says 45 = .ok (.iload 5, 2) := by decide +kernel
theorem dX7_says_47 : decode cX7_says 47 = .ok (.putfield 192, 3) := by decide +kernel
theorem dX7_says_50 : decode cX7_says 50 = .ok (.aload_n 0, 1) := by decide +kernel
theorem dX7_says_51 : decode cX7_says 51 = .ok (.aload_n 0, 1) := by decide +kernel
theorem dX7_says_52 : decode cX7_says 52 = .ok (.getfield 235, 3) := by decide +kernel
theorem dX7_says_55 : decode cX7_says 55 = .ok (.iload_n 1, 1) := by decide +kernel
theorem dX7_says_56 : decode cX7_says 56 = .ok (.invokevirtual 232, 3) := by decide +kernel
theorem dX7_says_59 : decode cX7_says 59 = .ok (.iload_n 1, 1) := by decide +kernel
theorem dX7_says_60 : decode cX7_says 60 = .ok (.iconst 1, 1) := by decide +kernel
theorem dX7_says_61 : decode cX7_says 61 = .ok (.if_icmp .ne 7, 3) := by decide +kernel
theorem dX7_says_64 : decode cX7_says 64 = .ok (.iconst 1, 1) := by decide +kernel
theorem dX7_says_65 : decode cX7_says 65 = .ok (.goto 4, 3) := by decide +kernel
theorem dX7_says_68 : decode cX7_says 68 = .ok (.iconst 0, 1) := by decide +kernel
theorem dX7_says_69 : decode cX7_says 69 = .ok (.iload_n 1, 1) := by decide +kernel
theorem dX7_says_70 : decode cX7_says 70 = .ok (.ifCond .ne 8, 3) := by decide +kernel
theorem dX7_says_73 : decode cX7_says 73 = .ok (.bipush 50, 2) := by decide +kernel
theorem dX7_says_75 : decode cX7_says 75 = .ok (.goto 15, 3) := by decide +kernel
theorem dX7_says_78 : decode cX7_says 78 = .ok (.iload_n 1, 1) := by decide +kernel
theorem dX7_says_79 : decode cX7_says 79 = .ok (.iconst 1, 1) := by decide +kernel
theorem dX7_says_80 : decode cX7_says 80 = .ok (.if_icmp .ne 8, 3) := by decide +kernel
theorem dX7_says_83 : decode cX7_says 83 = .ok (.bipush 99, 2) := by decide +kernel
theorem dX7_says_85 : decode cX7_says 85 = .ok (.goto 5, 3) := by decide +kernel
theorem dX7_says_88 : decode cX7_says 88 = .ok (.bipush 9, 2) := by decide +kernel
theorem dX7_says_90 : decode cX7_says 90 = .ok (.invokestatic 238, 3) := by decide +kernel
theorem dX7_says_93 : decode cX7_says 93 = .ok (.ireturn, 1) := by decide +kernel
theorem dX7_needsOf_0 : decode cX7_needsOf 0 = .ok (.aload_n 0, 1) := by decide +kernel
theorem dX7_needsOf_1 : decode cX7_needsOf 1 = .ok (.getfield 26, 3) := by decide +kernel
theorem dX7_needsOf_4 : decode cX7_needsOf 4 = .ok (.iload_n 1, 1) := by decide +kernel
theorem dX7_needsOf_5 : decode cX7_needsOf 5 = .ok (.iaload, 1) := by decide +kernel
theorem dX7_needsOf_6 : decode cX7_needsOf 6 = .ok (.istore_n 3, 1) := by decide +kernel
theorem dX7_needsOf_7 : decode cX7_needsOf 7 = .ok (.iload_n 3, 1) := by decide +kernel
theorem dX7_needsOf_8 : decode cX7_needsOf 8 = .ok (.iconst 1, 1) := by decide +kernel
theorem dX7_needsOf_9 : decode cX7_needsOf 9 = .ok (.if_icmp .ne 14, 3) := by decide +kernel
theorem dX7_needsOf_12 : decode cX7_needsOf 12 = .ok (.iload_n 2, 1) := by decide +kernel
theorem dX7_needsOf_13 : decode cX7_needsOf 13 = .ok (.aload_n 0, 1) := by decide +kernel
theorem dX7_needsOf_14 : decode cX7_needsOf 14 = .ok (.getfield 23, 3) := by decide +kernel
theorem dX7_needsOf_17 : decode cX7_needsOf 17 = .ok (.iconst 0, 1) := by decide +kernel
theorem dX7_needsOf_18 : decode cX7_needsOf 18 = .ok (.iaload, 1) := by decide +kernel
theorem dX7_needsOf_19 : decode cX7_needsOf 19 = .ok (.iadd, 1) := by decide +kernel
theorem dX7_needsOf_20 : decode cX7_needsOf 20 = .ok (.goto 51, 3) := by decide +kernel
theorem dX7_needsOf_23 : decode cX7_needsOf 23 = .ok (.iload_n 3, 1) := by decide +kernel
theorem dX7_needsOf_24 : decode cX7_needsOf 24 = .ok (.iconst 3, 1) := by decide +kernel
theorem dX7_needsOf_25 : decode cX7_needsOf 25 = .ok (.if_icmp .ne 16, 3) := by decide +kernel
theorem dX7_needsOf_28 : decode cX7_needsOf 28 = .ok (.iconst 2, 1) := by decide +kernel
theorem dX7_needsOf_29 : decode cX7_needsOf 29 = .ok (.iload_n 2, 1) := by decide +kernel
theorem dX7_needsOf_30 : decode cX7_needsOf 30 = .ok (.aload_n 0, 1) := by decide +kernel
theorem dX7_needsOf_31 : decode cX7_needsOf 31 = .ok (.getfield 23, 3) := by decide +kernel
theorem dX7_needsOf_34 : decode cX7_needsOf 34 = .ok (.iconst 0, 1) := by decide +kernel
theorem dX7_needsOf_35 : decode cX7_needsOf 35 = .ok (.iaload, 1) := by decide +kernel
theorem dX7_needsOf_36 : decode cX7_needsOf 36 = .ok (.iadd, 1) := by decide +kernel
theorem dX7_needsOf_37 : decode cX7_needsOf 37 = .ok (.imul, 1) := by decide +kernel
theorem dX7_needsOf_38 : decode cX7_needsOf 38 = .ok (.goto 33, 3) := by decide +kernel
theorem dX7_needsOf_41 : decode cX7_needsOf 41 = .ok (.iload_n 3, 1) := by decide +kernel
theorem dX7_needsOf_42 : decode cX7_needsOf 42 = .ok (.iconst 2, 1) := by decide +kernel
theorem dX7_needsOf_43 : decode cX7_needsOf 43 = .ok (.if_icmp .ne 9, 3) := by decide +kernel
theorem dX7_needsOf_46 : decode cX7_needsOf 46 = .ok (.iload_n 2, 1) := by decide +kernel
theorem dX7_needsOf_47 : decode cX7_needsOf 47 = .ok (.iconst 2, 1) := by decide +kernel
theorem dX7_needsOf_48 : decode cX7_needsOf 48 = .ok (.idiv, 1) := by decide +kernel
theorem dX7_needsOf_49 : decode cX7_needsOf 49 = .ok (.goto 22, 3) := by decide +kernel
theorem dX7_needsOf_52 : decode cX7_needsOf 52 = .ok (.iload_n 3, 1) := by decide +kernel
theorem dX7_needsOf_53 : decode cX7_needsOf 53 = .ok (.iconst 4, 1) := by decide +kernel
theorem dX7_needsOf_54 : decode cX7_needsOf 54 = .ok (.if_icmp .ne 16, 3) := by decide +kernel
theorem dX7_needsOf_57 : decode cX7_needsOf 57 = .ok (.iload_n 2, 1) := by decide +kernel
theorem dX7_needsOf_58 : decode cX7_needsOf 58 = .ok (.iconst 2, 1) := by decide +kernel
theorem dX7_needsOf_59 : decode cX7_needsOf 59 = .ok (.idiv, 1) := by decide +kernel
theorem dX7_needsOf_60 : decode cX7_needsOf 60 = .ok (.aload_n 0, 1) := by decide +kernel
theorem dX7_needsOf_61 : decode cX7_needsOf 61 = .ok (.iload_n 1, 1) := by decide +kernel
theorem dX7_needsOf_62 : decode cX7_needsOf 62 = .ok (.iconst 0, 1) := by decide +kernel
theorem dX7_needsOf_63 : decode cX7_needsOf 63 = .ok (.invokevirtual 87, 3) := by decide +kernel
theorem dX7_needsOf_66 : decode cX7_needsOf 66 = .ok (.iadd, 1) := by decide +kernel
theorem dX7_needsOf_67 : decode cX7_needsOf 67 = .ok (.goto 4, 3) := by decide +kernel
theorem dX7_needsOf_70 : decode cX7_needsOf 70 = .ok (.iload_n 2, 1) := by decide +kernel
theorem dX7_needsOf_71 : decode cX7_needsOf 71 = .ok (.istore 4, 2) := by decide +kernel
theorem dX7_needsOf_73 : decode cX7_needsOf 73 = .ok (.iload 4, 2) := by decide +kernel
theorem dX7_needsOf_75 : decode cX7_needsOf 75 = .ok (.iconst 1, 1) := by decide +kernel
theorem dX7_needsOf_76 : decode cX7_needsOf 76 = .ok (.if_icmp .ge 7, 3) := by decide +kernel
theorem dX7_needsOf_79 : decode cX7_needsOf 79 = .ok (.iconst 1, 1) := by decide +kernel
theorem dX7_needsOf_80 : decode cX7_needsOf 80 = .ok (.goto 5, 3) := by decide +kernel
theorem dX7_needsOf_83 : decode cX7_needsOf 83 = .ok (.iload 4, 2) := by decide +kernel
theorem dX7_needsOf_85 : decode cX7_needsOf 85 = .ok (.ireturn, 1) := by decide +kernel
theorem dX7_beginsNight_0 : decode cX7_beginsNight 0 = .ok (.aload_n 0, 1) := by decide +kernel
theorem dX7_beginsNight_1 : decode cX7_beginsNight 1 = .ok (.aload_n 0, 1) := by decide +kernel
theorem dX7_beginsNight_2 : decode cX7_beginsNight 2 = .ok (.getfield 23, 3) := by decide +kernel
theorem dX7_beginsNight_5 : decode cX7_beginsNight 5 = .ok (.iconst 5, 1) := by decide +kernel
theorem dX7_beginsNight_6 : decode cX7_beginsNight 6 = .ok (.iaload, 1) := by decide +kernel
theorem dX7_beginsNight_7 : decode cX7_beginsNight 7 = .ok (.putfield 242, 3) := by decide +kernel
theorem dX7_beginsNight_10 : decode cX7_beginsNight 10 = .ok (.aload_n 0, 1) := by decide +kernel
theorem dX7_beginsNight_11 : decode cX7_beginsNight 11 = .ok (.aload_n 0, 1) := by decide +kernel
theorem dX7_beginsNight_12 : decode cX7_beginsNight 12 = .ok (.getfield 23, 3) := by decide +kernel
theorem dX7_beginsNight_15 : decode cX7_beginsNight 15 = .ok (.bipush 6, 2) := by decide +kernel
theorem dX7_beginsNight_17 : decode cX7_beginsNight 17 = .ok (.iaload, 1) := by decide +kernel
theorem dX7_beginsNight_18 : decode cX7_beginsNight 18 = .ok (.putfield 245, 3) := by decide +kernel
theorem dX7_beginsNight_21 : decode cX7_beginsNight 21 = .ok (.aload_n 0, 1) := by decide +kernel
theorem dX7_beginsNight_22 : decode cX7_beginsNight 22 = .ok (.iconst 0, 1) := by decide +kernel
theorem dX7_beginsNight_23 : decode cX7_beginsNight 23 = .ok (.putfield 248, 3) := by decide +kernel
theorem dX7_beginsNight_26 : decode cX7_beginsNight 26 = .ok (.aload_n 0, 1) := by decide +kernel
theorem dX7_beginsNight_27 : decode cX7_beginsNight 27 = .ok (.iconst 0, 1) := by decide +kernel
theorem dX7_beginsNight_28 : decode cX7_beginsNight 28 = .ok (.putfield 251, 3) := by decide +kernel
theorem dX7_beginsNight_31 : decode cX7_beginsNight 31 = .ok (.aload_n 0, 1) := by decide +kernel
theorem dX7_beginsNight_32 : decode cX7_beginsNight 32 = .ok (.iconst 0, 1) := by decide +kernel
theorem dX7_beginsNight_33 : decode cX7_beginsNight 33 = .ok (.putfield 254, 3) := by decide +kernel
theorem dX7_beginsNight_36 : decode cX7_beginsNight 36 = .ok (.iconst 0, 1) := by decide +kernel
theorem dX7_beginsNight_37 : decode cX7_beginsNight 37 = .ok (.istore_n 1, 1) := by decide +kernel
theorem dX7_beginsNight_38 : decode cX7_beginsNight 38 = .ok (.iload_n 1, 1) := by decide +kernel
theorem dX7_beginsNight_39 : decode cX7_beginsNight 39 = .ok (.bipush 7, 2) := by decide +kernel
theorem dX7_beginsNight_41 : decode cX7_beginsNight 41 = .ok (.if_icmp .ge 23, 3) := by decide +kernel
theorem dX7_beginsNight_44 : decode cX7_beginsNight 44 = .ok (.aload_n 0, 1) := by decide +kernel
theorem dX7_beginsNight_45 : decode cX7_beginsNight 45 = .ok (.getfield 32, 3) := by decide +kernel
theorem dX7_beginsNight_48 : decode cX7_beginsNight 48 = .ok (.iload_n 1, 1) := by decide +kernel
theorem dX7_beginsNight_49 : decode cX7_beginsNight 49 = .ok (.iconst (-1), 1) := by decide +kernel
theorem dX7_beginsNight_50 : decode cX7_beginsNight 50 = .ok (.iastore, 1) := by decide +kernel
theorem dX7_beginsNight_51 : decode cX7_beginsNight 51 = .ok (.aload_n 0, 1) := by decide +kernel
theorem dX7_beginsNight_52 : decode cX7_beginsNight 52 = .ok (.getfield 35, 3) := by decide +kernel
theorem dX7_beginsNight_55 : decode cX7_beginsNight 55 = .ok (.iload_n 1, 1) := by decide +kernel
theorem dX7_beginsNight_56 : decode cX7_beginsNight 56 = .ok (.iconst (-1), 1) := by decide +kernel
theorem dX7_beginsNight_57 : decode cX7_beginsNight 57 = .ok (.iastore, 1) := by decide +kernel
theorem dX7_beginsNight_58 : decode cX7_beginsNight 58 = .ok (.iinc 1 1, 3) := by decide +kernel
theorem dX7_beginsNight_61 : decode cX7_beginsNight 61 = .ok (.goto (-23), 3) := by decide +kernel
theorem dX7_beginsNight_64 : decode cX7_beginsNight 64 = .ok (.return_, 1) := by decide +kernel
theorem dX7_firstFrom_0 : decode cX7_firstFrom 0 = .ok (.iconst 0, 1) := by decide +kernel
theorem dX7_firstFrom_1 : decode cX7_firstFrom 1 = .ok (.istore 4, 2) := by decide +kernel
theorem dX7_firstFrom_3 : decode cX7_firstFrom 3 = .ok (.iload_n 2, 1) := by decide +kernel
theorem dX7_firstFrom_4 : decode cX7_firstFrom 4 = .ok (.istore 5, 2) := by decide +kernel
theorem dX7_firstFrom_6 : decode cX7_firstFrom 6 = .ok (.iload 5, 2) := by decide +kernel
theorem dX7_firstFrom_8 : decode cX7_firstFrom 8 = .ok (.sipush 200, 3) := by decide +kernel
theorem dX7_firstFrom_11 : decode cX7_firstFrom 11 = .ok (.if_icmp .ge 87, 3) := by decide +kernel
theorem dX7_firstFrom_14 : decode cX7_firstFrom 14 = .ok (.iload 5, 2) := by decide +kernel
theorem dX7_firstFrom_16 : decode cX7_firstFrom 16 = .ok (.iload 4, 2) := by decide +kernel
theorem dX7_firstFrom_18 : decode cX7_firstFrom 18 = .ok (.isub, 1) := by decide +kernel
theorem dX7_firstFrom_19 : decode cX7_firstFrom 19 = .ok (.iload_n 2, 1) := by decide +kernel
theorem dX7_firstFrom_20 : decode cX7_firstFrom 20 = .ok (.aload_n 0, 1) := by decide +kernel
theorem dX7_firstFrom_21 : decode cX7_firstFrom 21 = .ok (.getfield 23, 3) := by decide +kernel
theorem dX7_firstFrom_24 : decode cX7_firstFrom 24 = .ok (.bipush 7, 2) := by decide +kernel
theorem dX7_firstFrom_26 : decode cX7_firstFrom 26 = .ok (.iaload, 1) := by decide +kernel
