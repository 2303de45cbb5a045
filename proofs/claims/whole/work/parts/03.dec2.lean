theorem dX12_init_0 : decode cX12_init 0 = .ok (.aload_n 0, 1) := by decide +kernel
theorem dX12_init_1 : decode cX12_init 1 = .ok (.invokespecial 3, 3) := by decide +kernel
theorem dX12_init_4 : decode cX12_init 4 = .ok (.aload_n 0, 1) := by decide +kernel
theorem dX12_init_5 : decode cX12_init 5 = .ok (.sipush 408, 3) := by decide +kernel
theorem dX12_init_8 : decode cX12_init 8 = .ok (.newarray .int, 2) := by decide +kernel
theorem dX12_init_10 : decode cX12_init 10 = .ok (.putfield 9, 3) := by decide +kernel
theorem dX12_init_13 : decode cX12_init 13 = .ok (.aload_n 0, 1) := by decide +kernel
theorem dX12_init_14 : decode cX12_init 14 = .ok (.sipush 408, 3) := by decide +kernel
theorem dX12_init_17 : decode cX12_init 17 = .ok (.newarray .int, 2) := by decide +kernel
theorem dX12_init_19 : decode cX12_init 19 = .ok (.putfield 13, 3) := by decide +kernel
theorem dX12_init_22 : decode cX12_init 22 = .ok (.aload_n 0, 1) := by decide +kernel
theorem dX12_init_23 : decode cX12_init 23 = .ok (.sipush 408, 3) := by decide +kernel
theorem dX12_init_26 : decode cX12_init 26 = .ok (.newarray .int, 2) := by decide +kernel
theorem dX12_init_28 : decode cX12_init 28 = .ok (.putfield 16, 3) := by decide +kernel
theorem dX12_init_31 : decode cX12_init 31 = .ok (.aload_n 0, 1) := by decide +kernel
theorem dX12_init_32 : decode cX12_init 32 = .ok (.bipush 6, 2) := by decide +kernel
theorem dX12_init_34 : decode cX12_init 34 = .ok (.newarray .int, 2) := by decide +kernel
theorem dX12_init_36 : decode cX12_init 36 = .ok (.putfield 19, 3) := by decide +kernel
theorem dX12_init_39 : decode cX12_init 39 = .ok (.aload_n 0, 1) := by decide +kernel
theorem dX12_init_40 : decode cX12_init 40 = .ok (.bipush 7, 2) := by decide +kernel
theorem dX12_init_42 : decode cX12_init 42 = .ok (.newarray .int, 2) := by decide +kernel
theorem dX12_init_44 : decode cX12_init 44 = .ok (.dup, 1) := by decide +kernel
theorem dX12_init_45 : decode cX12_init 45 = .ok (.iconst 0, 1) := by decide +kernel
theorem dX12_init_46 : decode cX12_init 46 = .ok (.iconst 1, 1) := by decide +kernel
theorem dX12_init_47 : decode cX12_init 47 = .ok (.iastore, 1) := by decide +kernel
theorem dX12_init_48 : decode cX12_init 48 = .ok (.dup, 1) := by decide +kernel
theorem dX12_init_49 : decode cX12_init 49 = .ok (.iconst 1, 1) := by decide +kernel
theorem dX12_init_50 : decode cX12_init 50 = .ok (.iconst 5, 1) := by decide +kernel
theorem dX12_init_51 : decode cX12_init 51 = .ok (.iastore, 1) := by decide +kernel
theorem dX12_init_52 : decode cX12_init 52 = .ok (.dup, 1) := by decide +kernel
theorem dX12_init_53 : decode cX12_init 53 = .ok (.iconst 2, 1) := by decide +kernel
theorem dX12_init_54 : decode cX12_init 54 = .ok (.iconst 3, 1) := by decide +kernel
theorem dX12_init_55 : decode cX12_init 55 = .ok (.iastore, 1) := by decide +kernel
theorem dX12_init_56 : decode cX12_init 56 = .ok (.dup, 1) := by decide +kernel
theorem dX12_init_57 : decode cX12_init 57 = .ok (.iconst 3, 1) := by decide +kernel
theorem dX12_init_58 : decode cX12_init 58 = .ok (.iconst 5, 1) := by decide +kernel
theorem dX12_init_59 : decode cX12_init 59 = .ok (.iastore, 1) := by decide +kernel
theorem dX12_init_60 : decode cX12_init 60 = .ok (.dup, 1) := by decide +kernel
theorem dX12_init_61 : decode cX12_init 61 = .ok (.iconst 4, 1) := by decide +kernel
theorem dX12_init_62 : decode cX12_init 62 = .ok (.iconst 2, 1) := by decide +kernel
theorem dX12_init_63 : decode cX12_init 63 = .ok (.iastore, 1) := by decide +kernel
theorem dX12_init_64 : decode cX12_init 64 = .ok (.dup, 1) := by decide +kernel
theorem dX12_init_65 : decode cX12_init 65 = .ok (.iconst 5, 1) := by decide +kernel
theorem dX12_init_66 : decode cX12_init 66 = .ok (.iconst 4, 1) := by decide +kernel
theorem dX12_init_67 : decode cX12_init 67 = .ok (.iastore, 1) := by decide +kernel
theorem dX12_init_68 : decode cX12_init 68 = .ok (.dup, 1) := by decide +kernel
theorem dX12_init_69 : decode cX12_init 69 = .ok (.bipush 6, 2) := by decide +kernel
theorem dX12_init_71 : decode cX12_init 71 = .ok (.iconst 3, 1) := by decide +kernel
theorem dX12_init_72 : decode cX12_init 72 = .ok (.iastore, 1) := by decide +kernel
theorem dX12_init_73 : decode cX12_init 73 = .ok (.putfield 22, 3) := by decide +kernel
theorem dX12_init_76 : decode cX12_init 76 = .ok (.aload_n 0, 1) := by decide +kernel
theorem dX12_init_77 : decode cX12_init 77 = .ok (.bipush 8, 2) := by decide +kernel
theorem dX12_init_79 : decode cX12_init 79 = .ok (.newarray .int, 2) := by decide +kernel
theorem dX12_init_81 : decode cX12_init 81 = .ok (.putfield 25, 3) := by decide +kernel
theorem dX12_init_84 : decode cX12_init 84 = .ok (.aload_n 0, 1) := by decide +kernel
theorem dX12_init_85 : decode cX12_init 85 = .ok (.iconst 3, 1) := by decide +kernel
theorem dX12_init_86 : decode cX12_init 86 = .ok (.anewarray 28, 3) := by decide +kernel
theorem dX12_init_89 : decode cX12_init 89 = .ok (.dup, 1) := by decide +kernel
theorem dX12_init_90 : decode cX12_init 90 = .ok (.iconst 0, 1) := by decide +kernel
theorem dX12_init_91 : decode cX12_init 91 = .ok (.ldc 30, 2) := by decide +kernel
theorem dX12_init_93 : decode cX12_init 93 = .ok (.aastore, 1) := by decide +kernel
theorem dX12_init_94 : decode cX12_init 94 = .ok (.dup, 1) := by decide +kernel
theorem dX12_init_95 : decode cX12_init 95 = .ok (.iconst 1, 1) := by decide +kernel
theorem dX12_init_96 : decode cX12_init 96 = .ok (.ldc 32, 2) := by decide +kernel
theorem dX12_init_98 : decode cX12_init 98 = .ok (.aastore, 1) := by decide +kernel
theorem dX12_init_99 : decode cX12_init 99 = .ok (.dup, 1) := by decide +kernel
theorem dX12_init_100 : decode cX12_init 100 = .ok (.iconst 2, 1) := by decide +kernel
theorem dX12_init_101 : decode cX12_init 101 = .ok (.ldc 34, 2) := by decide +kernel
theorem dX12_init_103 : decode cX12_init 103 = .ok (.aastore, 1) := by decide +kernel
theorem dX12_init_104 : decode cX12_init 104 = .ok (.putfield 36, 3) := by decide +kernel
theorem dX12_init_107 : decode cX12_init 107 = .ok (.aload_n 0, 1) := by decide +kernel
theorem dX12_init_108 : decode cX12_init 108 = .ok (.bipush 60, 2) := by decide +kernel
theorem dX12_init_110 : decode cX12_init 110 = .ok (.newarray .int, 2) := by decide +kernel
theorem dX12_init_112 : decode cX12_init 112 = .ok (.putfield 40, 3) := by decide +kernel
theorem dX12_init_115 : decode cX12_init 115 = .ok (.aload_n 0, 1) := by decide +kernel
theorem dX12_init_116 : decode cX12_init 116 = .ok (.bipush 60, 2) := by decide +kernel
theorem dX12_init_118 : decode cX12_init 118 = .ok (.newarray .int, 2) := by decide +kernel
theorem dX12_init_120 : decode cX12_init 120 = .ok (.putfield 43, 3) := by decide +kernel
theorem dX12_init_123 : decode cX12_init 123 = .ok (.aload_n 0, 1) := by decide +kernel
theorem dX12_init_124 : decode cX12_init 124 = .ok (.bipush 6, 2) := by decide +kernel
theorem dX12_init_126 : decode cX12_init 126 = .ok (.newarray .int, 2) := by decide +kernel
theorem dX12_init_128 : decode cX12_init 128 = .ok (.dup, 1) := by decide +kernel
theorem dX12_init_129 : decode cX12_init 129 = .ok (.iconst 0, 1) := by decide +kernel
theorem dX12_init_130 : decode cX12_init 130 = .ok (.iconst 0, 1) := by decide +kernel
theorem dX12_init_131 : decode cX12_init 131 = .ok (.iastore, 1) := by decide +kernel
theorem dX12_init_132 : decode cX12_init 132 = .ok (.dup, 1) := by decide +kernel
theorem dX12_init_133 : decode cX12_init 133 = .ok (.iconst 1, 1) := by decide +kernel
theorem dX12_init_134 : decode cX12_init 134 = .ok (.iconst 0, 1) := by decide +kernel
theorem dX12_init_135 : decode cX12_init 135 = .ok (.iastore, 1) := by decide +kernel
theorem dX12_init_136 : decode cX12_init 136 = .ok (.dup, 1) := by decide +kernel
theorem dX12_init_137 : decode cX12_init 137 = .ok (.iconst 2, 1) := by decide +kernel
theorem dX12_init_138 : decode cX12_init 138 = .ok (.iconst 0, 1) := by decide +kernel
theorem dX12_init_139 : decode cX12_init 139 = .ok (.iastore, 1) := by decide +kernel
theorem dX12_init_140 : decode cX12_init 140 = .ok (.dup, 1) := by decide +kernel
theorem dX12_init_141 : decode cX12_init 141 = .ok (.iconst 3, 1) := by decide +kernel
theorem dX12_init_142 : decode cX12_init 142 = .ok (.iconst 0, 1) := by decide +kernel
theorem dX12_init_143 : decode cX12_init 143 = .ok (.iastore, 1) := by decide +kernel
theorem dX12_init_144 : decode cX12_init 144 = .ok (.dup, 1) := by decide +kernel
theorem dX12_init_145 : decode cX12_init 145 = .ok (.iconst 4, 1) := by decide +kernel
theorem dX12_init_146 : decode cX12_init 146 = .ok (.iconst 0, 1) := by decide +kernel
theorem dX12_init_147 : decode cX12_init 147 = .ok (.iastore, 1) := by decide +kernel
theorem dX12_init_148 : decode cX12_init 148 = .ok (.dup, 1) := by decide +kernel
theorem dX12_init_149 : decode cX12_init 149 = .ok (.iconst 5, 1) := by decide +kernel
theorem dX12_init_150 : decode cX12_init 150 = .ok (.ldc 46, 2) := by decide +kernel
theorem dX12_init_152 : decode cX12_init 152 = .ok (.iastore, 1) := by decide +kernel
theorem dX12_init_153 : decode cX12_init 153 = .ok (.putfield 47, 3) := by decide +kernel
theorem dX12_init_156 : decode cX12_init 156 = .ok (.aload_n 0, 1) := by decide +kernel
theorem dX12_init_157 : decode cX12_init 157 = .ok (.bipush 6, 2) := by decide +kernel
theorem dX12_init_159 : decode cX12_init 159 = .ok (.newarray .int, 2) := by decide +kernel
theorem dX12_init_161 : decode cX12_init 161 = .ok (.dup, 1) := by decide +kernel
theorem dX12_init_162 : decode cX12_init 162 = .ok (.iconst 0, 1) := by decide +kernel
theorem dX12_init_163 : decode cX12_init 163 = .ok (.bipush 20, 2) := by decide +kernel
theorem dX12_init_165 : decode cX12_init 165 = .ok (.iastore, 1) := by decide +kernel
theorem dX12_init_166 : decode cX12_init 166 = .ok (.dup, 1) := by decide +kernel
theorem dX12_init_167 : decode cX12_init 167 = .ok (.iconst 1, 1) := by decide +kernel
theorem dX12_init_168 : decode cX12_init 168 = .ok (.bipush 50, 2) := by decide +kernel
theorem dX12_init_170 : decode cX12_init 170 = .ok (.iastore, 1) := by decide +kernel
theorem dX12_init_171 : decode cX12_init 171 = .ok (.dup, 1) := by decide +kernel
theorem dX12_init_172 : decode cX12_init 172 = .ok (.iconst 2, 1) := by decide +kernel
theorem dX12_init_173 : decode cX12_init 173 = .ok (.bipush 50, 2) := by decide +kernel
theorem dX12_init_175 : decode cX12_init 175 = .ok (.iastore, 1) := by decide +kernel
theorem dX12_init_176 : decode cX12_init 176 = .ok (.dup, 1) := by decide +kernel
theorem dX12_init_177 : decode cX12_init 177 = .ok (.iconst 3, 1) := by decide +kernel
theorem dX12_init_178 : decode cX12_init 178 = .ok (.bipush 50, 2) := by decide +kernel
theorem dX12_init_180 : decode cX12_init 180 = .ok (.iastore, 1) := by decide +kernel
theorem dX12_init_181 : decode cX12_init 181 = .ok (.dup, 1) := by decide +kernel
theorem dX12_init_182 : decode cX12_init 182 = .ok (.iconst 4, 1) := by decide +kernel
theorem dX12_init_183 : decode cX12_init 183 = .ok (.sipush 9999, 3) := by decide +kernel
theorem dX12_init_186 : decode cX12_init 186 = .ok (.iastore, 1) := by decide +kernel
theorem dX12_init_187 : decode cX12_init 187 = .ok (.dup, 1) := by decide +kernel
theorem dX12_init_188 : decode cX12_init 188 = .ok (.iconst 5, 1) := by decide +kernel
theorem dX12_init_189 : decode cX12_init 189 = .ok (.ldc 50, 2) := by decide +kernel
theorem dX12_init_191 : decode cX12_init 191 = .ok (.iastore, 1) := by decide +kernel
theorem dX12_init_192 : decode cX12_init 192 = .ok (.putfield 51, 3) := by decide +kernel
theorem dX12_init_195 : decode cX12_init 195 = .ok (.aload_n 0, 1) := by decide +kernel
theorem dX12_init_196 : decode cX12_init 196 = .ok (.iconst 3, 1) := by decide +kernel
theorem dX12_init_197 : decode cX12_init 197 = .ok (.newarray .int, 2) := by decide +kernel
theorem dX12_init_199 : decode cX12_init 199 = .ok (.putfield 54, 3) := by decide +kernel
theorem dX12_init_202 : decode cX12_init 202 = .ok (.aload_n 0, 1) := by decide +kernel
theorem dX12_init_203 : decode cX12_init 203 = .ok (.bipush 32, 2) := by decide +kernel
theorem dX12_init_205 : decode cX12_init 205 = .ok (.newarray .int, 2) := by decide +kernel
theorem dX12_init_207 : decode cX12_init 207 = .ok (.putfield 57, 3) := by decide +kernel
theorem dX12_init_210 : decode cX12_init 210 = .ok (.aload_n 0, 1) := by decide +kernel
theorem dX12_init_211 : decode cX12_init 211 = .ok (.bipush 40, 2) := by decide +kernel
theorem dX12_init_213 : decode cX12_init 213 = .ok (.newarray .int, 2) := by decide +kernel
theorem dX12_init_215 : decode cX12_init 215 = .ok (.putfield 60, 3) := by decide +kernel
theorem dX12_init_218 : decode cX12_init 218 = .ok (.aload_n 0, 1) := by decide +kernel
theorem dX12_init_219 : decode cX12_init 219 = .ok (.iconst 4, 1) := by decide +kernel
theorem dX12_init_220 : decode cX12_init 220 = .ok (.newarray .int, 2) := by decide +kernel
theorem dX12_init_222 : decode cX12_init 222 = .ok (.putfield 63, 3) := by decide +kernel
theorem dX12_init_225 : decode cX12_init 225 = .ok (.aload_n 0, 1) := by decide +kernel
theorem dX12_init_226 : decode cX12_init 226 = .ok (.iconst 4, 1) := by decide +kernel
theorem dX12_init_227 : decode cX12_init 227 = .ok (.newarray .int, 2) := by decide +kernel
theorem dX12_init_229 : decode cX12_init 229 = .ok (.putfield 66, 3) := by decide +kernel
theorem dX12_init_232 : decode cX12_init 232 = .ok (.aload_n 0, 1) := by decide +kernel
theorem dX12_init_233 : decode cX12_init 233 = .ok (.sipush 160, 3) := by decide +kernel
theorem dX12_init_236 : decode cX12_init 236 = .ok (.newarray .int, 2) := by decide +kernel
theorem dX12_init_238 : decode cX12_init 238 = .ok (.putfield 69, 3) := by decide +kernel
theorem dX12_init_241 : decode cX12_init 241 = .ok (.aload_n 0, 1) := by decide +kernel
theorem dX12_init_242 : decode cX12_init 242 = .ok (.bipush 40, 2) := by decide +kernel
theorem dX12_init_244 : decode cX12_init 244 = .ok (.newarray .int, 2) := by decide +kernel
theorem dX12_init_246 : decode cX12_init 246 = .ok (.putfield 72, 3) := by decide +kernel
theorem dX12_init_249 : decode cX12_init 249 = .ok (.aload_n 0, 1) := by decide +kernel
theorem dX12_init_250 : decode cX12_init 250 = .ok (.getfield 9, 3) := by decide +kernel
theorem dX12_init_253 : decode cX12_init 253 = .ok (.iconst 5, 1) := by decide +kernel
theorem dX12_init_254 : decode cX12_init 254 = .ok (.iconst 1, 1) := by decide +kernel
theorem dX12_init_255 : decode cX12_init 255 = .ok (.iastore, 1) := by decide +kernel
theorem dX12_init_256 : decode cX12_init 256 = .ok (.aload_n 0, 1) := by decide +kernel
theorem dX12_init_257 : decode cX12_init 257 = .ok (.getfield 9, 3) := by decide +kernel
theorem dX12_init_260 : decode cX12_init 260 = .ok (.bipush 6, 2) := by decide +kernel
theorem dX12_init_262 : decode cX12_init 262 = .ok (.iconst 2, 1) := by decide +kernel
theorem dX12_init_263 : decode cX12_init 263 = .ok (.iastore, 1) := by decide +kernel
theorem dX12_init_264 : decode cX12_init 264 = .ok (.aload_n 0, 1) := by decide +kernel
theorem dX12_init_265 : decode cX12_init 265 = .ok (.getfield 9, 3) := by decide +kernel
theorem dX12_init_268 : decode cX12_init 268 = .ok (.bipush 7, 2) := by decide +kernel
theorem dX12_init_270 : decode cX12_init 270 = .ok (.iconst 3, 1) := by decide +kernel
theorem dX12_init_271 : decode cX12_init 271 = .ok (.iastore, 1) := by decide +kernel
theorem dX12_init_272 : decode cX12_init 272 = .ok (.aload_n 0, 1) := by decide +kernel
theorem dX12_init_273 : decode cX12_init 273 = .ok (.getfield 9, 3) := by decide +kernel
theorem dX12_init_276 : decode cX12_init 276 = .ok (.bipush 8, 2) := by decide +kernel
theorem dX12_init_278 : decode cX12_init 278 = .ok (.bipush 6, 2) := by decide +kernel
theorem dX12_init_280 : decode cX12_init 280 = .ok (.iastore, 1) := by decide +kernel
theorem dX12_init_281 : decode cX12_init 281 = .ok (.aload_n 0, 1) := by decide +kernel
theorem dX12_init_282 : decode cX12_init 282 = .ok (.getfield 9, 3) := by decide +kernel
theorem dX12_init_285 : decode cX12_init 285 = .ok (.bipush 9, 2) := by decide +kernel
theorem dX12_init_287 : decode cX12_init 287 = .ok (.iconst 3, 1) := by decide +kernel
theorem dX12_init_288 : decode cX12_init 288 = .ok (.iastore, 1) := by decide +kernel
theorem dX12_init_289 : decode cX12_init 289 = .ok (.aload_n 0, 1) := by decide +kernel
theorem dX12_init_290 : decode cX12_init 290 = .ok (.getfield 9, 3) := by decide +kernel
theorem dX12_init_293 : decode cX12_init 293 = .ok (.bipush 10, 2) := by decide +kernel
theorem dX12_init_295 : decode cX12_init 295 = .ok (.iconst 5, 1) := by decide +kernel
theorem dX12_init_296 : decode cX12_init 296 = .ok (.iastore, 1) := by decide +kernel
theorem dX12_init_297 : decode cX12_init 297 = .ok (.aload_n 0, 1) := by decide +kernel
theorem dX12_init_298 : decode cX12_init 298 = .ok (.getfield 9, 3) := by decide +kernel
theorem dX12_init_301 : decode cX12_init 301 = .ok (.bipush 11, 2) := by decide +kernel
theorem dX12_init_303 : decode cX12_init 303 = .ok (.bipush 100, 2) := by decide +kernel
theorem dX12_init_305 : decode cX12_init 305 = .ok (.iastore, 1) := by decide +kernel
theorem dX12_init_306 : decode cX12_init 306 = .ok (.return_, 1) := by decide +kernel
theorem dX12_finding_0 : decode cX12_finding 0 = .ok (.aload_n 0, 1) := by decide +kernel
theorem dX12_finding_1 : decode cX12_finding 1 = .ok (.getfield 19, 3) := by decide +kernel
theorem dX12_finding_4 : decode cX12_finding 4 = .ok (.ldc 75, 2) := by decide +kernel
theorem dX12_finding_6 : decode cX12_finding 6 = .ok (.iload_n 1, 1) := by decide +kernel
theorem dX12_finding_7 : decode cX12_finding 7 = .ok (.isub, 1) := by decide +kernel
theorem dX12_finding_8 : decode cX12_finding 8 = .ok (.dup2, 1) := by decide +kernel
theorem dX12_finding_9 : decode cX12_finding 9 = .ok (.iaload, 1) := by decide +kernel
theorem dX12_finding_10 : decode cX12_finding 10 = .ok (.iconst 1, 1) := by decide +kernel
theorem dX12_finding_11 : decode cX12_finding 11 = .ok (.iadd, 1) := by decide +kernel
theorem dX12_finding_12 : decode cX12_finding 12 = .ok (.iastore, 1) := by decide +kernel
theorem dX12_finding_13 : decode cX12_finding 13 = .ok (.iload_n 1, 1) := by decide +kernel
theorem dX12_finding_14 : decode cX12_finding 14 = .ok (.ireturn, 1) := by decide +kernel
theorem dX12_within_0 : decode cX12_within 0 = .ok (.iload_n 0, 1) := by decide +kernel
theorem dX12_within_1 : decode cX12_within 1 = .ok (.iload_n 1, 1) := by decide +kernel
theorem dX12_within_2 : decode cX12_within 2 = .ok (.if_icmp .lt 12, 3) := by decide +kernel
theorem dX12_within_5 : decode cX12_within 5 = .ok (.iload_n 0, 1) := by decide +kernel
theorem dX12_within_6 : decode cX12_within 6 = .ok (.iload_n 2, 1) := by decide +kernel
theorem dX12_within_7 : decode cX12_within 7 = .ok (.if_icmp .gt 7, 3) := by decide +kernel
theorem dX12_within_10 : decode cX12_within 10 = .ok (.iconst 1, 1) := by decide +kernel
theorem dX12_within_11 : decode cX12_within 11 = .ok (.goto 4, 3) := by decide +kernel
theorem dX12_within_14 : decode cX12_within 14 = .ok (.iconst 0, 1) := by decide +kernel
theorem dX12_within_15 : decode cX12_within 15 = .ok (.ireturn, 1) := by decide +kernel
theorem dX12_is_0 : decode cX12_is 0 = .ok (.iload_n 1, 1) := by decide +kernel
theorem dX12_is_1 : decode cX12_is 1 = .ok (.iconst 0, 1) := by decide +kernel
theorem dX12_is_2 : decode cX12_is 2 = .ok (.aload_n 0, 1) := by decide +kernel
theorem dX12_is_3 : decode cX12_is 3 = .ok (.getfield 9, 3) := by decide +kernel
theorem dX12_is_6 : decode cX12_is 6 = .ok (.iload_n 2, 1) := by decide +kernel
theorem dX12_is_7 : decode cX12_is 7 = .ok (.iaload, 1) := by decide +kernel
theorem dX12_is_8 : decode cX12_is 8 = .ok (.iconst 1, 1) := by decide +kernel
theorem dX12_is_9 : decode cX12_is 9 = .ok (.isub, 1) := by decide +kernel
theorem dX12_is_10 : decode cX12_is 10 = .ok (.invokestatic 76, 3) := by decide +kernel
theorem dX12_is_13 : decode cX12_is 13 = .ok (.ireturn, 1) := by decide +kernel
theorem dX12_has_0 : decode cX12_has 0 = .ok (.iload_n 0, 1) := by decide +kernel
theorem dX12_has_1 : decode cX12_has 1 = .ok (.iload_n 1, 1) := by decide +kernel
theorem dX12_has_2 : decode cX12_has 2 = .ok (.ishr, 1) := by decide +kernel
theorem dX12_has_3 : decode cX12_has 3 = .ok (.iconst 1, 1) := by decide +kernel
theorem dX12_has_4 : decode cX12_has 4 = .ok (.iand, 1) := by decide +kernel
theorem dX12_has_5 : decode cX12_has 5 = .ok (.iconst 1, 1) := by decide +kernel
theorem dX12_has_6 : decode cX12_has 6 = .ok (.if_icmp .ne 7, 3) := by decide +kernel
theorem dX12_has_9 : decode cX12_has 9 = .ok (.iconst 1, 1) := by decide +kernel
theorem dX12_has_10 : decode cX12_has 10 = .ok (.goto 4, 3) := by decide +kernel
theorem dX12_has_13 : decode cX12_has 13 = .ok (.iconst 0, 1) := by decide +kernel
theorem dX12_has_14 : decode cX12_has 14 = .ok (.ireturn, 1) := by decide +kernel
theorem dX12_copy_0 : decode cX12_copy 0 = .ok (.iconst 0, 1) := by decide +kernel
theorem dX12_copy_1 : decode cX12_copy 1 = .ok (.istore_n 2, 1) := by decide +kernel
theorem dX12_copy_2 : decode cX12_copy 2 = .ok (.iload_n 2, 1) := by decide +kernel
theorem dX12_copy_3 : decode cX12_copy 3 = .ok (.sipush 408, 3) := by decide +kernel
theorem dX12_copy_6 : decode cX12_copy 6 = .ok (.if_icmp .ge 15, 3) := by decide +kernel
theorem dX12_copy_9 : decode cX12_copy 9 = .ok (.aload_n 1, 1) := by decide +kernel
theorem dX12_copy_10 : decode cX12_copy 10 = .ok (.iload_n 2, 1) := by decide +kernel
theorem dX12_copy_11 : decode cX12_copy 11 = .ok (.aload_n 0, 1) := by decide +kernel
theorem dX12_copy_12 : decode cX12_copy 12 = .ok (.iload_n 2, 1) := by decide +kernel
theorem dX12_copy_13 : decode cX12_copy 13 = .ok (.iaload, 1) := by decide +kernel
theorem dX12_copy_14 : decode cX12_copy 14 = .ok (.iastore, 1) := by decide +kernel
theorem dX12_copy_15 : decode cX12_copy 15 = .ok (.iinc 2 1, 3) := by decide +kernel
theorem dX12_copy_18 : decode cX12_copy 18 = .ok (.goto (-16), 3) := by decide +kernel
theorem dX12_copy_21 : decode cX12_copy 21 = .ok (.return_, 1) := by decide +kernel
theorem dX12_put_0 : decode cX12_put 0 = .ok (.aload_n 0, 1) := by decide +kernel
theorem dX12_put_1 : decode cX12_put 1 = .ok (.getfield 9, 3) := by decide +kernel
theorem dX12_put_4 : decode cX12_put 4 = .ok (.iload_n 1, 1) := by decide +kernel
theorem dX12_put_5 : decode cX12_put 5 = .ok (.iaload, 1) := by decide +kernel
theorem dX12_put_6 : decode cX12_put 6 = .ok (.istore_n 3, 1) := by decide +kernel
theorem dX12_put_7 : decode cX12_put 7 = .ok (.aload_n 0, 1) := by decide +kernel
theorem dX12_put_8 : decode cX12_put 8 = .ok (.getfield 9, 3) := by decide +kernel
theorem dX12_put_11 : decode cX12_put 11 = .ok (.iload_n 1, 1) := by decide +kernel
theorem dX12_put_12 : decode cX12_put 12 = .ok (.iload_n 2, 1) := by decide +kernel
theorem dX12_put_13 : decode cX12_put 13 = .ok (.iastore, 1) := by decide +kernel
theorem dX12_put_14 : decode cX12_put 14 = .ok (.iload_n 3, 1) := by decide +kernel
theorem dX12_put_15 : decode cX12_put 15 = .ok (.ireturn, 1) := by decide +kernel
theorem dX12_isMany_0 : decode cX12_isMany 0 = .ok (.iload_n 0, 1) := by decide +kernel
theorem dX12_isMany_1 : decode cX12_isMany 1 = .ok (.iconst 0, 1) := by decide +kernel
theorem dX12_isMany_2 : decode cX12_isMany 2 = .ok (.ldc 80, 2) := by decide +kernel
theorem dX12_isMany_4 : decode cX12_isMany 4 = .ok (.invokestatic 76, 3) := by decide +kernel
theorem dX12_isMany_7 : decode cX12_isMany 7 = .ok (.ireturn, 1) := by decide +kernel
theorem dX12_isAsTold_0 : decode cX12_isAsTold 0 = .ok (.iload_n 0, 1) := by decide +kernel
theorem dX12_isAsTold_1 : decode cX12_isAsTold 1 = .ok (.iconst 0, 1) := by decide +kernel
theorem dX12_isAsTold_2 : decode cX12_isAsTold 2 = .ok (.sipush 3030, 3) := by decide +kernel
theorem dX12_isAsTold_5 : decode cX12_isAsTold 5 = .ok (.invokestatic 76, 3) := by decide +kernel
theorem dX12_isAsTold_8 : decode cX12_isAsTold 8 = .ok (.ifCond .eq 37, 3) := by decide +kernel
theorem dX12_isAsTold_11 : decode cX12_isAsTold 11 = .ok (.iload_n 0, 1) := by decide +kernel
theorem dX12_isAsTold_12 : decode cX12_isAsTold 12 = .ok (.bipush 100, 2) := by decide +kernel
theorem dX12_isAsTold_14 : decode cX12_isAsTold 14 = .ok (.irem, 1) := by decide +kernel
theorem dX12_isAsTold_15 : decode cX12_isAsTold 15 = .ok (.bipush 30, 2) := by decide +kernel
theorem dX12_isAsTold_17 : decode cX12_isAsTold 17 = .ok (.if_icmp .gt 28, 3) := by decide +kernel
theorem dX12_isAsTold_20 : decode cX12_isAsTold 20 = .ok (.iload_n 1, 1) := by decide +kernel
theorem dX12_isAsTold_21 : decode cX12_isAsTold 21 = .ok (.invokestatic 81, 3) := by decide +kernel
theorem dX12_isAsTold_24 : decode cX12_isAsTold 24 = .ok (.ifCond .eq 21, 3) := by decide +kernel
theorem dX12_isAsTold_27 : decode cX12_isAsTold 27 = .ok (.iload_n 2, 1) := by decide +kernel
theorem dX12_isAsTold_28 : decode cX12_isAsTold 28 = .ok (.invokestatic 81, 3) := by decide +kernel
theorem dX12_isAsTold_31 : decode cX12_isAsTold 31 = .ok (.ifCond .eq 14, 3) := by decide +kernel
theorem dX12_isAsTold_34 : decode cX12_isAsTold 34 = .ok (.iload_n 3, 1) := by decide +kernel
theorem dX12_isAsTold_35 : decode cX12_isAsTold 35 = .ok (.invokestatic 81, 3) := by decide +kernel
theorem dX12_isAsTold_38 : decode cX12_isAsTold 38 = .ok (.ifCond .eq 7, 3) := by decide +kernel
theorem dX12_isAsTold_41 : decode cX12_isAsTold 41 = .ok (.iconst 1, 1) := by decide +kernel
theorem dX12_isAsTold_42 : decode cX12_isAsTold 42 = .ok (.goto 4, 3) := by decide +kernel
theorem dX12_isAsTold_45 : decode cX12_isAsTold 45 = .ok (.iconst 0, 1) := by decide +kernel
theorem dX12_isAsTold_46 : decode cX12_isAsTold 46 = .ok (.ireturn, 1) := by decide +kernel
theorem dX12_settles_0 : decode cX12_settles 0 = .ok (.bipush 16, 2) := by decide +kernel
theorem dX12_settles_2 : decode cX12_settles 2 = .ok (.iconst 4, 1) := by decide +kernel
theorem dX12_settles_3 : decode cX12_settles 3 = .ok (.aload_n 0, 1) := by decide +kernel
theorem dX12_settles_4 : decode cX12_settles 4 = .ok (.getfield 9, 3) := by decide +kernel
theorem dX12_settles_7 : decode cX12_settles 7 = .ok (.iconst 1, 1) := by decide +kernel
theorem dX12_settles_8 : decode cX12_settles 8 = .ok (.iaload, 1) := by decide +kernel
theorem dX12_settles_9 : decode cX12_settles 9 = .ok (.imul, 1) := by decide +kernel
theorem dX12_settles_10 : decode cX12_settles 10 = .ok (.iadd, 1) := by decide +kernel
theorem dX12_settles_11 : decode cX12_settles 11 = .ok (.istore 5, 2) := by decide +kernel
theorem dX12_settles_13 : decode cX12_settles 13 = .ok (.aload_n 0, 1) := by decide +kernel
theorem dX12_settles_14 : decode cX12_settles 14 = .ok (.getfield 9, 3) := by decide +kernel
theorem dX12_settles_17 : decode cX12_settles 17 = .ok (.iload 5, 2) := by decide +kernel
theorem dX12_settles_19 : decode cX12_settles 19 = .ok (.iload_n 1, 1) := by decide +kernel
theorem dX12_settles_20 : decode cX12_settles 20 = .ok (.iastore, 1) := by decide +kernel
theorem dX12_settles_21 : decode cX12_settles 21 = .ok (.aload_n 0, 1) := by decide +kernel
theorem dX12_settles_22 : decode cX12_settles 22 = .ok (.getfield 9, 3) := by decide +kernel
theorem dX12_settles_25 : decode cX12_settles 25 = .ok (.iload 5, 2) := by decide +kernel
theorem dX12_settles_27 : decode cX12_settles 27 = .ok (.iconst 1, 1) := by decide +kernel
theorem dX12_settles_28 : decode cX12_settles 28 = .ok (.iadd, 1) := by decide +kernel
theorem dX12_settles_29 : decode cX12_settles 29 = .ok (.iload_n 2, 1) := by decide +kernel
theorem dX12_settles_30 : decode cX12_settles 30 = .ok (.iastore, 1) := by decide +kernel
theorem dX12_settles_31 : decode cX12_settles 31 = .ok (.aload_n 0, 1) := by decide +kernel
theorem dX12_settles_32 : decode cX12_settles 32 = .ok (.getfield 9, 3) := by decide +kernel
theorem dX12_settles_35 : decode cX12_settles 35 = .ok (.iload 5, 2) := by decide +kernel
theorem dX12_settles_37 : decode cX12_settles 37 = .ok (.iconst 2, 1) := by decide +kernel
theorem dX12_settles_38 : decode cX12_settles 38 = .ok (.iadd, 1) := by decide +kernel
theorem dX12_settles_39 : decode cX12_settles 39 = .ok (.iload_n 3, 1) := by decide +kernel
theorem dX12_settles_40 : decode cX12_settles 40 = .ok (.iastore, 1) := by decide +kernel
theorem dX12_settles_41 : decode cX12_settles 41 = .ok (.aload_n 0, 1) := by decide +kernel
theorem dX12_settles_42 : decode cX12_settles 42 = .ok (.getfield 9, 3) := by decide +kernel
theorem dX12_settles_45 : decode cX12_settles 45 = .ok (.iload 5, 2) := by decide +kernel
theorem dX12_settles_47 : decode cX12_settles 47 = .ok (.iconst 3, 1) := by decide +kernel
theorem dX12_settles_48 : decode cX12_settles 48 = .ok (.iadd, 1) := by decide +kernel
theorem dX12_settles_49 : decode cX12_settles 49 = .ok (.iload 4, 2) := by decide +kernel
theorem dX12_settles_51 : decode cX12_settles 51 = .ok (.iastore, 1) := by decide +kernel
theorem dX12_settles_52 : decode cX12_settles 52 = .ok (.aload_n 0, 1) := by decide +kernel
theorem dX12_settles_53 : decode cX12_settles 53 = .ok (.getfield 9, 3) := by decide +kernel
theorem dX12_settles_56 : decode cX12_settles 56 = .ok (.iconst 1, 1) := by decide +kernel
theorem dX12_settles_57 : decode cX12_settles 57 = .ok (.dup2, 1) := by decide +kernel
theorem dX12_settles_58 : decode cX12_settles 58 = .ok (.iaload, 1) := by decide +kernel
theorem dX12_settles_59 : decode cX12_settles 59 = .ok (.iconst 1, 1) := by decide +kernel
theorem dX12_settles_60 : decode cX12_settles 60 = .ok (.iadd, 1) := by decide +kernel
theorem dX12_settles_61 : decode cX12_settles 61 = .ok (.iastore, 1) := by decide +kernel
theorem dX12_settles_62 : decode cX12_settles 62 = .ok (.return_, 1) := by decide +kernel
theorem dX12_village_0 : decode cX12_village 0 = .ok (.iload_n 1, 1) := by decide +kernel
theorem dX12_village_1 : decode cX12_village 1 = .ok (.iload_n 2, 1) := by decide +kernel
theorem dX12_village_2 : decode cX12_village 2 = .ok (.iload_n 3, 1) := by decide +kernel
theorem dX12_village_3 : decode cX12_village 3 = .ok (.iload 4, 2) := by decide +kernel
theorem dX12_village_5 : decode cX12_village 5 = .ok (.invokestatic 85, 3) := by decide +kernel
theorem dX12_village_8 : decode cX12_village 8 = .ok (.ifCond .ne 10, 3) := by decide +kernel
theorem dX12_village_11 : decode cX12_village 11 = .ok (.aload_n 0, 1) := by decide +kernel
theorem dX12_village_12 : decode cX12_village 12 = .ok (.ldc 89, 2) := by decide +kernel
theorem dX12_village_14 : decode cX12_village 14 = .ok (.invokevirtual 90, 3) := by decide +kernel
theorem dX12_village_17 : decode cX12_village 17 = .ok (.ireturn, 1) := by decide +kernel
theorem dX12_village_18 : decode cX12_village 18 = .ok (.aload_n 0, 1) := by decide +kernel
theorem dX12_village_19 : decode cX12_village 19 = .ok (.getfield 9, 3) := by decide +kernel
theorem dX12_village_22 : decode cX12_village 22 = .ok (.iconst 1, 1) := by decide +kernel
theorem dX12_village_23 : decode cX12_village 23 = .ok (.iaload, 1) := by decide +kernel
theorem dX12_village_24 : decode cX12_village 24 = .ok (.bipush 8, 2) := by decide +kernel
theorem dX12_village_26 : decode cX12_village 26 = .ok (.if_icmp .ne 10, 3) := by decide +kernel
theorem dX12_village_29 : decode cX12_village 29 = .ok (.aload_n 0, 1) := by decide +kernel
theorem dX12_village_30 : decode cX12_village 30 = .ok (.ldc 94, 2) := by decide +kernel
theorem dX12_village_32 : decode cX12_village 32 = .ok (.invokevirtual 90, 3) := by decide +kernel
theorem dX12_village_35 : decode cX12_village 35 = .ok (.ireturn, 1) := by decide +kernel
theorem dX12_village_36 : decode cX12_village 36 = .ok (.aload_n 0, 1) := by decide +kernel
theorem dX12_village_37 : decode cX12_village 37 = .ok (.iload_n 1, 1) := by decide +kernel
theorem dX12_village_38 : decode cX12_village 38 = .ok (.iload_n 2, 1) := by decide +kernel
theorem dX12_village_39 : decode cX12_village 39 = .ok (.iload_n 3, 1) := by decide +kernel
theorem dX12_village_40 : decode cX12_village 40 = .ok (.iload 4, 2) := by decide +kernel
theorem dX12_village_42 : decode cX12_village 42 = .ok (.invokevirtual 95, 3) := by decide +kernel
theorem dX12_village_45 : decode cX12_village 45 = .ok (.aload_n 0, 1) := by decide +kernel
theorem dX12_village_46 : decode cX12_village 46 = .ok (.getfield 9, 3) := by decide +kernel
theorem dX12_village_49 : decode cX12_village 49 = .ok (.iconst 1, 1) := by decide +kernel
theorem dX12_village_50 : decode cX12_village 50 = .ok (.iaload, 1) := by decide +kernel
theorem dX12_village_51 : decode cX12_village 51 = .ok (.iconst 1, 1) := by decide +kernel
theorem dX12_village_52 : decode cX12_village 52 = .ok (.isub, 1) := by decide +kernel
theorem dX12_village_53 : decode cX12_village 53 = .ok (.ireturn, 1) := by decide +kernel
theorem dX12_of_0 : decode cX12_of 0 = .ok (.aload_n 0, 1) := by decide +kernel
theorem dX12_of_1 : decode cX12_of 1 = .ok (.getfield 9, 3) := by decide +kernel
theorem dX12_of_4 : decode cX12_of 4 = .ok (.bipush 16, 2) := by decide +kernel
theorem dX12_of_6 : decode cX12_of 6 = .ok (.iconst 4, 1) := by decide +kernel
theorem dX12_of_7 : decode cX12_of 7 = .ok (.iload_n 1, 1) := by decide +kernel
theorem dX12_of_8 : decode cX12_of 8 = .ok (.imul, 1) := by decide +kernel
theorem dX12_of_9 : decode cX12_of 9 = .ok (.iadd, 1) := by decide +kernel
theorem dX12_of_10 : decode cX12_of 10 = .ok (.iconst 1, 1) := by decide +kernel
theorem dX12_of_11 : decode cX12_of 11 = .ok (.iadd, 1) := by decide +kernel
theorem dX12_of_12 : decode cX12_of 12 = .ok (.iload_n 2, 1) := by decide +kernel
theorem dX12_of_13 : decode cX12_of 13 = .ok (.iadd, 1) := by decide +kernel
theorem dX12_of_14 : decode cX12_of 14 = .ok (.iaload, 1) := by decide +kernel
theorem dX12_of_15 : decode cX12_of 15 = .ok (.ireturn, 1) := by decide +kernel
theorem dX12_allOf_0 : decode cX12_allOf 0 = .ok (.aload_n 0, 1) := by decide +kernel
theorem dX12_allOf_1 : decode cX12_allOf 1 = .ok (.iload_n 1, 1) := by decide +kernel
theorem dX12_allOf_2 : decode cX12_allOf 2 = .ok (.iconst 0, 1) := by decide +kernel
theorem dX12_allOf_3 : decode cX12_allOf 3 = .ok (.invokevirtual 99, 3) := by decide +kernel
theorem dX12_allOf_6 : decode cX12_allOf 6 = .ok (.aload_n 0, 1) := by decide +kernel
theorem dX12_allOf_7 : decode cX12_allOf 7 = .ok (.iload_n 1, 1) := by decide +kernel
theorem dX12_allOf_8 : decode cX12_allOf 8 = .ok (.iconst 1, 1) := by decide +kernel
theorem dX12_allOf_9 : decode cX12_allOf 9 = .ok (.invokevirtual 99, 3) := by decide +kernel
theorem dX12_allOf_12 : decode cX12_allOf 12 = .ok (.iadd, 1) := by decide +kernel
theorem dX12_allOf_13 : decode cX12_allOf 13 = .ok (.aload_n 0, 1) := by decide +kernel
theorem dX12_allOf_14 : decode cX12_allOf 14 = .ok (.iload_n 1, 1) := by decide +kernel
theorem dX12_allOf_15 : decode cX12_allOf 15 = .ok (.iconst 2, 1) := by decide +kernel
theorem dX12_allOf_16 : decode cX12_allOf 16 = .ok (.invokevirtual 99, 3) := by decide +kernel
theorem dX12_allOf_19 : decode cX12_allOf 19 = .ok (.iadd, 1) := by decide +kernel
theorem dX12_allOf_20 : decode cX12_allOf 20 = .ok (.ireturn, 1) := by decide +kernel
theorem dX12_placeOf_0 : decode cX12_placeOf 0 = .ok (.aload_n 0, 1) := by decide +kernel
theorem dX12_placeOf_1 : decode cX12_placeOf 1 = .ok (.getfield 9, 3) := by decide +kernel
theorem dX12_placeOf_4 : decode cX12_placeOf 4 = .ok (.bipush 16, 2) := by decide +kernel
theorem dX12_placeOf_6 : decode cX12_placeOf 6 = .ok (.iconst 4, 1) := by decide +kernel
theorem dX12_placeOf_7 : decode cX12_placeOf 7 = .ok (.iload_n 1, 1) := by decide +kernel
theorem dX12_placeOf_8 : decode cX12_placeOf 8 = .ok (.imul, 1) := by decide +kernel
theorem dX12_placeOf_9 : decode cX12_placeOf 9 = .ok (.iadd, 1) := by decide +kernel
theorem dX12_placeOf_10 : decode cX12_placeOf 10 = .ok (.iaload, 1) := by decide +kernel
theorem dX12_placeOf_11 : decode cX12_placeOf 11 = .ok (.ireturn, 1) := by decide +kernel
theorem dX12_people_0 : decode cX12_people 0 = .ok (.aload_n 0, 1) := by decide +kernel
theorem dX12_people_1 : decode cX12_people 1 = .ok (.iload_n 1, 1) := by decide +kernel
theorem dX12_people_2 : decode cX12_people 2 = .ok (.iconst 1, 1) := by decide +kernel
theorem dX12_people_3 : decode cX12_people 3 = .ok (.invokevirtual 103, 3) := by decide +kernel
theorem dX12_people_6 : decode cX12_people 6 = .ok (.ifCond .eq 12, 3) := by decide +kernel
theorem dX12_people_9 : decode cX12_people 9 = .ok (.iload_n 2, 1) := by decide +kernel
theorem dX12_people_10 : decode cX12_people 10 = .ok (.iconst 0, 1) := by decide +kernel
theorem dX12_people_11 : decode cX12_people 11 = .ok (.iconst 4, 1) := by decide +kernel
theorem dX12_people_12 : decode cX12_people 12 = .ok (.invokestatic 76, 3) := by decide +kernel
theorem dX12_people_15 : decode cX12_people 15 = .ok (.ifCond .ne 10, 3) := by decide +kernel
theorem dX12_people_18 : decode cX12_people 18 = .ok (.aload_n 0, 1) := by decide +kernel
theorem dX12_people_19 : decode cX12_people 19 = .ok (.ldc 89, 2) := by decide +kernel
theorem dX12_people_21 : decode cX12_people 21 = .ok (.invokevirtual 90, 3) := by decide +kernel
theorem dX12_people_24 : decode cX12_people 24 = .ok (.ireturn, 1) := by decide +kernel
theorem dX12_people_25 : decode cX12_people 25 = .ok (.iload_n 2, 1) := by decide +kernel
theorem dX12_people_26 : decode cX12_people 26 = .ok (.iconst 3, 1) := by decide +kernel
theorem dX12_people_27 : decode cX12_people 27 = .ok (.if_icmp .ge 12, 3) := by decide +kernel
theorem dX12_people_30 : decode cX12_people 30 = .ok (.aload_n 0, 1) := by decide +kernel
theorem dX12_people_31 : decode cX12_people 31 = .ok (.iload_n 1, 1) := by decide +kernel
theorem dX12_people_32 : decode cX12_people 32 = .ok (.iload_n 2, 1) := by decide +kernel
theorem dX12_people_33 : decode cX12_people 33 = .ok (.invokevirtual 99, 3) := by decide +kernel
theorem dX12_people_36 : decode cX12_people 36 = .ok (.goto 21, 3) := by decide +kernel
theorem dX12_people_39 : decode cX12_people 39 = .ok (.iload_n 2, 1) := by decide +kernel
theorem dX12_people_40 : decode cX12_people 40 = .ok (.iconst 3, 1) := by decide +kernel
theorem dX12_people_41 : decode cX12_people 41 = .ok (.if_icmp .ne 11, 3) := by decide +kernel
theorem dX12_people_44 : decode cX12_people 44 = .ok (.aload_n 0, 1) := by decide +kernel
theorem dX12_people_45 : decode cX12_people 45 = .ok (.iload_n 1, 1) := by decide +kernel
theorem dX12_people_46 : decode cX12_people 46 = .ok (.invokevirtual 107, 3) := by decide +kernel
theorem dX12_people_49 : decode cX12_people 49 = .ok (.goto 8, 3) := by decide +kernel
theorem dX12_people_52 : decode cX12_people 52 = .ok (.aload_n 0, 1) := by decide +kernel
theorem dX12_people_53 : decode cX12_people 53 = .ok (.iload_n 1, 1) := by decide +kernel
theorem dX12_people_54 : decode cX12_people 54 = .ok (.invokevirtual 110, 3) := by decide +kernel
theorem dX12_people_57 : decode cX12_people 57 = .ok (.ireturn, 1) := by decide +kernel
theorem dX12_become_0 : decode cX12_become 0 = .ok (.aload_n 0, 1) := by decide +kernel
theorem dX12_become_1 : decode cX12_become 1 = .ok (.iload_n 1, 1) := by decide +kernel
theorem dX12_become_2 : decode cX12_become 2 = .ok (.iconst 1, 1) := by decide +kernel
theorem dX12_become_3 : decode cX12_become 3 = .ok (.invokevirtual 103, 3) := by decide +kernel
theorem dX12_become_6 : decode cX12_become 6 = .ok (.ifCond .eq 37, 3) := by decide +kernel
theorem dX12_become_9 : decode cX12_become 9 = .ok (.iload_n 2, 1) := by decide +kernel
theorem dX12_become_10 : decode cX12_become 10 = .ok (.iconst 0, 1) := by decide +kernel
theorem dX12_become_11 : decode cX12_become 11 = .ok (.iconst 2, 1) := by decide +kernel
theorem dX12_become_12 : decode cX12_become 12 = .ok (.invokestatic 76, 3) := by decide +kernel
theorem dX12_become_15 : decode cX12_become 15 = .ok (.ifCond .eq 28, 3) := by decide +kernel
theorem dX12_become_18 : decode cX12_become 18 = .ok (.iload_n 3, 1) := by decide +kernel
theorem dX12_become_19 : decode cX12_become 19 = .ok (.invokestatic 81, 3) := by decide +kernel
theorem dX12_become_22 : decode cX12_become 22 = .ok (.ifCond .eq 21, 3) := by decide +kernel
theorem dX12_become_25 : decode cX12_become 25 = .ok (.aload_n 0, 1) := by decide +kernel
theorem dX12_become_26 : decode cX12_become 26 = .ok (.bipush 16, 2) := by decide +kernel
theorem dX12_become_28 : decode cX12_become 28 = .ok (.iconst 4, 1) := by decide +kernel
theorem dX12_become_29 : decode cX12_become 29 = .ok (.iload_n 1, 1) := by decide +kernel
theorem dX12_become_30 : decode cX12_become 30 = .ok (.imul, 1) := by decide +kernel
theorem dX12_become_31 : decode cX12_become 31 = .ok (.iadd, 1) := by decide +kernel
theorem dX12_become_32 : decode cX12_become 32 = .ok (.iconst 1, 1) := by decide +kernel
theorem dX12_become_33 : decode cX12_become 33 = .ok (.iadd, 1) := by decide +kernel
theorem dX12_become_34 : decode cX12_become 34 = .ok (.iload_n 2, 1) := by decide +kernel
theorem dX12_become_35 : decode cX12_become 35 = .ok (.iadd, 1) := by decide +kernel
theorem dX12_become_36 : decode cX12_become 36 = .ok (.iload_n 3, 1) := by decide +kernel
theorem dX12_become_37 : decode cX12_become 37 = .ok (.invokevirtual 113, 3) := by decide +kernel
theorem dX12_become_40 : decode cX12_become 40 = .ok (.goto 9, 3) := by decide +kernel
theorem dX12_become_43 : decode cX12_become 43 = .ok (.aload_n 0, 1) := by decide +kernel
theorem dX12_become_44 : decode cX12_become 44 = .ok (.ldc 89, 2) := by decide +kernel
theorem dX12_become_46 : decode cX12_become 46 = .ok (.invokevirtual 90, 3) := by decide +kernel
theorem dX12_become_49 : decode cX12_become 49 = .ok (.ireturn, 1) := by decide +kernel
theorem dX12_villages_0 : decode cX12_villages 0 = .ok (.iload_n 1, 1) := by decide +kernel
theorem dX12_villages_1 : decode cX12_villages 1 = .ok (.invokestatic 116, 3) := by decide +kernel
theorem dX12_villages_4 : decode cX12_villages 4 = .ok (.ifCond .ne 10, 3) := by decide +kernel
theorem dX12_villages_7 : decode cX12_villages 7 = .ok (.aload_n 0, 1) := by decide +kernel
theorem dX12_villages_8 : decode cX12_villages 8 = .ok (.ldc 89, 2) := by decide +kernel
theorem dX12_villages_10 : decode cX12_villages 10 = .ok (.invokevirtual 90, 3) := by decide +kernel
theorem dX12_villages_13 : decode cX12_villages 13 = .ok (.ireturn, 1) := by decide +kernel
theorem dX12_villages_14 : decode cX12_villages 14 = .ok (.aload_n 0, 1) := by decide +kernel
theorem dX12_villages_15 : decode cX12_villages 15 = .ok (.getfield 63, 3) := by decide +kernel
theorem dX12_villages_18 : decode cX12_villages 18 = .ok (.iload_n 1, 1) := by decide +kernel
theorem dX12_villages_19 : decode cX12_villages 19 = .ok (.iaload, 1) := by decide +kernel
theorem dX12_villages_20 : decode cX12_villages 20 = .ok (.ifCond .ne 10, 3) := by decide +kernel
theorem dX12_villages_23 : decode cX12_villages 23 = .ok (.aload_n 0, 1) := by decide +kernel
theorem dX12_villages_24 : decode cX12_villages 24 = .ok (.ldc 119, 2) := by decide +kernel
theorem dX12_villages_26 : decode cX12_villages 26 = .ok (.invokevirtual 90, 3) := by decide +kernel
theorem dX12_villages_29 : decode cX12_villages 29 = .ok (.ireturn, 1) := by decide +kernel
theorem dX12_villages_30 : decode cX12_villages 30 = .ok (.iconst 0, 1) := by decide +kernel
theorem dX12_villages_31 : decode cX12_villages 31 = .ok (.istore_n 2, 1) := by decide +kernel
theorem dX12_villages_32 : decode cX12_villages 32 = .ok (.bipush 40, 2) := by decide +kernel
theorem dX12_villages_34 : decode cX12_villages 34 = .ok (.iload_n 1, 1) := by decide +kernel
theorem dX12_villages_35 : decode cX12_villages 35 = .ok (.imul, 1) := by decide +kernel
theorem dX12_villages_36 : decode cX12_villages 36 = .ok (.istore_n 3, 1) := by decide +kernel
theorem dX12_villages_37 : decode cX12_villages 37 = .ok (.iconst 4, 1) := by decide +kernel
theorem dX12_villages_38 : decode cX12_villages 38 = .ok (.iload_n 2, 1) := by decide +kernel
theorem dX12_villages_39 : decode cX12_villages 39 = .ok (.imul, 1) := by decide +kernel
theorem dX12_villages_40 : decode cX12_villages 40 = .ok (.iconst 4, 1) := by decide +kernel
theorem dX12_villages_41 : decode cX12_villages 41 = .ok (.iadd, 1) := by decide +kernel
theorem dX12_villages_42 : decode cX12_villages 42 = .ok (.aload_n 0, 1) := by decide +kernel
theorem dX12_villages_43 : decode cX12_villages 43 = .ok (.getfield 66, 3) := by decide +kernel
theorem dX12_villages_46 : decode cX12_villages 46 = .ok (.iload_n 1, 1) := by decide +kernel
theorem dX12_villages_47 : decode cX12_villages 47 = .ok (.iaload, 1) := by decide +kernel
theorem dX12_villages_48 : decode cX12_villages 48 = .ok (.if_icmp .gt 95, 3) := by decide +kernel
theorem dX12_villages_51 : decode cX12_villages 51 = .ok (.aload_n 0, 1) := by decide +kernel
theorem dX12_villages_52 : decode cX12_villages 52 = .ok (.getfield 9, 3) := by decide +kernel
theorem dX12_villages_55 : decode cX12_villages 55 = .ok (.iconst 1, 1) := by decide +kernel
theorem dX12_villages_56 : decode cX12_villages 56 = .ok (.iaload, 1) := by decide +kernel
theorem dX12_villages_57 : decode cX12_villages 57 = .ok (.bipush 8, 2) := by decide +kernel
theorem dX12_villages_59 : decode cX12_villages 59 = .ok (.if_icmp .ge 84, 3) := by decide +kernel
theorem dX12_villages_62 : decode cX12_villages 62 = .ok (.aload_n 0, 1) := by decide +kernel
theorem dX12_villages_63 : decode cX12_villages 63 = .ok (.getfield 69, 3) := by decide +kernel
theorem dX12_villages_66 : decode cX12_villages 66 = .ok (.iload_n 3, 1) := by decide +kernel
theorem dX12_villages_67 : decode cX12_villages 67 = .ok (.iaload, 1) := by decide +kernel
theorem dX12_villages_68 : decode cX12_villages 68 = .ok (.aload_n 0, 1) := by decide +kernel
theorem dX12_villages_69 : decode cX12_villages 69 = .ok (.getfield 69, 3) := by decide +kernel
theorem dX12_villages_72 : decode cX12_villages 72 = .ok (.iload_n 3, 1) := by decide +kernel
theorem dX12_villages_73 : decode cX12_villages 73 = .ok (.iconst 1, 1) := by decide +kernel
theorem dX12_villages_74 : decode cX12_villages 74 = .ok (.iadd, 1) := by decide +kernel
theorem dX12_villages_75 : decode cX12_villages 75 = .ok (.iaload, 1) := by decide +kernel
theorem dX12_villages_76 : decode cX12_villages 76 = .ok (.aload_n 0, 1) := by decide +kernel
theorem dX12_villages_77 : decode cX12_villages 77 = .ok (.getfield 69, 3) := by decide +kernel
theorem dX12_villages_80 : decode cX12_villages 80 = .ok (.iload_n 3, 1) := by decide +kernel
theorem dX12_villages_81 : decode cX12_villages 81 = .ok (.iconst 2, 1) := by decide +kernel
theorem dX12_villages_82 : decode cX12_villages 82 = .ok (.iadd, 1) := by decide +kernel
theorem dX12_villages_83 : decode cX12_villages 83 = .ok (.iaload, 1) := by decide +kernel
theorem dX12_villages_84 : decode cX12_villages 84 = .ok (.aload_n 0, 1) := by decide +kernel
theorem dX12_villages_85 : decode cX12_villages 85 = .ok (.getfield 69, 3) := by decide +kernel
theorem dX12_villages_88 : decode cX12_villages 88 = .ok (.iload_n 3, 1) := by decide +kernel
theorem dX12_villages_89 : decode cX12_villages 89 = .ok (.iconst 3, 1) := by decide +kernel
theorem dX12_villages_90 : decode cX12_villages 90 = .ok (.iadd, 1) := by decide +kernel
theorem dX12_villages_91 : decode cX12_villages 91 = .ok (.iaload, 1) := by decide +kernel
theorem dX12_villages_92 : decode cX12_villages 92 = .ok (.invokestatic 85, 3) := by decide +kernel
theorem dX12_villages_95 : decode cX12_villages 95 = .ok (.ifCond .ne 5, 3) := by decide +kernel
theorem dX12_villages_98 : decode cX12_villages 98 = .ok (.iload_n 2, 1) := by decide +kernel
theorem dX12_villages_99 : decode cX12_villages 99 = .ok (.ireturn, 1) := by decide +kernel
theorem dX12_villages_100 : decode cX12_villages 100 = .ok (.aload_n 0, 1) := by decide +kernel
theorem dX12_villages_101 : decode cX12_villages 101 = .ok (.aload_n 0, 1) := by decide +kernel
theorem dX12_villages_102 : decode cX12_villages 102 = .ok (.getfield 69, 3) := by decide +kernel
theorem dX12_villages_105 : decode cX12_villages 105 = .ok (.iload_n 3, 1) := by decide +kernel
theorem dX12_villages_106 : decode cX12_villages 106 = .ok (.iaload, 1) := by decide +kernel
theorem dX12_villages_107 : decode cX12_villages 107 = .ok (.aload_n 0, 1) := by decide +kernel
theorem dX12_villages_108 : decode cX12_villages 108 = .ok (.getfield 69, 3) := by decide +kernel
theorem dX12_villages_111 : decode cX12_villages 111 = .ok (.iload_n 3, 1) := by decide +kernel
theorem dX12_villages_112 : decode cX12_villages 112 = .ok (.iconst 1, 1) := by decide +kernel
theorem dX12_villages_113 : decode cX12_villages 113 = .ok (.iadd, 1) := by decide +kernel
theorem dX12_villages_114 : decode cX12_villages 114 = .ok (.iaload, 1) := by decide +kernel
theorem dX12_villages_115 : decode cX12_villages 115 = .ok (.aload_n 0, 1) := by decide +kernel
theorem dX12_villages_116 : decode cX12_villages 116 = .ok (.getfield 69, 3) := by decide +kernel
theorem dX12_villages_119 : decode cX12_villages 119 = .ok (.iload_n 3, 1) := by decide +kernel
theorem dX12_villages_120 : decode cX12_villages 120 = .ok (.iconst 2, 1) := by decide +kernel
theorem dX12_villages_121 : decode cX12_villages 121 = .ok (.iadd, 1) := by decide +kernel
theorem dX12_villages_122 : decode cX12_villages 122 = .ok (.iaload, 1) := by decide +kernel
theorem dX12_villages_123 : decode cX12_villages 123 = .ok (.aload_n 0, 1) := by decide +kernel
theorem dX12_villages_124 : decode cX12_villages 124 = .ok (.getfield 69, 3) := by decide +kernel
theorem dX12_villages_127 : decode cX12_villages 127 = .ok (.iload_n 3, 1) := by decide +kernel
theorem dX12_villages_128 : decode cX12_villages 128 = .ok (.iconst 3, 1) := by decide +kernel
theorem dX12_villages_129 : decode cX12_villages 129 = .ok (.iadd, 1) := by decide +kernel
theorem dX12_villages_130 : decode cX12_villages 130 = .ok (.iaload, 1) := by decide +kernel
theorem dX12_villages_131 : decode cX12_villages 131 = .ok (.invokevirtual 95, 3) := by decide +kernel
theorem dX12_villages_134 : decode cX12_villages 134 = .ok (.iinc 2 1, 3) := by decide +kernel
theorem dX12_villages_137 : decode cX12_villages 137 = .ok (.iinc 3 4, 3) := by decide +kernel
theorem dX12_villages_140 : decode cX12_villages 140 = .ok (.goto (-103), 3) := by decide +kernel
theorem dX12_villages_143 : decode cX12_villages 143 = .ok (.iload_n 2, 1) := by decide +kernel
theorem dX12_villages_144 : decode cX12_villages 144 = .ok (.ireturn, 1) := by decide +kernel
theorem dX12_drawn_0 : decode cX12_drawn 0 = .ok (.aload_n 0, 1) := by decide +kernel
theorem dX12_drawn_1 : decode cX12_drawn 1 = .ok (.getfield 9, 3) := by decide +kernel
theorem dX12_drawn_4 : decode cX12_drawn 4 = .ok (.iconst 5, 1) := by decide +kernel
theorem dX12_drawn_5 : decode cX12_drawn 5 = .ok (.aload_n 0, 1) := by decide +kernel
theorem dX12_drawn_6 : decode cX12_drawn 6 = .ok (.getfield 9, 3) := by decide +kernel
theorem dX12_drawn_9 : decode cX12_drawn 9 = .ok (.iconst 5, 1) := by decide +kernel
theorem dX12_drawn_10 : decode cX12_drawn 10 = .ok (.iaload, 1) := by decide +kernel
theorem dX12_drawn_11 : decode cX12_drawn 11 = .ok (.ldc 120, 2) := by decide +kernel
theorem dX12_drawn_13 : decode cX12_drawn 13 = .ok (.imul, 1) := by decide +kernel
theorem dX12_drawn_14 : decode cX12_drawn 14 = .ok (.sipush 12345, 3) := by decide +kernel
theorem dX12_drawn_17 : decode cX12_drawn 17 = .ok (.iadd, 1) := by decide +kernel
theorem dX12_drawn_18 : decode cX12_drawn 18 = .ok (.iastore, 1) := by decide +kernel
theorem dX12_drawn_19 : decode cX12_drawn 19 = .ok (.aload_n 0, 1) := by decide +kernel
theorem dX12_drawn_20 : decode cX12_drawn 20 = .ok (.getfield 9, 3) := by decide +kernel
theorem dX12_drawn_23 : decode cX12_drawn 23 = .ok (.iconst 5, 1) := by decide +kernel
theorem dX12_drawn_24 : decode cX12_drawn 24 = .ok (.iaload, 1) := by decide +kernel
theorem dX12_drawn_25 : decode cX12_drawn 25 = .ok (.bipush 8, 2) := by decide +kernel
theorem dX12_drawn_27 : decode cX12_drawn 27 = .ok (.iushr, 1) := by decide +kernel
theorem dX12_drawn_28 : decode cX12_drawn 28 = .ok (.iload_n 1, 1) := by decide +kernel
theorem dX12_drawn_29 : decode cX12_drawn 29 = .ok (.irem, 1) := by decide +kernel
theorem dX12_drawn_30 : decode cX12_drawn 30 = .ok (.ireturn, 1) := by decide +kernel
theorem dX12_made_0 : decode cX12_made 0 = .ok (.iload_n 1, 1) := by decide +kernel
theorem dX12_made_1 : decode cX12_made 1 = .ok (.iconst 1, 1) := by decide +kernel
theorem dX12_made_2 : decode cX12_made 2 = .ok (.bipush 8, 2) := by decide +kernel
theorem dX12_made_4 : decode cX12_made 4 = .ok (.invokestatic 76, 3) := by decide +kernel
theorem dX12_made_7 : decode cX12_made 7 = .ok (.ifCond .ne 10, 3) := by decide +kernel
theorem dX12_made_10 : decode cX12_made 10 = .ok (.aload_n 0, 1) := by decide +kernel
theorem dX12_made_11 : decode cX12_made 11 = .ok (.ldc 89, 2) := by decide +kernel
theorem dX12_made_13 : decode cX12_made 13 = .ok (.invokevirtual 90, 3) := by decide +kernel
theorem dX12_made_16 : decode cX12_made 16 = .ok (.ireturn, 1) := by decide +kernel
theorem dX12_made_17 : decode cX12_made 17 = .ok (.aload_n 0, 1) := by decide +kernel
theorem dX12_made_18 : decode cX12_made 18 = .ok (.getfield 9, 3) := by decide +kernel
theorem dX12_made_21 : decode cX12_made 21 = .ok (.iconst 1, 1) := by decide +kernel
theorem dX12_made_22 : decode cX12_made 22 = .ok (.iaload, 1) := by decide +kernel
theorem dX12_made_23 : decode cX12_made 23 = .ok (.iload_n 1, 1) := by decide +kernel
theorem dX12_made_24 : decode cX12_made 24 = .ok (.iadd, 1) := by decide +kernel
theorem dX12_made_25 : decode cX12_made 25 = .ok (.bipush 8, 2) := by decide +kernel
theorem dX12_made_27 : decode cX12_made 27 = .ok (.if_icmp .le 10, 3) := by decide +kernel
theorem dX12_made_30 : decode cX12_made 30 = .ok (.aload_n 0, 1) := by decide +kernel
theorem dX12_made_31 : decode cX12_made 31 = .ok (.ldc 94, 2) := by decide +kernel
theorem dX12_made_33 : decode cX12_made 33 = .ok (.invokevirtual 90, 3) := by decide +kernel
theorem dX12_made_36 : decode cX12_made 36 = .ok (.ireturn, 1) := by decide +kernel
theorem dX12_made_37 : decode cX12_made 37 = .ok (.iconst 0, 1) := by decide +kernel
theorem dX12_made_38 : decode cX12_made 38 = .ok (.istore_n 2, 1) := by decide +kernel
theorem dX12_made_39 : decode cX12_made 39 = .ok (.iload_n 2, 1) := by decide +kernel
theorem dX12_made_40 : decode cX12_made 40 = .ok (.iload_n 1, 1) := by decide +kernel
theorem dX12_made_41 : decode cX12_made 41 = .ok (.if_icmp .ge 63, 3) := by decide +kernel
theorem dX12_made_44 : decode cX12_made 44 = .ok (.aload_n 0, 1) := by decide +kernel
theorem dX12_made_45 : decode cX12_made 45 = .ok (.bipush 31, 2) := by decide +kernel
theorem dX12_made_47 : decode cX12_made 47 = .ok (.invokevirtual 121, 3) := by decide +kernel
theorem dX12_made_50 : decode cX12_made 50 = .ok (.istore_n 3, 1) := by decide +kernel
theorem dX12_made_51 : decode cX12_made 51 = .ok (.aload_n 0, 1) := by decide +kernel
theorem dX12_made_52 : decode cX12_made 52 = .ok (.bipush 31, 2) := by decide +kernel
theorem dX12_made_54 : decode cX12_made 54 = .ok (.invokevirtual 121, 3) := by decide +kernel
theorem dX12_made_57 : decode cX12_made 57 = .ok (.istore 4, 2) := by decide +kernel
theorem dX12_made_59 : decode cX12_made 59 = .ok (.aload_n 0, 1) := by decide +kernel
theorem dX12_made_60 : decode cX12_made 60 = .ok (.bipush 100, 2) := by decide +kernel
theorem dX12_made_62 : decode cX12_made 62 = .ok (.invokevirtual 121, 3) := by decide +kernel
theorem dX12_made_65 : decode cX12_made 65 = .ok (.istore 5, 2) := by decide +kernel
theorem dX12_made_67 : decode cX12_made 67 = .ok (.aload_n 0, 1) := by decide +kernel
theorem dX12_made_68 : decode cX12_made 68 = .ok (.sipush 300, 3) := by decide +kernel
theorem dX12_made_71 : decode cX12_made 71 = .ok (.invokevirtual 121, 3) := by decide +kernel
theorem dX12_made_74 : decode cX12_made 74 = .ok (.istore 6, 2) := by decide +kernel
theorem dX12_made_76 : decode cX12_made 76 = .ok (.aload_n 0, 1) := by decide +kernel
theorem dX12_made_77 : decode cX12_made 77 = .ok (.bipush 100, 2) := by decide +kernel
theorem dX12_made_79 : decode cX12_made 79 = .ok (.iload_n 3, 1) := by decide +kernel
theorem dX12_made_80 : decode cX12_made 80 = .ok (.imul, 1) := by decide +kernel
theorem dX12_made_81 : decode cX12_made 81 = .ok (.iload 4, 2) := by decide +kernel
theorem dX12_made_83 : decode cX12_made 83 = .ok (.iadd, 1) := by decide +kernel
theorem dX12_made_84 : decode cX12_made 84 = .ok (.iload 5, 2) := by decide +kernel
theorem dX12_made_86 : decode cX12_made 86 = .ok (.iload 6, 2) := by decide +kernel
theorem dX12_made_88 : decode cX12_made 88 = .ok (.aload_n 0, 1) := by decide +kernel
theorem dX12_made_89 : decode cX12_made 89 = .ok (.sipush 200, 3) := by decide +kernel
theorem dX12_made_92 : decode cX12_made 92 = .ok (.invokevirtual 121, 3) := by decide +kernel
theorem dX12_made_95 : decode cX12_made 95 = .ok (.invokevirtual 95, 3) := by decide +kernel
theorem dX12_made_98 : decode cX12_made 98 = .ok (.iinc 2 1, 3) := by decide +kernel
theorem dX12_made_101 : decode cX12_made 101 = .ok (.goto (-62), 3) := by decide +kernel
theorem dX12_made_104 : decode cX12_made 104 = .ok (.aload_n 0, 1) := by decide +kernel
theorem dX12_made_105 : decode cX12_made 105 = .ok (.getfield 9, 3) := by decide +kernel
theorem dX12_made_108 : decode cX12_made 108 = .ok (.iconst 1, 1) := by decide +kernel
theorem dX12_made_109 : decode cX12_made 109 = .ok (.iaload, 1) := by decide +kernel
theorem dX12_made_110 : decode cX12_made 110 = .ok (.ireturn, 1) := by decide +kernel
theorem dX12_pace_0 : decode cX12_pace 0 = .ok (.iload_n 1, 1) := by decide +kernel
theorem dX12_pace_1 : decode cX12_pace 1 = .ok (.iconst 1, 1) := by decide +kernel
theorem dX12_pace_2 : decode cX12_pace 2 = .ok (.bipush 9, 2) := by decide +kernel
theorem dX12_pace_4 : decode cX12_pace 4 = .ok (.invokestatic 76, 3) := by decide +kernel
theorem dX12_pace_7 : decode cX12_pace 7 = .ok (.ifCond .eq 13, 3) := by decide +kernel
theorem dX12_pace_10 : decode cX12_pace 10 = .ok (.aload_n 0, 1) := by decide +kernel
theorem dX12_pace_11 : decode cX12_pace 11 = .ok (.bipush 6, 2) := by decide +kernel
theorem dX12_pace_13 : decode cX12_pace 13 = .ok (.iload_n 1, 1) := by decide +kernel
theorem dX12_pace_14 : decode cX12_pace 14 = .ok (.invokevirtual 113, 3) := by decide +kernel
theorem dX12_pace_17 : decode cX12_pace 17 = .ok (.goto 9, 3) := by decide +kernel
theorem dX12_pace_20 : decode cX12_pace 20 = .ok (.aload_n 0, 1) := by decide +kernel
theorem dX12_pace_21 : decode cX12_pace 21 = .ok (.ldc 89, 2) := by decide +kernel
theorem dX12_pace_23 : decode cX12_pace 23 = .ok (.invokevirtual 90, 3) := by decide +kernel
theorem dX12_pace_26 : decode cX12_pace 26 = .ok (.ireturn, 1) := by decide +kernel
theorem dX12_wayOf_0 : decode cX12_wayOf 0 = .ok (.aload_n 0, 1) := by decide +kernel
theorem dX12_wayOf_1 : decode cX12_wayOf 1 = .ok (.iload_n 1, 1) := by decide +kernel
theorem dX12_wayOf_2 : decode cX12_wayOf 2 = .ok (.invokevirtual 110, 3) := by decide +kernel
theorem dX12_wayOf_5 : decode cX12_wayOf 5 = .ok (.bipush 100, 2) := by decide +kernel
theorem dX12_wayOf_7 : decode cX12_wayOf 7 = .ok (.idiv, 1) := by decide +kernel
theorem dX12_wayOf_8 : decode cX12_wayOf 8 = .ok (.aload_n 0, 1) := by decide +kernel
theorem dX12_wayOf_9 : decode cX12_wayOf 9 = .ok (.iload_n 2, 1) := by decide +kernel
theorem dX12_wayOf_10 : decode cX12_wayOf 10 = .ok (.invokevirtual 110, 3) := by decide +kernel
theorem dX12_wayOf_13 : decode cX12_wayOf 13 = .ok (.bipush 100, 2) := by decide +kernel
theorem dX12_wayOf_15 : decode cX12_wayOf 15 = .ok (.idiv, 1) := by decide +kernel
theorem dX12_wayOf_16 : decode cX12_wayOf 16 = .ok (.isub, 1) := by decide +kernel
theorem dX12_wayOf_17 : decode cX12_wayOf 17 = .ok (.invokestatic 124, 3) := by decide +kernel
theorem dX12_wayOf_20 : decode cX12_wayOf 20 = .ok (.istore_n 3, 1) := by decide +kernel
theorem dX12_wayOf_21 : decode cX12_wayOf 21 = .ok (.aload_n 0, 1) := by decide +kernel
theorem dX12_wayOf_22 : decode cX12_wayOf 22 = .ok (.iload_n 1, 1) := by decide +kernel
theorem dX12_wayOf_23 : decode cX12_wayOf 23 = .ok (.invokevirtual 110, 3) := by decide +kernel
theorem dX12_wayOf_26 : decode cX12_wayOf 26 = .ok (.bipush 100, 2) := by decide +kernel
theorem dX12_wayOf_28 : decode cX12_wayOf 28 = .ok (.irem, 1) := by decide +kernel
theorem dX12_wayOf_29 : decode cX12_wayOf 29 = .ok (.aload_n 0, 1) := by decide +kernel
theorem dX12_wayOf_30 : decode cX12_wayOf 30 = .ok (.iload_n 2, 1) := by decide +kernel
theorem dX12_wayOf_31 : decode cX12_wayOf 31 = .ok (.invokevirtual 110, 3) := by decide +kernel
theorem dX12_wayOf_34 : decode cX12_wayOf 34 = .ok (.bipush 100, 2) := by decide +kernel
theorem dX12_wayOf_36 : decode cX12_wayOf 36 = .ok (.irem, 1) := by decide +kernel
theorem dX12_wayOf_37 : decode cX12_wayOf 37 = .ok (.isub, 1) := by decide +kernel
theorem dX12_wayOf_38 : decode cX12_wayOf 38 = .ok (.invokestatic 124, 3) := by decide +kernel
theorem dX12_wayOf_41 : decode cX12_wayOf 41 = .ok (.istore 4, 2) := by decide +kernel
theorem dX12_wayOf_43 : decode cX12_wayOf 43 = .ok (.iload_n 3, 1) := by decide +kernel
theorem dX12_wayOf_44 : decode cX12_wayOf 44 = .ok (.iload 4, 2) := by decide +kernel
theorem dX12_wayOf_46 : decode cX12_wayOf 46 = .ok (.iadd, 1) := by decide +kernel
theorem dX12_wayOf_47 : decode cX12_wayOf 47 = .ok (.aload_n 0, 1) := by decide +kernel
theorem dX12_wayOf_48 : decode cX12_wayOf 48 = .ok (.getfield 9, 3) := by decide +kernel
theorem dX12_wayOf_51 : decode cX12_wayOf 51 = .ok (.bipush 6, 2) := by decide +kernel
theorem dX12_wayOf_53 : decode cX12_wayOf 53 = .ok (.iaload, 1) := by decide +kernel
theorem dX12_wayOf_54 : decode cX12_wayOf 54 = .ok (.imul, 1) := by decide +kernel
theorem dX12_wayOf_55 : decode cX12_wayOf 55 = .ok (.istore 5, 2) := by decide +kernel
theorem dX12_wayOf_57 : decode cX12_wayOf 57 = .ok (.aload_n 0, 1) := by decide +kernel
theorem dX12_wayOf_58 : decode cX12_wayOf 58 = .ok (.getfield 9, 3) := by decide +kernel
theorem dX12_wayOf_61 : decode cX12_wayOf 61 = .ok (.bipush 48, 2) := by decide +kernel
theorem dX12_wayOf_63 : decode cX12_wayOf 63 = .ok (.bipush 8, 2) := by decide +kernel
theorem dX12_wayOf_65 : decode cX12_wayOf 65 = .ok (.iload_n 1, 1) := by decide +kernel
theorem dX12_wayOf_66 : decode cX12_wayOf 66 = .ok (.imul, 1) := by decide +kernel
theorem dX12_wayOf_67 : decode cX12_wayOf 67 = .ok (.iadd, 1) := by decide +kernel
theorem dX12_wayOf_68 : decode cX12_wayOf 68 = .ok (.iload_n 2, 1) := by decide +kernel
theorem dX12_wayOf_69 : decode cX12_wayOf 69 = .ok (.iadd, 1) := by decide +kernel
theorem dX12_wayOf_70 : decode cX12_wayOf 70 = .ok (.iaload, 1) := by decide +kernel
theorem dX12_wayOf_71 : decode cX12_wayOf 71 = .ok (.iconst 1, 1) := by decide +kernel
theorem dX12_wayOf_72 : decode cX12_wayOf 72 = .ok (.if_icmp .ne 10, 3) := by decide +kernel
theorem dX12_wayOf_75 : decode cX12_wayOf 75 = .ok (.iload 5, 2) := by decide +kernel
theorem dX12_wayOf_77 : decode cX12_wayOf 77 = .ok (.iconst 2, 1) := by decide +kernel
theorem dX12_wayOf_78 : decode cX12_wayOf 78 = .ok (.idiv, 1) := by decide +kernel
theorem dX12_wayOf_79 : decode cX12_wayOf 79 = .ok (.goto 5, 3) := by decide +kernel
theorem dX12_wayOf_82 : decode cX12_wayOf 82 = .ok (.iload 5, 2) := by decide +kernel
theorem dX12_wayOf_84 : decode cX12_wayOf 84 = .ok (.ireturn, 1) := by decide +kernel
theorem dX12_way_0 : decode cX12_way 0 = .ok (.aload_n 0, 1) := by decide +kernel
theorem dX12_way_1 : decode cX12_way 1 = .ok (.iload_n 1, 1) := by decide +kernel
theorem dX12_way_2 : decode cX12_way 2 = .ok (.iconst 1, 1) := by decide +kernel
theorem dX12_way_3 : decode cX12_way 3 = .ok (.invokevirtual 103, 3) := by decide +kernel
theorem dX12_way_6 : decode cX12_way 6 = .ok (.ifCond .eq 21, 3) := by decide +kernel
theorem dX12_way_9 : decode cX12_way 9 = .ok (.aload_n 0, 1) := by decide +kernel
theorem dX12_way_10 : decode cX12_way 10 = .ok (.iload_n 2, 1) := by decide +kernel
theorem dX12_way_11 : decode cX12_way 11 = .ok (.iconst 1, 1) := by decide +kernel
theorem dX12_way_12 : decode cX12_way 12 = .ok (.invokevirtual 103, 3) := by decide +kernel
theorem dX12_way_15 : decode cX12_way 15 = .ok (.ifCond .eq 12, 3) := by decide +kernel
theorem dX12_way_18 : decode cX12_way 18 = .ok (.aload_n 0, 1) := by decide +kernel
theorem dX12_way_19 : decode cX12_way 19 = .ok (.iload_n 1, 1) := by decide +kernel
theorem dX12_way_20 : decode cX12_way 20 = .ok (.iload_n 2, 1) := by decide +kernel
theorem dX12_way_21 : decode cX12_way 21 = .ok (.invokevirtual 129, 3) := by decide +kernel
theorem dX12_way_24 : decode cX12_way 24 = .ok (.goto 9, 3) := by decide +kernel
theorem dX12_way_27 : decode cX12_way 27 = .ok (.aload_n 0, 1) := by decide +kernel
theorem dX12_way_28 : decode cX12_way 28 = .ok (.ldc 89, 2) := by decide +kernel
theorem dX12_way_30 : decode cX12_way 30 = .ok (.invokevirtual 90, 3) := by decide +kernel
theorem dX12_way_33 : decode cX12_way 33 = .ok (.ireturn, 1) := by decide +kernel
theorem dX12_mends_0 : decode cX12_mends 0 = .ok (.aload_n 0, 1) := by decide +kernel
theorem dX12_mends_1 : decode cX12_mends 1 = .ok (.getfield 9, 3) := by decide +kernel
theorem dX12_mends_4 : decode cX12_mends 4 = .ok (.bipush 48, 2) := by decide +kernel
theorem dX12_mends_6 : decode cX12_mends 6 = .ok (.bipush 8, 2) := by decide +kernel
theorem dX12_mends_8 : decode cX12_mends 8 = .ok (.iload_n 2, 1) := by decide +kernel
theorem dX12_mends_9 : decode cX12_mends 9 = .ok (.imul, 1) := by decide +kernel
theorem dX12_mends_10 : decode cX12_mends 10 = .ok (.iadd, 1) := by decide +kernel
theorem dX12_mends_11 : decode cX12_mends 11 = .ok (.iload_n 1, 1) := by decide +kernel
theorem dX12_mends_12 : decode cX12_mends 12 = .ok (.iadd, 1) := by decide +kernel
theorem dX12_mends_13 : decode cX12_mends 13 = .ok (.iload_n 3, 1) := by decide +kernel
theorem dX12_mends_14 : decode cX12_mends 14 = .ok (.iastore, 1) := by decide +kernel
theorem dX12_mends_15 : decode cX12_mends 15 = .ok (.aload_n 0, 1) := by decide +kernel
theorem dX12_mends_16 : decode cX12_mends 16 = .ok (.bipush 48, 2) := by decide +kernel
theorem dX12_mends_18 : decode cX12_mends 18 = .ok (.bipush 8, 2) := by decide +kernel
theorem dX12_mends_20 : decode cX12_mends 20 = .ok (.iload_n 1, 1) := by decide +kernel
theorem dX12_mends_21 : decode cX12_mends 21 = .ok (.imul, 1) := by decide +kernel
theorem dX12_mends_22 : decode cX12_mends 22 = .ok (.iadd, 1) := by decide +kernel
theorem dX12_mends_23 : decode cX12_mends 23 = .ok (.iload_n 2, 1) := by decide +kernel
theorem dX12_mends_24 : decode cX12_mends 24 = .ok (.iadd, 1) := by decide +kernel
theorem dX12_mends_25 : decode cX12_mends 25 = .ok (.iload_n 3, 1) := by decide +kernel
theorem dX12_mends_26 : decode cX12_mends 26 = .ok (.invokevirtual 113, 3) := by decide +kernel
theorem dX12_mends_29 : decode cX12_mends 29 = .ok (.ireturn, 1) := by decide +kernel
theorem dX12_mend_0 : decode cX12_mend 0 = .ok (.aload_n 0, 1) := by decide +kernel
theorem dX12_mend_1 : decode cX12_mend 1 = .ok (.iload_n 1, 1) := by decide +kernel
theorem dX12_mend_2 : decode cX12_mend 2 = .ok (.iconst 1, 1) := by decide +kernel
theorem dX12_mend_3 : decode cX12_mend 3 = .ok (.invokevirtual 103, 3) := by decide +kernel
theorem dX12_mend_6 : decode cX12_mend 6 = .ok (.ifCond .eq 36, 3) := by decide +kernel
theorem dX12_mend_9 : decode cX12_mend 9 = .ok (.aload_n 0, 1) := by decide +kernel
theorem dX12_mend_10 : decode cX12_mend 10 = .ok (.iload_n 2, 1) := by decide +kernel
theorem dX12_mend_11 : decode cX12_mend 11 = .ok (.iconst 1, 1) := by decide +kernel
theorem dX12_mend_12 : decode cX12_mend 12 = .ok (.invokevirtual 103, 3) := by decide +kernel
theorem dX12_mend_15 : decode cX12_mend 15 = .ok (.ifCond .eq 27, 3) := by decide +kernel
theorem dX12_mend_18 : decode cX12_mend 18 = .ok (.iload_n 1, 1) := by decide +kernel
theorem dX12_mend_19 : decode cX12_mend 19 = .ok (.iload_n 2, 1) := by decide +kernel
theorem dX12_mend_20 : decode cX12_mend 20 = .ok (.if_icmp .eq 22, 3) := by decide +kernel
theorem dX12_mend_23 : decode cX12_mend 23 = .ok (.iload_n 3, 1) := by decide +kernel
theorem dX12_mend_24 : decode cX12_mend 24 = .ok (.iconst 0, 1) := by decide +kernel
theorem dX12_mend_25 : decode cX12_mend 25 = .ok (.iconst 1, 1) := by decide +kernel
theorem dX12_mend_26 : decode cX12_mend 26 = .ok (.invokestatic 76, 3) := by decide +kernel
theorem dX12_mend_29 : decode cX12_mend 29 = .ok (.ifCond .eq 13, 3) := by decide +kernel
theorem dX12_mend_32 : decode cX12_mend 32 = .ok (.aload_n 0, 1) := by decide +kernel
theorem dX12_mend_33 : decode cX12_mend 33 = .ok (.iload_n 1, 1) := by decide +kernel
theorem dX12_mend_34 : decode cX12_mend 34 = .ok (.iload_n 2, 1) := by decide +kernel
theorem dX12_mend_35 : decode cX12_mend 35 = .ok (.iload_n 3, 1) := by decide +kernel
theorem dX12_mend_36 : decode cX12_mend 36 = .ok (.invokevirtual 132, 3) := by decide +kernel
theorem dX12_mend_39 : decode cX12_mend 39 = .ok (.goto 9, 3) := by decide +kernel
theorem dX12_mend_42 : decode cX12_mend 42 = .ok (.aload_n 0, 1) := by decide +kernel
theorem dX12_mend_43 : decode cX12_mend 43 = .ok (.ldc 89, 2) := by decide +kernel
theorem dX12_mend_45 : decode cX12_mend 45 = .ok (.invokevirtual 90, 3) := by decide +kernel
theorem dX12_mend_48 : decode cX12_mend 48 = .ok (.ireturn, 1) := by decide +kernel
theorem dX12_thing_0 : decode cX12_thing 0 = .ok (.aload_n 0, 1) := by decide +kernel
theorem dX12_thing_1 : decode cX12_thing 1 = .ok (.getfield 9, 3) := by decide +kernel
theorem dX12_thing_4 : decode cX12_thing 4 = .ok (.bipush 112, 2) := by decide +kernel
theorem dX12_thing_6 : decode cX12_thing 6 = .ok (.bipush 7, 2) := by decide +kernel
theorem dX12_thing_8 : decode cX12_thing 8 = .ok (.iload_n 1, 1) := by decide +kernel
theorem dX12_thing_9 : decode cX12_thing 9 = .ok (.imul, 1) := by decide +kernel
theorem dX12_thing_10 : decode cX12_thing 10 = .ok (.iadd, 1) := by decide +kernel
theorem dX12_thing_11 : decode cX12_thing 11 = .ok (.iload_n 2, 1) := by decide +kernel
theorem dX12_thing_12 : decode cX12_thing 12 = .ok (.iadd, 1) := by decide +kernel
theorem dX12_thing_13 : decode cX12_thing 13 = .ok (.iaload, 1) := by decide +kernel
theorem dX12_thing_14 : decode cX12_thing 14 = .ok (.ireturn, 1) := by decide +kernel
theorem dX12_isOpen_0 : decode cX12_isOpen 0 = .ok (.aload_n 0, 1) := by decide +kernel
theorem dX12_isOpen_1 : decode cX12_isOpen 1 = .ok (.iload_n 1, 1) := by decide +kernel
theorem dX12_isOpen_2 : decode cX12_isOpen 2 = .ok (.iconst 5, 1) := by decide +kernel
theorem dX12_isOpen_3 : decode cX12_isOpen 3 = .ok (.invokevirtual 136, 3) := by decide +kernel
theorem dX12_isOpen_6 : decode cX12_isOpen 6 = .ok (.iconst 1, 1) := by decide +kernel
theorem dX12_isOpen_7 : decode cX12_isOpen 7 = .ok (.if_icmp .ne 7, 3) := by decide +kernel
theorem dX12_isOpen_10 : decode cX12_isOpen 10 = .ok (.iconst 1, 1) := by decide +kernel
theorem dX12_isOpen_11 : decode cX12_isOpen 11 = .ok (.goto 4, 3) := by decide +kernel
theorem dX12_isOpen_14 : decode cX12_isOpen 14 = .ok (.iconst 0, 1) := by decide +kernel
theorem dX12_isOpen_15 : decode cX12_isOpen 15 = .ok (.ireturn, 1) := by decide +kernel
theorem dX12_opens_0 : decode cX12_opens 0 = .ok (.aload_n 0, 1) := by decide +kernel
theorem dX12_opens_1 : decode cX12_opens 1 = .ok (.getfield 9, 3) := by decide +kernel
theorem dX12_opens_4 : decode cX12_opens 4 = .ok (.bipush 112, 2) := by decide +kernel
theorem dX12_opens_6 : decode cX12_opens 6 = .ok (.bipush 7, 2) := by decide +kernel
theorem dX12_opens_8 : decode cX12_opens 8 = .ok (.iload_n 1, 1) := by decide +kernel
theorem dX12_opens_9 : decode cX12_opens 9 = .ok (.imul, 1) := by decide +kernel
theorem dX12_opens_10 : decode cX12_opens 10 = .ok (.iadd, 1) := by decide +kernel
theorem dX12_opens_11 : decode cX12_opens 11 = .ok (.iconst 5, 1) := by decide +kernel
theorem dX12_opens_12 : decode cX12_opens 12 = .ok (.iadd, 1) := by decide +kernel
theorem dX12_opens_13 : decode cX12_opens 13 = .ok (.iload_n 2, 1) := by decide +kernel
theorem dX12_opens_14 : decode cX12_opens 14 = .ok (.ifCond .eq 7, 3) := by decide +kernel
theorem dX12_opens_17 : decode cX12_opens 17 = .ok (.iconst 1, 1) := by decide +kernel
theorem dX12_opens_18 : decode cX12_opens 18 = .ok (.goto 4, 3) := by decide +kernel
theorem dX12_opens_21 : decode cX12_opens 21 = .ok (.iconst 0, 1) := by decide +kernel
theorem dX12_opens_22 : decode cX12_opens 22 = .ok (.iastore, 1) := by decide +kernel
theorem dX12_opens_23 : decode cX12_opens 23 = .ok (.return_, 1) := by decide +kernel
theorem dX12_stands_0 : decode cX12_stands 0 = .ok (.aload_n 0, 1) := by decide +kernel
theorem dX12_stands_1 : decode cX12_stands 1 = .ok (.getfield 9, 3) := by decide +kernel
theorem dX12_stands_4 : decode cX12_stands 4 = .ok (.iconst 2, 1) := by decide +kernel
theorem dX12_stands_5 : decode cX12_stands 5 = .ok (.iaload, 1) := by decide +kernel
theorem dX12_stands_6 : decode cX12_stands 6 = .ok (.istore 6, 2) := by decide +kernel
theorem dX12_stands_8 : decode cX12_stands 8 = .ok (.bipush 112, 2) := by decide +kernel
theorem dX12_stands_10 : decode cX12_stands 10 = .ok (.bipush 7, 2) := by decide +kernel
theorem dX12_stands_12 : decode cX12_stands 12 = .ok (.iload 6, 2) := by decide +kernel
theorem dX12_stands_14 : decode cX12_stands 14 = .ok (.imul, 1) := by decide +kernel
theorem dX12_stands_15 : decode cX12_stands 15 = .ok (.iadd, 1) := by decide +kernel
theorem dX12_stands_16 : decode cX12_stands 16 = .ok (.istore 7, 2) := by decide +kernel
theorem dX12_stands_18 : decode cX12_stands 18 = .ok (.aload_n 0, 1) := by decide +kernel
theorem dX12_stands_19 : decode cX12_stands 19 = .ok (.getfield 9, 3) := by decide +kernel
theorem dX12_stands_22 : decode cX12_stands 22 = .ok (.iload 7, 2) := by decide +kernel
theorem dX12_stands_24 : decode cX12_stands 24 = .ok (.iconst 0, 1) := by decide +kernel
theorem dX12_stands_25 : decode cX12_stands 25 = .ok (.iadd, 1) := by decide +kernel
theorem dX12_stands_26 : decode cX12_stands 26 = .ok (.iload_n 1, 1) := by decide +kernel
theorem dX12_stands_27 : decode cX12_stands 27 = .ok (.iastore, 1) := by decide +kernel
theorem dX12_stands_28 : decode cX12_stands 28 = .ok (.aload_n 0, 1) := by decide +kernel
theorem dX12_stands_29 : decode cX12_stands 29 = .ok (.getfield 9, 3) := by decide +kernel
theorem dX12_stands_32 : decode cX12_stands 32 = .ok (.iload 7, 2) := by decide +kernel
theorem dX12_stands_34 : decode cX12_stands 34 = .ok (.iconst 1, 1) := by decide +kernel
theorem dX12_stands_35 : decode cX12_stands 35 = .ok (.iadd, 1) := by decide +kernel
theorem dX12_stands_36 : decode cX12_stands 36 = .ok (.iload_n 2, 1) := by decide +kernel
theorem dX12_stands_37 : decode cX12_stands 37 = .ok (.iastore, 1) := by decide +kernel
theorem dX12_stands_38 : decode cX12_stands 38 = .ok (.aload_n 0, 1) := by decide +kernel
theorem dX12_stands_39 : decode cX12_stands 39 = .ok (.getfield 9, 3) := by decide +kernel
theorem dX12_stands_42 : decode cX12_stands 42 = .ok (.iload 7, 2) := by decide +kernel
theorem dX12_stands_44 : decode cX12_stands 44 = .ok (.iconst 2, 1) := by decide +kernel
theorem dX12_stands_45 : decode cX12_stands 45 = .ok (.iadd, 1) := by decide +kernel
theorem dX12_stands_46 : decode cX12_stands 46 = .ok (.iload_n 3, 1) := by decide +kernel
theorem dX12_stands_47 : decode cX12_stands 47 = .ok (.iastore, 1) := by decide +kernel
theorem dX12_stands_48 : decode cX12_stands 48 = .ok (.aload_n 0, 1) := by decide +kernel
theorem dX12_stands_49 : decode cX12_stands 49 = .ok (.getfield 9, 3) := by decide +kernel
theorem dX12_stands_52 : decode cX12_stands 52 = .ok (.iload 7, 2) := by decide +kernel
theorem dX12_stands_54 : decode cX12_stands 54 = .ok (.iconst 3, 1) := by decide +kernel
theorem dX12_stands_55 : decode cX12_stands 55 = .ok (.iadd, 1) := by decide +kernel
theorem dX12_stands_56 : decode cX12_stands 56 = .ok (.iload 4, 2) := by decide +kernel
theorem dX12_stands_58 : decode cX12_stands 58 = .ok (.iastore, 1) := by decide +kernel
theorem dX12_stands_59 : decode cX12_stands 59 = .ok (.aload_n 0, 1) := by decide +kernel
theorem dX12_stands_60 : decode cX12_stands 60 = .ok (.getfield 9, 3) := by decide +kernel
theorem dX12_stands_63 : decode cX12_stands 63 = .ok (.iload 7, 2) := by decide +kernel
theorem dX12_stands_65 : decode cX12_stands 65 = .ok (.iconst 4, 1) := by decide +kernel
theorem dX12_stands_66 : decode cX12_stands 66 = .ok (.iadd, 1) := by decide +kernel
theorem dX12_stands_67 : decode cX12_stands 67 = .ok (.iload 5, 2) := by decide +kernel
theorem dX12_stands_69 : decode cX12_stands 69 = .ok (.iastore, 1) := by decide +kernel
theorem dX12_stands_70 : decode cX12_stands 70 = .ok (.aload_n 0, 1) := by decide +kernel
theorem dX12_stands_71 : decode cX12_stands 71 = .ok (.getfield 9, 3) := by decide +kernel
theorem dX12_stands_74 : decode cX12_stands 74 = .ok (.iload 7, 2) := by decide +kernel
theorem dX12_stands_76 : decode cX12_stands 76 = .ok (.iconst 5, 1) := by decide +kernel
theorem dX12_stands_77 : decode cX12_stands 77 = .ok (.iadd, 1) := by decide +kernel
theorem dX12_stands_78 : decode cX12_stands 78 = .ok (.iconst 1, 1) := by decide +kernel
theorem dX12_stands_79 : decode cX12_stands 79 = .ok (.iastore, 1) := by decide +kernel
theorem dX12_stands_80 : decode cX12_stands 80 = .ok (.aload_n 0, 1) := by decide +kernel
theorem dX12_stands_81 : decode cX12_stands 81 = .ok (.getfield 9, 3) := by decide +kernel
theorem dX12_stands_84 : decode cX12_stands 84 = .ok (.iload 7, 2) := by decide +kernel
theorem dX12_stands_86 : decode cX12_stands 86 = .ok (.bipush 6, 2) := by decide +kernel
theorem dX12_stands_88 : decode cX12_stands 88 = .ok (.iadd, 1) := by decide +kernel
theorem dX12_stands_89 : decode cX12_stands 89 = .ok (.iconst (-1), 1) := by decide +kernel
theorem dX12_stands_90 : decode cX12_stands 90 = .ok (.iastore, 1) := by decide +kernel
theorem dX12_stands_91 : decode cX12_stands 91 = .ok (.aload_n 0, 1) := by decide +kernel
theorem dX12_stands_92 : decode cX12_stands 92 = .ok (.getfield 9, 3) := by decide +kernel
theorem dX12_stands_95 : decode cX12_stands 95 = .ok (.iconst 2, 1) := by decide +kernel
theorem dX12_stands_96 : decode cX12_stands 96 = .ok (.dup2, 1) := by decide +kernel
theorem dX12_stands_97 : decode cX12_stands 97 = .ok (.iaload, 1) := by decide +kernel
theorem dX12_stands_98 : decode cX12_stands 98 = .ok (.iconst 1, 1) := by decide +kernel
theorem dX12_stands_99 : decode cX12_stands 99 = .ok (.iadd, 1) := by decide +kernel
theorem dX12_stands_100 : decode cX12_stands 100 = .ok (.iastore, 1) := by decide +kernel
theorem dX12_stands_101 : decode cX12_stands 101 = .ok (.iload 6, 2) := by decide +kernel
theorem dX12_stands_103 : decode cX12_stands 103 = .ok (.ireturn, 1) := by decide +kernel
theorem dX12_thing__0 : decode cX12_thing_ 0 = .ok (.iload_n 1, 1) := by decide +kernel
theorem dX12_thing__1 : decode cX12_thing_ 1 = .ok (.iconst 0, 1) := by decide +kernel
theorem dX12_thing__2 : decode cX12_thing_ 2 = .ok (.bipush 69, 2) := by decide +kernel
theorem dX12_thing__4 : decode cX12_thing_ 4 = .ok (.invokestatic 76, 3) := by decide +kernel
theorem dX12_thing__7 : decode cX12_thing_ 7 = .ok (.ifCond .eq 49, 3) := by decide +kernel
theorem dX12_thing__10 : decode cX12_thing_ 10 = .ok (.aload_n 0, 1) := by decide +kernel
theorem dX12_thing__11 : decode cX12_thing_ 11 = .ok (.iload_n 1, 1) := by decide +kernel
theorem dX12_thing__12 : decode cX12_thing_ 12 = .ok (.bipush 10, 2) := by decide +kernel
theorem dX12_thing__14 : decode cX12_thing_ 14 = .ok (.irem, 1) := by decide +kernel
theorem dX12_thing__15 : decode cX12_thing_ 15 = .ok (.iconst 1, 1) := by decide +kernel
theorem dX12_thing__16 : decode cX12_thing_ 16 = .ok (.invokevirtual 103, 3) := by decide +kernel
theorem dX12_thing__19 : decode cX12_thing_ 19 = .ok (.ifCond .eq 37, 3) := by decide +kernel
theorem dX12_thing__22 : decode cX12_thing_ 22 = .ok (.iload_n 2, 1) := by decide +kernel
theorem dX12_thing__23 : decode cX12_thing_ 23 = .ok (.iconst 0, 1) := by decide +kernel
theorem dX12_thing__24 : decode cX12_thing_ 24 = .ok (.sipush 999, 3) := by decide +kernel
theorem dX12_thing__27 : decode cX12_thing_ 27 = .ok (.invokestatic 76, 3) := by decide +kernel
theorem dX12_thing__30 : decode cX12_thing_ 30 = .ok (.ifCond .eq 26, 3) := by decide +kernel
theorem dX12_thing__33 : decode cX12_thing_ 33 = .ok (.iload_n 3, 1) := by decide +kernel
theorem dX12_thing__34 : decode cX12_thing_ 34 = .ok (.iconst 0, 1) := by decide +kernel
theorem dX12_thing__35 : decode cX12_thing_ 35 = .ok (.sipush 9999, 3) := by decide +kernel
theorem dX12_thing__38 : decode cX12_thing_ 38 = .ok (.invokestatic 76, 3) := by decide +kernel
theorem dX12_thing__41 : decode cX12_thing_ 41 = .ok (.ifCond .eq 15, 3) := by decide +kernel
theorem dX12_thing__44 : decode cX12_thing_ 44 = .ok (.iload 4, 2) := by decide +kernel
theorem dX12_thing__46 : decode cX12_thing_ 46 = .ok (.iconst 0, 1) := by decide +kernel
theorem dX12_thing__47 : decode cX12_thing_ 47 = .ok (.sipush 300, 3) := by decide +kernel
theorem dX12_thing__50 : decode cX12_thing_ 50 = .ok (.invokestatic 76, 3) := by decide +kernel
theorem dX12_thing__53 : decode cX12_thing_ 53 = .ok (.ifCond .ne 10, 3) := by decide +kernel
theorem dX12_thing__56 : decode cX12_thing_ 56 = .ok (.aload_n 0, 1) := by decide +kernel
theorem dX12_thing__57 : decode cX12_thing_ 57 = .ok (.ldc 89, 2) := by decide +kernel
theorem dX12_thing__59 : decode cX12_thing_ 59 = .ok (.invokevirtual 90, 3) := by decide +kernel
theorem dX12_thing__62 : decode cX12_thing_ 62 = .ok (.ireturn, 1) := by decide +kernel
theorem dX12_thing__63 : decode cX12_thing_ 63 = .ok (.aload_n 0, 1) := by decide +kernel
theorem dX12_thing__64 : decode cX12_thing_ 64 = .ok (.getfield 9, 3) := by decide +kernel
theorem dX12_thing__67 : decode cX12_thing_ 67 = .ok (.iconst 2, 1) := by decide +kernel
theorem dX12_thing__68 : decode cX12_thing_ 68 = .ok (.iaload, 1) := by decide +kernel
theorem dX12_thing__69 : decode cX12_thing_ 69 = .ok (.bipush 10, 2) := by decide +kernel
theorem dX12_thing__71 : decode cX12_thing_ 71 = .ok (.if_icmp .ne 12, 3) := by decide +kernel
theorem dX12_thing__74 : decode cX12_thing_ 74 = .ok (.aload_n 0, 1) := by decide +kernel
theorem dX12_thing__75 : decode cX12_thing_ 75 = .ok (.ldc 94, 2) := by decide +kernel
theorem dX12_thing__77 : decode cX12_thing_ 77 = .ok (.invokevirtual 90, 3) := by decide +kernel
theorem dX12_thing__80 : decode cX12_thing_ 80 = .ok (.goto 19, 3) := by decide +kernel
theorem dX12_thing__83 : decode cX12_thing_ 83 = .ok (.aload_n 0, 1) := by decide +kernel
theorem dX12_thing__84 : decode cX12_thing_ 84 = .ok (.iload_n 1, 1) := by decide +kernel
theorem dX12_thing__85 : decode cX12_thing_ 85 = .ok (.bipush 10, 2) := by decide +kernel
theorem dX12_thing__87 : decode cX12_thing_ 87 = .ok (.idiv, 1) := by decide +kernel
theorem dX12_thing__88 : decode cX12_thing_ 88 = .ok (.iload_n 1, 1) := by decide +kernel
theorem dX12_thing__89 : decode cX12_thing_ 89 = .ok (.bipush 10, 2) := by decide +kernel
theorem dX12_thing__91 : decode cX12_thing_ 91 = .ok (.irem, 1) := by decide +kernel
theorem dX12_thing__92 : decode cX12_thing_ 92 = .ok (.iload_n 2, 1) := by decide +kernel
theorem dX12_thing__93 : decode cX12_thing_ 93 = .ok (.iload_n 3, 1) := by decide +kernel
theorem dX12_thing__94 : decode cX12_thing_ 94 = .ok (.iload 4, 2) := by decide +kernel
theorem dX12_thing__96 : decode cX12_thing_ 96 = .ok (.invokevirtual 139, 3) := by decide +kernel
theorem dX12_thing__99 : decode cX12_thing_ 99 = .ok (.ireturn, 1) := by decide +kernel
theorem dX12_serves_0 : decode cX12_serves 0 = .ok (.aload_n 0, 1) := by decide +kernel
theorem dX12_serves_1 : decode cX12_serves 1 = .ok (.iload_n 3, 1) := by decide +kernel
theorem dX12_serves_2 : decode cX12_serves 2 = .ok (.iload 4, 2) := by decide +kernel
theorem dX12_serves_4 : decode cX12_serves 4 = .ok (.invokevirtual 129, 3) := by decide +kernel
theorem dX12_serves_7 : decode cX12_serves 7 = .ok (.iload_n 1, 1) := by decide +kernel
theorem dX12_serves_8 : decode cX12_serves 8 = .ok (.iconst 5, 1) := by decide +kernel
theorem dX12_serves_9 : decode cX12_serves 9 = .ok (.if_icmp .ne 9, 3) := by decide +kernel
theorem dX12_serves_12 : decode cX12_serves 12 = .ok (.iconst 2, 1) := by decide +kernel
theorem dX12_serves_13 : decode cX12_serves 13 = .ok (.iload_n 2, 1) := by decide +kernel
theorem dX12_serves_14 : decode cX12_serves 14 = .ok (.imul, 1) := by decide +kernel
theorem dX12_serves_15 : decode cX12_serves 15 = .ok (.goto 4, 3) := by decide +kernel
theorem dX12_serves_18 : decode cX12_serves 18 = .ok (.iload_n 2, 1) := by decide +kernel
theorem dX12_serves_19 : decode cX12_serves 19 = .ok (.if_icmp .gt 7, 3) := by decide +kernel
theorem dX12_serves_22 : decode cX12_serves 22 = .ok (.iconst 1, 1) := by decide +kernel
theorem dX12_serves_23 : decode cX12_serves 23 = .ok (.goto 4, 3) := by decide +kernel
theorem dX12_serves_26 : decode cX12_serves 26 = .ok (.iconst 0, 1) := by decide +kernel
theorem dX12_serves_27 : decode cX12_serves 27 = .ok (.ireturn, 1) := by decide +kernel
theorem dX12_usersOf_0 : decode cX12_usersOf 0 = .ok (.iload_n 1, 1) := by decide +kernel
theorem dX12_usersOf_1 : decode cX12_usersOf 1 = .ok (.ifCond .eq 9, 3) := by decide +kernel
theorem dX12_usersOf_4 : decode cX12_usersOf 4 = .ok (.iload_n 1, 1) := by decide +kernel
theorem dX12_usersOf_5 : decode cX12_usersOf 5 = .ok (.bipush 6, 2) := by decide +kernel
theorem dX12_usersOf_7 : decode cX12_usersOf 7 = .ok (.if_icmp .ne 11, 3) := by decide +kernel
theorem dX12_usersOf_10 : decode cX12_usersOf 10 = .ok (.aload_n 0, 1) := by decide +kernel
theorem dX12_usersOf_11 : decode cX12_usersOf 11 = .ok (.iload_n 3, 1) := by decide +kernel
theorem dX12_usersOf_12 : decode cX12_usersOf 12 = .ok (.invokevirtual 107, 3) := by decide +kernel
theorem dX12_usersOf_15 : decode cX12_usersOf 15 = .ok (.goto 19, 3) := by decide +kernel
theorem dX12_usersOf_18 : decode cX12_usersOf 18 = .ok (.iload_n 1, 1) := by decide +kernel
theorem dX12_usersOf_19 : decode cX12_usersOf 19 = .ok (.iconst 3, 1) := by decide +kernel
theorem dX12_usersOf_20 : decode cX12_usersOf 20 = .ok (.if_icmp .ne 13, 3) := by decide +kernel
theorem dX12_usersOf_23 : decode cX12_usersOf 23 = .ok (.aload_n 0, 1) := by decide +kernel
theorem dX12_usersOf_24 : decode cX12_usersOf 24 = .ok (.iload_n 3, 1) := by decide +kernel
theorem dX12_usersOf_25 : decode cX12_usersOf 25 = .ok (.iconst 1, 1) := by decide +kernel
theorem dX12_usersOf_26 : decode cX12_usersOf 26 = .ok (.invokevirtual 99, 3) := by decide +kernel
theorem dX12_usersOf_29 : decode cX12_usersOf 29 = .ok (.ineg, 1) := by decide +kernel
theorem dX12_usersOf_30 : decode cX12_usersOf 30 = .ok (.goto 4, 3) := by decide +kernel
theorem dX12_usersOf_33 : decode cX12_usersOf 33 = .ok (.iconst 0, 1) := by decide +kernel
theorem dX12_usersOf_34 : decode cX12_usersOf 34 = .ok (.istore 4, 2) := by decide +kernel
theorem dX12_usersOf_36 : decode cX12_usersOf 36 = .ok (.iconst 0, 1) := by decide +kernel
theorem dX12_usersOf_37 : decode cX12_usersOf 37 = .ok (.istore 5, 2) := by decide +kernel
theorem dX12_usersOf_39 : decode cX12_usersOf 39 = .ok (.iload 5, 2) := by decide +kernel
theorem dX12_usersOf_41 : decode cX12_usersOf 41 = .ok (.aload_n 0, 1) := by decide +kernel
theorem dX12_usersOf_42 : decode cX12_usersOf 42 = .ok (.getfield 9, 3) := by decide +kernel
theorem dX12_usersOf_45 : decode cX12_usersOf 45 = .ok (.iconst 1, 1) := by decide +kernel
theorem dX12_usersOf_46 : decode cX12_usersOf 46 = .ok (.iaload, 1) := by decide +kernel
theorem dX12_usersOf_47 : decode cX12_usersOf 47 = .ok (.if_icmp .ge 141, 3) := by decide +kernel
theorem dX12_usersOf_50 : decode cX12_usersOf 50 = .ok (.iload_n 1, 1) := by decide +kernel
theorem dX12_usersOf_51 : decode cX12_usersOf 51 = .ok (.ifCond .eq 137, 3) := by decide +kernel
theorem dX12_usersOf_54 : decode cX12_usersOf 54 = .ok (.aload_n 0, 1) := by decide +kernel
theorem dX12_usersOf_55 : decode cX12_usersOf 55 = .ok (.iload_n 1, 1) := by decide +kernel
theorem dX12_usersOf_56 : decode cX12_usersOf 56 = .ok (.iload_n 2, 1) := by decide +kernel
theorem dX12_usersOf_57 : decode cX12_usersOf 57 = .ok (.iload_n 3, 1) := by decide +kernel
theorem dX12_usersOf_58 : decode cX12_usersOf 58 = .ok (.iload 5, 2) := by decide +kernel
theorem dX12_usersOf_60 : decode cX12_usersOf 60 = .ok (.invokevirtual 143, 3) := by decide +kernel
theorem dX12_usersOf_63 : decode cX12_usersOf 63 = .ok (.istore 6, 2) := by decide +kernel
theorem dX12_usersOf_65 : decode cX12_usersOf 65 = .ok (.iload_n 1, 1) := by decide +kernel
theorem dX12_usersOf_66 : decode cX12_usersOf 66 = .ok (.tableswitch 81 1 5 #[34, 58, 58, 81, 34], 34) := by decide +kernel
theorem dX12_usersOf_100 : decode cX12_usersOf 100 = .ok (.iload 4, 2) := by decide +kernel
theorem dX12_usersOf_102 : decode cX12_usersOf 102 = .ok (.iload 6, 2) := by decide +kernel
theorem dX12_usersOf_104 : decode cX12_usersOf 104 = .ok (.ifCond .eq 13, 3) := by decide +kernel
theorem dX12_usersOf_107 : decode cX12_usersOf 107 = .ok (.aload_n 0, 1) := by decide +kernel
theorem dX12_usersOf_108 : decode cX12_usersOf 108 = .ok (.iload 5, 2) := by decide +kernel
theorem dX12_usersOf_110 : decode cX12_usersOf 110 = .ok (.iconst 0, 1) := by decide +kernel
theorem dX12_usersOf_111 : decode cX12_usersOf 111 = .ok (.invokevirtual 99, 3) := by decide +kernel
theorem dX12_usersOf_114 : decode cX12_usersOf 114 = .ok (.goto 4, 3) := by decide +kernel
theorem dX12_usersOf_117 : decode cX12_usersOf 117 = .ok (.iconst 0, 1) := by decide +kernel
theorem dX12_usersOf_118 : decode cX12_usersOf 118 = .ok (.iadd, 1) := by decide +kernel
theorem dX12_usersOf_119 : decode cX12_usersOf 119 = .ok (.istore 4, 2) := by decide +kernel
theorem dX12_usersOf_121 : decode cX12_usersOf 121 = .ok (.goto 61, 3) := by decide +kernel
theorem dX12_usersOf_124 : decode cX12_usersOf 124 = .ok (.iload 4, 2) := by decide +kernel
theorem dX12_usersOf_126 : decode cX12_usersOf 126 = .ok (.iload 6, 2) := by decide +kernel
theorem dX12_usersOf_128 : decode cX12_usersOf 128 = .ok (.ifCond .eq 12, 3) := by decide +kernel
theorem dX12_usersOf_131 : decode cX12_usersOf 131 = .ok (.aload_n 0, 1) := by decide +kernel
theorem dX12_usersOf_132 : decode cX12_usersOf 132 = .ok (.iload 5, 2) := by decide +kernel
theorem dX12_usersOf_134 : decode cX12_usersOf 134 = .ok (.invokevirtual 107, 3) := by decide +kernel
theorem dX12_usersOf_137 : decode cX12_usersOf 137 = .ok (.goto 4, 3) := by decide +kernel
theorem dX12_usersOf_140 : decode cX12_usersOf 140 = .ok (.iconst 0, 1) := by decide +kernel
theorem dX12_usersOf_141 : decode cX12_usersOf 141 = .ok (.iadd, 1) := by decide +kernel
theorem dX12_usersOf_142 : decode cX12_usersOf 142 = .ok (.istore 4, 2) := by decide +kernel
theorem dX12_usersOf_144 : decode cX12_usersOf 144 = .ok (.goto 38, 3) := by decide +kernel
theorem dX12_usersOf_147 : decode cX12_usersOf 147 = .ok (.iload 4, 2) := by decide +kernel
theorem dX12_usersOf_149 : decode cX12_usersOf 149 = .ok (.iload 6, 2) := by decide +kernel
theorem dX12_usersOf_151 : decode cX12_usersOf 151 = .ok (.ifCond .eq 27, 3) := by decide +kernel
theorem dX12_usersOf_154 : decode cX12_usersOf 154 = .ok (.iload 5, 2) := by decide +kernel
theorem dX12_usersOf_156 : decode cX12_usersOf 156 = .ok (.iload_n 3, 1) := by decide +kernel
theorem dX12_usersOf_157 : decode cX12_usersOf 157 = .ok (.if_icmp .eq 21, 3) := by decide +kernel
theorem dX12_usersOf_160 : decode cX12_usersOf 160 = .ok (.aload_n 0, 1) := by decide +kernel
theorem dX12_usersOf_161 : decode cX12_usersOf 161 = .ok (.iload 5, 2) := by decide +kernel
theorem dX12_usersOf_163 : decode cX12_usersOf 163 = .ok (.iconst 1, 1) := by decide +kernel
theorem dX12_usersOf_164 : decode cX12_usersOf 164 = .ok (.invokevirtual 99, 3) := by decide +kernel
theorem dX12_usersOf_167 : decode cX12_usersOf 167 = .ok (.aload_n 0, 1) := by decide +kernel
theorem dX12_usersOf_168 : decode cX12_usersOf 168 = .ok (.iload 5, 2) := by decide +kernel
theorem dX12_usersOf_170 : decode cX12_usersOf 170 = .ok (.iconst 2, 1) := by decide +kernel
theorem dX12_usersOf_171 : decode cX12_usersOf 171 = .ok (.invokevirtual 99, 3) := by decide +kernel
theorem dX12_usersOf_174 : decode cX12_usersOf 174 = .ok (.iadd, 1) := by decide +kernel
theorem dX12_usersOf_175 : decode cX12_usersOf 175 = .ok (.goto 4, 3) := by decide +kernel
theorem dX12_usersOf_178 : decode cX12_usersOf 178 = .ok (.iconst 0, 1) := by decide +kernel
theorem dX12_usersOf_179 : decode cX12_usersOf 179 = .ok (.iadd, 1) := by decide +kernel
theorem dX12_usersOf_180 : decode cX12_usersOf 180 = .ok (.istore 4, 2) := by decide +kernel
theorem dX12_usersOf_182 : decode cX12_usersOf 182 = .ok (.iinc 5 1, 3) := by decide +kernel
theorem dX12_usersOf_185 : decode cX12_usersOf 185 = .ok (.goto (-146), 3) := by decide +kernel
theorem dX12_usersOf_188 : decode cX12_usersOf 188 = .ok (.iload 4, 2) := by decide +kernel
theorem dX12_usersOf_190 : decode cX12_usersOf 190 = .ok (.ireturn, 1) := by decide +kernel
theorem dX12_usersOf__0 : decode cX12_usersOf_ 0 = .ok (.aload_n 0, 1) := by decide +kernel
theorem dX12_usersOf__1 : decode cX12_usersOf_ 1 = .ok (.aload_n 0, 1) := by decide +kernel
theorem dX12_usersOf__2 : decode cX12_usersOf_ 2 = .ok (.iload_n 1, 1) := by decide +kernel
theorem dX12_usersOf__3 : decode cX12_usersOf_ 3 = .ok (.iconst 0, 1) := by decide +kernel
theorem dX12_usersOf__4 : decode cX12_usersOf_ 4 = .ok (.invokevirtual 136, 3) := by decide +kernel
theorem dX12_usersOf__7 : decode cX12_usersOf_ 7 = .ok (.aload_n 0, 1) := by decide +kernel
theorem dX12_usersOf__8 : decode cX12_usersOf_ 8 = .ok (.iload_n 1, 1) := by decide +kernel
theorem dX12_usersOf__9 : decode cX12_usersOf_ 9 = .ok (.iconst 4, 1) := by decide +kernel
theorem dX12_usersOf__10 : decode cX12_usersOf_ 10 = .ok (.invokevirtual 136, 3) := by decide +kernel
theorem dX12_usersOf__13 : decode cX12_usersOf_ 13 = .ok (.aload_n 0, 1) := by decide +kernel
theorem dX12_usersOf__14 : decode cX12_usersOf_ 14 = .ok (.iload_n 1, 1) := by decide +kernel
theorem dX12_usersOf__15 : decode cX12_usersOf_ 15 = .ok (.iconst 1, 1) := by decide +kernel
theorem dX12_usersOf__16 : decode cX12_usersOf_ 16 = .ok (.invokevirtual 136, 3) := by decide +kernel
theorem dX12_usersOf__19 : decode cX12_usersOf_ 19 = .ok (.invokevirtual 146, 3) := by decide +kernel
theorem dX12_usersOf__22 : decode cX12_usersOf_ 22 = .ok (.ireturn, 1) := by decide +kernel
theorem dX12_servedBy_0 : decode cX12_servedBy 0 = .ok (.iconst 0, 1) := by decide +kernel
theorem dX12_servedBy_1 : decode cX12_servedBy 1 = .ok (.istore_n 2, 1) := by decide +kernel
theorem dX12_servedBy_2 : decode cX12_servedBy 2 = .ok (.iconst 0, 1) := by decide +kernel
theorem dX12_servedBy_3 : decode cX12_servedBy 3 = .ok (.istore_n 3, 1) := by decide +kernel
theorem dX12_servedBy_4 : decode cX12_servedBy 4 = .ok (.iload_n 3, 1) := by decide +kernel
theorem dX12_servedBy_5 : decode cX12_servedBy 5 = .ok (.aload_n 0, 1) := by decide +kernel
theorem dX12_servedBy_6 : decode cX12_servedBy 6 = .ok (.getfield 9, 3) := by decide +kernel
theorem dX12_servedBy_9 : decode cX12_servedBy 9 = .ok (.iconst 1, 1) := by decide +kernel
theorem dX12_servedBy_10 : decode cX12_servedBy 10 = .ok (.iaload, 1) := by decide +kernel
theorem dX12_servedBy_11 : decode cX12_servedBy 11 = .ok (.if_icmp .ge 45, 3) := by decide +kernel
theorem dX12_servedBy_14 : decode cX12_servedBy 14 = .ok (.iload_n 2, 1) := by decide +kernel
theorem dX12_servedBy_15 : decode cX12_servedBy 15 = .ok (.aload_n 0, 1) := by decide +kernel
theorem dX12_servedBy_16 : decode cX12_servedBy 16 = .ok (.aload_n 0, 1) := by decide +kernel
theorem dX12_servedBy_17 : decode cX12_servedBy 17 = .ok (.iload_n 1, 1) := by decide +kernel
theorem dX12_servedBy_18 : decode cX12_servedBy 18 = .ok (.iconst 0, 1) := by decide +kernel
theorem dX12_servedBy_19 : decode cX12_servedBy 19 = .ok (.invokevirtual 136, 3) := by decide +kernel
theorem dX12_servedBy_22 : decode cX12_servedBy 22 = .ok (.aload_n 0, 1) := by decide +kernel
theorem dX12_servedBy_23 : decode cX12_servedBy 23 = .ok (.iload_n 1, 1) := by decide +kernel
theorem dX12_servedBy_24 : decode cX12_servedBy 24 = .ok (.iconst 4, 1) := by decide +kernel
theorem dX12_servedBy_25 : decode cX12_servedBy 25 = .ok (.invokevirtual 136, 3) := by decide +kernel
theorem dX12_servedBy_28 : decode cX12_servedBy 28 = .ok (.aload_n 0, 1) := by decide +kernel
theorem dX12_servedBy_29 : decode cX12_servedBy 29 = .ok (.iload_n 1, 1) := by decide +kernel
theorem dX12_servedBy_30 : decode cX12_servedBy 30 = .ok (.iconst 1, 1) := by decide +kernel
theorem dX12_servedBy_31 : decode cX12_servedBy 31 = .ok (.invokevirtual 136, 3) := by decide +kernel
theorem dX12_servedBy_34 : decode cX12_servedBy 34 = .ok (.iload_n 3, 1) := by decide +kernel
theorem dX12_servedBy_35 : decode cX12_servedBy 35 = .ok (.invokevirtual 143, 3) := by decide +kernel
theorem dX12_servedBy_38 : decode cX12_servedBy 38 = .ok (.ifCond .eq 9, 3) := by decide +kernel
theorem dX12_servedBy_41 : decode cX12_servedBy 41 = .ok (.iconst 1, 1) := by decide +kernel
theorem dX12_servedBy_42 : decode cX12_servedBy 42 = .ok (.iload_n 3, 1) := by decide +kernel
theorem dX12_servedBy_43 : decode cX12_servedBy 43 = .ok (.ishl, 1) := by decide +kernel
theorem dX12_servedBy_44 : decode cX12_servedBy 44 = .ok (.goto 4, 3) := by decide +kernel
theorem dX12_servedBy_47 : decode cX12_servedBy 47 = .ok (.iconst 0, 1) := by decide +kernel
theorem dX12_servedBy_48 : decode cX12_servedBy 48 = .ok (.ior, 1) := by decide +kernel
theorem dX12_servedBy_49 : decode cX12_servedBy 49 = .ok (.istore_n 2, 1) := by decide +kernel
theorem dX12_servedBy_50 : decode cX12_servedBy 50 = .ok (.iinc 3 1, 3) := by decide +kernel
theorem dX12_servedBy_53 : decode cX12_servedBy 53 = .ok (.goto (-49), 3) := by decide +kernel
theorem dX12_servedBy_56 : decode cX12_servedBy 56 = .ok (.iload_n 2, 1) := by decide +kernel
theorem dX12_servedBy_57 : decode cX12_servedBy 57 = .ok (.ireturn, 1) := by decide +kernel
theorem dX12_ofThing_0 : decode cX12_ofThing 0 = .ok (.aload_n 0, 1) := by decide +kernel
theorem dX12_ofThing_1 : decode cX12_ofThing 1 = .ok (.iload_n 1, 1) := by decide +kernel
theorem dX12_ofThing_2 : decode cX12_ofThing 2 = .ok (.iconst 2, 1) := by decide +kernel
theorem dX12_ofThing_3 : decode cX12_ofThing 3 = .ok (.invokevirtual 103, 3) := by decide +kernel
theorem dX12_ofThing_6 : decode cX12_ofThing 6 = .ok (.ifCond .eq 13, 3) := by decide +kernel
theorem dX12_ofThing_9 : decode cX12_ofThing 9 = .ok (.iload_n 2, 1) := by decide +kernel
theorem dX12_ofThing_10 : decode cX12_ofThing 10 = .ok (.iconst 0, 1) := by decide +kernel
theorem dX12_ofThing_11 : decode cX12_ofThing 11 = .ok (.bipush 9, 2) := by decide +kernel
theorem dX12_ofThing_13 : decode cX12_ofThing 13 = .ok (.invokestatic 76, 3) := by decide +kernel
theorem dX12_ofThing_16 : decode cX12_ofThing 16 = .ok (.ifCond .ne 10, 3) := by decide +kernel
theorem dX12_ofThing_19 : decode cX12_ofThing 19 = .ok (.aload_n 0, 1) := by decide +kernel
theorem dX12_ofThing_20 : decode cX12_ofThing 20 = .ok (.ldc 89, 2) := by decide +kernel
theorem dX12_ofThing_22 : decode cX12_ofThing 22 = .ok (.invokevirtual 90, 3) := by decide +kernel
theorem dX12_ofThing_25 : decode cX12_ofThing 25 = .ok (.ireturn, 1) := by decide +kernel
theorem dX12_ofThing_26 : decode cX12_ofThing 26 = .ok (.iload_n 2, 1) := by decide +kernel
theorem dX12_ofThing_27 : decode cX12_ofThing 27 = .ok (.tableswitch 49 7 9 #[25, 31, 43], 25) := by decide +kernel
theorem dX12_ofThing_52 : decode cX12_ofThing 52 = .ok (.aload_n 0, 1) := by decide +kernel
theorem dX12_ofThing_53 : decode cX12_ofThing 53 = .ok (.iload_n 1, 1) := by decide +kernel
theorem dX12_ofThing_54 : decode cX12_ofThing 54 = .ok (.invokevirtual 149, 3) := by decide +kernel
theorem dX12_ofThing_57 : decode cX12_ofThing 57 = .ok (.ireturn, 1) := by decide +kernel
theorem dX12_ofThing_58 : decode cX12_ofThing 58 = .ok (.aload_n 0, 1) := by decide +kernel
theorem dX12_ofThing_59 : decode cX12_ofThing 59 = .ok (.getfield 22, 3) := by decide +kernel
theorem dX12_ofThing_62 : decode cX12_ofThing 62 = .ok (.aload_n 0, 1) := by decide +kernel
theorem dX12_ofThing_63 : decode cX12_ofThing 63 = .ok (.iload_n 1, 1) := by decide +kernel
theorem dX12_ofThing_64 : decode cX12_ofThing 64 = .ok (.iconst 0, 1) := by decide +kernel
theorem dX12_ofThing_65 : decode cX12_ofThing 65 = .ok (.invokevirtual 136, 3) := by decide +kernel
theorem dX12_ofThing_68 : decode cX12_ofThing 68 = .ok (.iaload, 1) := by decide +kernel
theorem dX12_ofThing_69 : decode cX12_ofThing 69 = .ok (.ireturn, 1) := by decide +kernel
theorem dX12_ofThing_70 : decode cX12_ofThing 70 = .ok (.aload_n 0, 1) := by decide +kernel
theorem dX12_ofThing_71 : decode cX12_ofThing 71 = .ok (.iload_n 1, 1) := by decide +kernel
theorem dX12_ofThing_72 : decode cX12_ofThing 72 = .ok (.invokevirtual 151, 3) := by decide +kernel
theorem dX12_ofThing_75 : decode cX12_ofThing 75 = .ok (.ireturn, 1) := by decide +kernel
theorem dX12_ofThing_76 : decode cX12_ofThing 76 = .ok (.aload_n 0, 1) := by decide +kernel
theorem dX12_ofThing_77 : decode cX12_ofThing 77 = .ok (.iload_n 1, 1) := by decide +kernel
theorem dX12_ofThing_78 : decode cX12_ofThing 78 = .ok (.iload_n 2, 1) := by decide +kernel
theorem dX12_ofThing_79 : decode cX12_ofThing 79 = .ok (.invokevirtual 136, 3) := by decide +kernel
theorem dX12_ofThing_82 : decode cX12_ofThing 82 = .ok (.ireturn, 1) := by decide +kernel
theorem dX12_above_0 : decode cX12_above 0 = .ok (.iload_n 0, 1) := by decide +kernel
theorem dX12_above_1 : decode cX12_above 1 = .ok (.ifCond .ne 7, 3) := by decide +kernel
theorem dX12_above_4 : decode cX12_above 4 = .ok (.iconst (-1), 1) := by decide +kernel
theorem dX12_above_5 : decode cX12_above 5 = .ok (.goto 32, 3) := by decide +kernel
theorem dX12_above_8 : decode cX12_above 8 = .ok (.iload_n 0, 1) := by decide +kernel
theorem dX12_above_9 : decode cX12_above 9 = .ok (.iconst 3, 1) := by decide +kernel
theorem dX12_above_10 : decode cX12_above 10 = .ok (.if_icmp .ne 7, 3) := by decide +kernel
theorem dX12_above_13 : decode cX12_above 13 = .ok (.iconst 2, 1) := by decide +kernel
theorem dX12_above_14 : decode cX12_above 14 = .ok (.goto 23, 3) := by decide +kernel
theorem dX12_above_17 : decode cX12_above 17 = .ok (.iload_n 0, 1) := by decide +kernel
theorem dX12_above_18 : decode cX12_above 18 = .ok (.iconst 5, 1) := by decide +kernel
theorem dX12_above_19 : decode cX12_above 19 = .ok (.if_icmp .ne 7, 3) := by decide +kernel
theorem dX12_above_22 : decode cX12_above 22 = .ok (.iconst 1, 1) := by decide +kernel
theorem dX12_above_23 : decode cX12_above 23 = .ok (.goto 14, 3) := by decide +kernel
theorem dX12_above_26 : decode cX12_above 26 = .ok (.iload_n 0, 1) := by decide +kernel
theorem dX12_above_27 : decode cX12_above 27 = .ok (.bipush 6, 2) := by decide +kernel
theorem dX12_above_29 : decode cX12_above 29 = .ok (.if_icmp .ne 7, 3) := by decide +kernel
theorem dX12_above_32 : decode cX12_above 32 = .ok (.iconst 4, 1) := by decide +kernel
theorem dX12_above_33 : decode cX12_above 33 = .ok (.goto 4, 3) := by decide +kernel
theorem dX12_above_36 : decode cX12_above 36 = .ok (.iconst 0, 1) := by decide +kernel
theorem dX12_above_37 : decode cX12_above 37 = .ok (.ireturn, 1) := by decide +kernel
theorem dX12_as_0 : decode cX12_as 0 = .ok (.aload_n 0, 1) := by decide +kernel
theorem dX12_as_1 : decode cX12_as 1 = .ok (.iload_n 1, 1) := by decide +kernel
theorem dX12_as_2 : decode cX12_as 2 = .ok (.iconst 2, 1) := by decide +kernel
theorem dX12_as_3 : decode cX12_as 3 = .ok (.invokevirtual 103, 3) := by decide +kernel
theorem dX12_as_6 : decode cX12_as 6 = .ok (.ifCond .eq 13, 3) := by decide +kernel
theorem dX12_as_9 : decode cX12_as 9 = .ok (.iload_n 2, 1) := by decide +kernel
theorem dX12_as_10 : decode cX12_as 10 = .ok (.iconst 0, 1) := by decide +kernel
theorem dX12_as_11 : decode cX12_as 11 = .ok (.bipush 6, 2) := by decide +kernel
theorem dX12_as_13 : decode cX12_as 13 = .ok (.invokestatic 76, 3) := by decide +kernel
theorem dX12_as_16 : decode cX12_as 16 = .ok (.ifCond .ne 10, 3) := by decide +kernel
theorem dX12_as_19 : decode cX12_as 19 = .ok (.aload_n 0, 1) := by decide +kernel
theorem dX12_as_20 : decode cX12_as 20 = .ok (.ldc 89, 2) := by decide +kernel
theorem dX12_as_22 : decode cX12_as 22 = .ok (.invokevirtual 90, 3) := by decide +kernel
theorem dX12_as_25 : decode cX12_as 25 = .ok (.ireturn, 1) := by decide +kernel
theorem dX12_as_26 : decode cX12_as 26 = .ok (.aload_n 0, 1) := by decide +kernel
theorem dX12_as_27 : decode cX12_as 27 = .ok (.iload_n 1, 1) := by decide +kernel
theorem dX12_as_28 : decode cX12_as 28 = .ok (.iconst 0, 1) := by decide +kernel
theorem dX12_as_29 : decode cX12_as 29 = .ok (.invokevirtual 136, 3) := by decide +kernel
theorem dX12_as_32 : decode cX12_as 32 = .ok (.istore_n 3, 1) := by decide +kernel
theorem dX12_as_33 : decode cX12_as 33 = .ok (.iload_n 3, 1) := by decide +kernel
theorem dX12_as_34 : decode cX12_as 34 = .ok (.ifCond .lt 16, 3) := by decide +kernel
theorem dX12_as_37 : decode cX12_as 37 = .ok (.iload_n 3, 1) := by decide +kernel
theorem dX12_as_38 : decode cX12_as 38 = .ok (.iload_n 2, 1) := by decide +kernel
theorem dX12_as_39 : decode cX12_as 39 = .ok (.if_icmp .eq 11, 3) := by decide +kernel
theorem dX12_as_42 : decode cX12_as 42 = .ok (.iload_n 3, 1) := by decide +kernel
theorem dX12_as_43 : decode cX12_as 43 = .ok (.invokestatic 154, 3) := by decide +kernel
theorem dX12_as_46 : decode cX12_as 46 = .ok (.istore_n 3, 1) := by decide +kernel
theorem dX12_as_47 : decode cX12_as 47 = .ok (.goto (-14), 3) := by decide +kernel
theorem dX12_as_50 : decode cX12_as 50 = .ok (.iload_n 3, 1) := by decide +kernel
theorem dX12_as_51 : decode cX12_as 51 = .ok (.ifCond .ge 12, 3) := by decide +kernel
theorem dX12_as_54 : decode cX12_as 54 = .ok (.aload_n 0, 1) := by decide +kernel
theorem dX12_as_55 : decode cX12_as 55 = .ok (.ldc 157, 2) := by decide +kernel
theorem dX12_as_57 : decode cX12_as 57 = .ok (.invokevirtual 90, 3) := by decide +kernel
theorem dX12_as_60 : decode cX12_as 60 = .ok (.goto 9, 3) := by decide +kernel
theorem dX12_as_63 : decode cX12_as 63 = .ok (.aload_n 0, 1) := by decide +kernel
theorem dX12_as_64 : decode cX12_as 64 = .ok (.iload_n 1, 1) := by decide +kernel
theorem dX12_as_65 : decode cX12_as 65 = .ok (.iconst 3, 1) := by decide +kernel
theorem dX12_as_66 : decode cX12_as 66 = .ok (.invokevirtual 136, 3) := by decide +kernel
theorem dX12_as_69 : decode cX12_as 69 = .ok (.ireturn, 1) := by decide +kernel
theorem dX12_open_0 : decode cX12_open 0 = .ok (.aload_n 0, 1) := by decide +kernel
theorem dX12_open_1 : decode cX12_open 1 = .ok (.iload_n 1, 1) := by decide +kernel
theorem dX12_open_2 : decode cX12_open 2 = .ok (.iconst 2, 1) := by decide +kernel
theorem dX12_open_3 : decode cX12_open 3 = .ok (.invokevirtual 103, 3) := by decide +kernel
theorem dX12_open_6 : decode cX12_open 6 = .ok (.ifCond .eq 29, 3) := by decide +kernel
theorem dX12_open_9 : decode cX12_open 9 = .ok (.iload_n 2, 1) := by decide +kernel
theorem dX12_open_10 : decode cX12_open 10 = .ok (.iconst 0, 1) := by decide +kernel
theorem dX12_open_11 : decode cX12_open 11 = .ok (.iconst 1, 1) := by decide +kernel
theorem dX12_open_12 : decode cX12_open 12 = .ok (.invokestatic 76, 3) := by decide +kernel
theorem dX12_open_15 : decode cX12_open 15 = .ok (.ifCond .eq 20, 3) := by decide +kernel
theorem dX12_open_18 : decode cX12_open 18 = .ok (.aload_n 0, 1) := by decide +kernel
theorem dX12_open_19 : decode cX12_open 19 = .ok (.bipush 112, 2) := by decide +kernel
theorem dX12_open_21 : decode cX12_open 21 = .ok (.bipush 7, 2) := by decide +kernel
theorem dX12_open_23 : decode cX12_open 23 = .ok (.iload_n 1, 1) := by decide +kernel
theorem dX12_open_24 : decode cX12_open 24 = .ok (.imul, 1) := by decide +kernel
theorem dX12_open_25 : decode cX12_open 25 = .ok (.iadd, 1) := by decide +kernel
theorem dX12_open_26 : decode cX12_open 26 = .ok (.iconst 5, 1) := by decide +kernel
theorem dX12_open_27 : decode cX12_open 27 = .ok (.iadd, 1) := by decide +kernel
theorem dX12_open_28 : decode cX12_open 28 = .ok (.iload_n 2, 1) := by decide +kernel
theorem dX12_open_29 : decode cX12_open 29 = .ok (.invokevirtual 113, 3) := by decide +kernel
theorem dX12_open_32 : decode cX12_open 32 = .ok (.goto 9, 3) := by decide +kernel
theorem dX12_open_35 : decode cX12_open 35 = .ok (.aload_n 0, 1) := by decide +kernel
theorem dX12_open_36 : decode cX12_open 36 = .ok (.ldc 89, 2) := by decide +kernel
theorem dX12_open_38 : decode cX12_open 38 = .ok (.invokevirtual 90, 3) := by decide +kernel
theorem dX12_open_41 : decode cX12_open 41 = .ok (.ireturn, 1) := by decide +kernel
theorem dX12_promise_0 : decode cX12_promise 0 = .ok (.aload_n 0, 1) := by decide +kernel
theorem dX12_promise_1 : decode cX12_promise 1 = .ok (.iload_n 1, 1) := by decide +kernel
theorem dX12_promise_2 : decode cX12_promise 2 = .ok (.iconst 2, 1) := by decide +kernel
theorem dX12_promise_3 : decode cX12_promise 3 = .ok (.invokevirtual 103, 3) := by decide +kernel
theorem dX12_promise_6 : decode cX12_promise 6 = .ok (.ifCond .eq 32, 3) := by decide +kernel
theorem dX12_promise_9 : decode cX12_promise 9 = .ok (.iload_n 2, 1) := by decide +kernel
theorem dX12_promise_10 : decode cX12_promise 10 = .ok (.iconst (-1), 1) := by decide +kernel
theorem dX12_promise_11 : decode cX12_promise 11 = .ok (.sipush 199, 3) := by decide +kernel
theorem dX12_promise_14 : decode cX12_promise 14 = .ok (.invokestatic 76, 3) := by decide +kernel
theorem dX12_promise_17 : decode cX12_promise 17 = .ok (.ifCond .eq 21, 3) := by decide +kernel
theorem dX12_promise_20 : decode cX12_promise 20 = .ok (.aload_n 0, 1) := by decide +kernel
theorem dX12_promise_21 : decode cX12_promise 21 = .ok (.bipush 112, 2) := by decide +kernel
theorem dX12_promise_23 : decode cX12_promise 23 = .ok (.bipush 7, 2) := by decide +kernel
theorem dX12_promise_25 : decode cX12_promise 25 = .ok (.iload_n 1, 1) := by decide +kernel
theorem dX12_promise_26 : decode cX12_promise 26 = .ok (.imul, 1) := by decide +kernel
theorem dX12_promise_27 : decode cX12_promise 27 = .ok (.iadd, 1) := by decide +kernel
theorem dX12_promise_28 : decode cX12_promise 28 = .ok (.bipush 6, 2) := by decide +kernel
theorem dX12_promise_30 : decode cX12_promise 30 = .ok (.iadd, 1) := by decide +kernel
theorem dX12_promise_31 : decode cX12_promise 31 = .ok (.iload_n 2, 1) := by decide +kernel
theorem dX12_promise_32 : decode cX12_promise 32 = .ok (.invokevirtual 113, 3) := by decide +kernel
theorem dX12_promise_35 : decode cX12_promise 35 = .ok (.goto 9, 3) := by decide +kernel
theorem dX12_promise_38 : decode cX12_promise 38 = .ok (.aload_n 0, 1) := by decide +kernel
theorem dX12_promise_39 : decode cX12_promise 39 = .ok (.ldc 89, 2) := by decide +kernel
theorem dX12_promise_41 : decode cX12_promise 41 = .ok (.invokevirtual 90, 3) := by decide +kernel
theorem dX12_promise_44 : decode cX12_promise 44 = .ok (.ireturn, 1) := by decide +kernel
theorem dX12_findComforts_0 : decode cX12_findComforts 0 = .ok (.iconst 0, 1) := by decide +kernel
theorem dX12_findComforts_1 : decode cX12_findComforts 1 = .ok (.istore_n 1, 1) := by decide +kernel
theorem dX12_findComforts_2 : decode cX12_findComforts 2 = .ok (.iload_n 1, 1) := by decide +kernel
theorem dX12_findComforts_3 : decode cX12_findComforts 3 = .ok (.aload_n 0, 1) := by decide +kernel
theorem dX12_findComforts_4 : decode cX12_findComforts 4 = .ok (.getfield 9, 3) := by decide +kernel
theorem dX12_findComforts_7 : decode cX12_findComforts 7 = .ok (.iconst 1, 1) := by decide +kernel
theorem dX12_findComforts_8 : decode cX12_findComforts 8 = .ok (.iaload, 1) := by decide +kernel
theorem dX12_findComforts_9 : decode cX12_findComforts 9 = .ok (.if_icmp .ge 16, 3) := by decide +kernel
theorem dX12_findComforts_12 : decode cX12_findComforts 12 = .ok (.aload_n 0, 1) := by decide +kernel
theorem dX12_findComforts_13 : decode cX12_findComforts 13 = .ok (.getfield 25, 3) := by decide +kernel
theorem dX12_findComforts_16 : decode cX12_findComforts 16 = .ok (.iload_n 1, 1) := by decide +kernel
theorem dX12_findComforts_17 : decode cX12_findComforts 17 = .ok (.iconst 0, 1) := by decide +kernel
theorem dX12_findComforts_18 : decode cX12_findComforts 18 = .ok (.iastore, 1) := by decide +kernel
theorem dX12_findComforts_19 : decode cX12_findComforts 19 = .ok (.iinc 1 1, 3) := by decide +kernel
theorem dX12_findComforts_22 : decode cX12_findComforts 22 = .ok (.goto (-20), 3) := by decide +kernel
theorem dX12_findComforts_25 : decode cX12_findComforts 25 = .ok (.iconst 0, 1) := by decide +kernel
theorem dX12_findComforts_26 : decode cX12_findComforts 26 = .ok (.istore_n 1, 1) := by decide +kernel
theorem dX12_findComforts_27 : decode cX12_findComforts 27 = .ok (.iload_n 1, 1) := by decide +kernel
theorem dX12_findComforts_28 : decode cX12_findComforts 28 = .ok (.aload_n 0, 1) := by decide +kernel
theorem dX12_findComforts_29 : decode cX12_findComforts 29 = .ok (.getfield 9, 3) := by decide +kernel
theorem dX12_findComforts_32 : decode cX12_findComforts 32 = .ok (.iconst 2, 1) := by decide +kernel
theorem dX12_findComforts_33 : decode cX12_findComforts 33 = .ok (.iaload, 1) := by decide +kernel
theorem dX12_findComforts_34 : decode cX12_findComforts 34 = .ok (.if_icmp .ge 77, 3) := by decide +kernel
theorem dX12_findComforts_37 : decode cX12_findComforts 37 = .ok (.aload_n 0, 1) := by decide +kernel
theorem dX12_findComforts_38 : decode cX12_findComforts 38 = .ok (.iload_n 1, 1) := by decide +kernel
theorem dX12_findComforts_39 : decode cX12_findComforts 39 = .ok (.invokevirtual 158, 3) := by decide +kernel
theorem dX12_findComforts_42 : decode cX12_findComforts 42 = .ok (.ifCond .eq 11, 3) := by decide +kernel
theorem dX12_findComforts_45 : decode cX12_findComforts 45 = .ok (.aload_n 0, 1) := by decide +kernel
theorem dX12_findComforts_46 : decode cX12_findComforts 46 = .ok (.iload_n 1, 1) := by decide +kernel
theorem dX12_findComforts_47 : decode cX12_findComforts 47 = .ok (.invokevirtual 151, 3) := by decide +kernel
theorem dX12_findComforts_50 : decode cX12_findComforts 50 = .ok (.goto 4, 3) := by decide +kernel
theorem dX12_findComforts_53 : decode cX12_findComforts 53 = .ok (.iconst 0, 1) := by decide +kernel
theorem dX12_findComforts_54 : decode cX12_findComforts 54 = .ok (.istore_n 2, 1) := by decide +kernel
theorem dX12_findComforts_55 : decode cX12_findComforts 55 = .ok (.iconst 0, 1) := by decide +kernel
theorem dX12_findComforts_56 : decode cX12_findComforts 56 = .ok (.istore_n 3, 1) := by decide +kernel
theorem dX12_findComforts_57 : decode cX12_findComforts 57 = .ok (.iload_n 3, 1) := by decide +kernel
theorem dX12_findComforts_58 : decode cX12_findComforts 58 = .ok (.aload_n 0, 1) := by decide +kernel
theorem dX12_findComforts_59 : decode cX12_findComforts 59 = .ok (.getfield 9, 3) := by decide +kernel
theorem dX12_findComforts_62 : decode cX12_findComforts 62 = .ok (.iconst 1, 1) := by decide +kernel
theorem dX12_findComforts_63 : decode cX12_findComforts 63 = .ok (.iaload, 1) := by decide +kernel
theorem dX12_findComforts_64 : decode cX12_findComforts 64 = .ok (.if_icmp .ge 41, 3) := by decide +kernel
theorem dX12_findComforts_67 : decode cX12_findComforts 67 = .ok (.aload_n 0, 1) := by decide +kernel
theorem dX12_findComforts_68 : decode cX12_findComforts 68 = .ok (.getfield 25, 3) := by decide +kernel
theorem dX12_findComforts_71 : decode cX12_findComforts 71 = .ok (.iload_n 3, 1) := by decide +kernel
theorem dX12_findComforts_72 : decode cX12_findComforts 72 = .ok (.dup2, 1) := by decide +kernel
theorem dX12_findComforts_73 : decode cX12_findComforts 73 = .ok (.iaload, 1) := by decide +kernel
theorem dX12_findComforts_74 : decode cX12_findComforts 74 = .ok (.iload_n 2, 1) := by decide +kernel
theorem dX12_findComforts_75 : decode cX12_findComforts 75 = .ok (.iload_n 3, 1) := by decide +kernel
theorem dX12_findComforts_76 : decode cX12_findComforts 76 = .ok (.invokestatic 161, 3) := by decide +kernel
theorem dX12_findComforts_79 : decode cX12_findComforts 79 = .ok (.ifCond .eq 17, 3) := by decide +kernel
theorem dX12_findComforts_82 : decode cX12_findComforts 82 = .ok (.aload_n 0, 1) := by decide +kernel
theorem dX12_findComforts_83 : decode cX12_findComforts 83 = .ok (.getfield 22, 3) := by decide +kernel
theorem dX12_findComforts_86 : decode cX12_findComforts 86 = .ok (.aload_n 0, 1) := by decide +kernel
theorem dX12_findComforts_87 : decode cX12_findComforts 87 = .ok (.iload_n 1, 1) := by decide +kernel
theorem dX12_findComforts_88 : decode cX12_findComforts 88 = .ok (.iconst 0, 1) := by decide +kernel
theorem dX12_findComforts_89 : decode cX12_findComforts 89 = .ok (.invokevirtual 136, 3) := by decide +kernel
theorem dX12_findComforts_92 : decode cX12_findComforts 92 = .ok (.iaload, 1) := by decide +kernel
theorem dX12_findComforts_93 : decode cX12_findComforts 93 = .ok (.goto 4, 3) := by decide +kernel
theorem dX12_findComforts_96 : decode cX12_findComforts 96 = .ok (.iconst 0, 1) := by decide +kernel
theorem dX12_findComforts_97 : decode cX12_findComforts 97 = .ok (.iadd, 1) := by decide +kernel
theorem dX12_findComforts_98 : decode cX12_findComforts 98 = .ok (.iastore, 1) := by decide +kernel
theorem dX12_findComforts_99 : decode cX12_findComforts 99 = .ok (.iinc 3 1, 3) := by decide +kernel
theorem dX12_findComforts_102 : decode cX12_findComforts 102 = .ok (.goto (-45), 3) := by decide +kernel
theorem dX12_findComforts_105 : decode cX12_findComforts 105 = .ok (.iinc 1 1, 3) := by decide +kernel
theorem dX12_findComforts_108 : decode cX12_findComforts 108 = .ok (.goto (-81), 3) := by decide +kernel
theorem dX12_findComforts_111 : decode cX12_findComforts 111 = .ok (.return_, 1) := by decide +kernel
theorem dX12_comfort_0 : decode cX12_comfort 0 = .ok (.aload_n 0, 1) := by decide +kernel
theorem dX12_comfort_1 : decode cX12_comfort 1 = .ok (.iload_n 1, 1) := by decide +kernel
theorem dX12_comfort_2 : decode cX12_comfort 2 = .ok (.iconst 1, 1) := by decide +kernel
theorem dX12_comfort_3 : decode cX12_comfort 3 = .ok (.invokevirtual 103, 3) := by decide +kernel
theorem dX12_comfort_6 : decode cX12_comfort 6 = .ok (.ifCond .ne 10, 3) := by decide +kernel
theorem dX12_comfort_9 : decode cX12_comfort 9 = .ok (.aload_n 0, 1) := by decide +kernel
theorem dX12_comfort_10 : decode cX12_comfort 10 = .ok (.ldc 89, 2) := by decide +kernel
theorem dX12_comfort_12 : decode cX12_comfort 12 = .ok (.invokevirtual 90, 3) := by decide +kernel
theorem dX12_comfort_15 : decode cX12_comfort 15 = .ok (.ireturn, 1) := by decide +kernel
theorem dX12_comfort_16 : decode cX12_comfort 16 = .ok (.aload_n 0, 1) := by decide +kernel
theorem dX12_comfort_17 : decode cX12_comfort 17 = .ok (.invokevirtual 164, 3) := by decide +kernel
theorem dX12_comfort_20 : decode cX12_comfort 20 = .ok (.aload_n 0, 1) := by decide +kernel
theorem dX12_comfort_21 : decode cX12_comfort 21 = .ok (.getfield 25, 3) := by decide +kernel
theorem dX12_comfort_24 : decode cX12_comfort 24 = .ok (.iload_n 1, 1) := by decide +kernel
theorem dX12_comfort_25 : decode cX12_comfort 25 = .ok (.iaload, 1) := by decide +kernel
theorem dX12_comfort_26 : decode cX12_comfort 26 = .ok (.ireturn, 1) := by decide +kernel
theorem dX12_havenOf_0 : decode cX12_havenOf 0 = .ok (.iconst 0, 1) := by decide +kernel
theorem dX12_havenOf_1 : decode cX12_havenOf 1 = .ok (.istore_n 1, 1) := by decide +kernel
theorem dX12_havenOf_2 : decode cX12_havenOf 2 = .ok (.iconst 1, 1) := by decide +kernel
theorem dX12_havenOf_3 : decode cX12_havenOf 3 = .ok (.istore_n 2, 1) := by decide +kernel
theorem dX12_havenOf_4 : decode cX12_havenOf 4 = .ok (.iload_n 2, 1) := by decide +kernel
theorem dX12_havenOf_5 : decode cX12_havenOf 5 = .ok (.aload_n 0, 1) := by decide +kernel
theorem dX12_havenOf_6 : decode cX12_havenOf 6 = .ok (.getfield 9, 3) := by decide +kernel
theorem dX12_havenOf_9 : decode cX12_havenOf 9 = .ok (.iconst 1, 1) := by decide +kernel
theorem dX12_havenOf_10 : decode cX12_havenOf 10 = .ok (.iaload, 1) := by decide +kernel
theorem dX12_havenOf_11 : decode cX12_havenOf 11 = .ok (.if_icmp .ge 30, 3) := by decide +kernel
theorem dX12_havenOf_14 : decode cX12_havenOf 14 = .ok (.aload_n 0, 1) := by decide +kernel
theorem dX12_havenOf_15 : decode cX12_havenOf 15 = .ok (.getfield 25, 3) := by decide +kernel
theorem dX12_havenOf_18 : decode cX12_havenOf 18 = .ok (.iload_n 2, 1) := by decide +kernel
theorem dX12_havenOf_19 : decode cX12_havenOf 19 = .ok (.iaload, 1) := by decide +kernel
theorem dX12_havenOf_20 : decode cX12_havenOf 20 = .ok (.aload_n 0, 1) := by decide +kernel
theorem dX12_havenOf_21 : decode cX12_havenOf 21 = .ok (.getfield 25, 3) := by decide +kernel
theorem dX12_havenOf_24 : decode cX12_havenOf 24 = .ok (.iload_n 1, 1) := by decide +kernel
theorem dX12_havenOf_25 : decode cX12_havenOf 25 = .ok (.iaload, 1) := by decide +kernel
theorem dX12_havenOf_26 : decode cX12_havenOf 26 = .ok (.if_icmp .le 7, 3) := by decide +kernel
theorem dX12_havenOf_29 : decode cX12_havenOf 29 = .ok (.iload_n 2, 1) := by decide +kernel
theorem dX12_havenOf_30 : decode cX12_havenOf 30 = .ok (.goto 4, 3) := by decide +kernel
theorem dX12_havenOf_33 : decode cX12_havenOf 33 = .ok (.iload_n 1, 1) := by decide +kernel
theorem dX12_havenOf_34 : decode cX12_havenOf 34 = .ok (.istore_n 1, 1) := by decide +kernel
theorem dX12_havenOf_35 : decode cX12_havenOf 35 = .ok (.iinc 2 1, 3) := by decide +kernel
theorem dX12_havenOf_38 : decode cX12_havenOf 38 = .ok (.goto (-34), 3) := by decide +kernel
theorem dX12_havenOf_41 : decode cX12_havenOf 41 = .ok (.iload_n 1, 1) := by decide +kernel
theorem dX12_havenOf_42 : decode cX12_havenOf 42 = .ok (.ireturn, 1) := by decide +kernel
theorem dX12_haven_0 : decode cX12_haven 0 = .ok (.aload_n 0, 1) := by decide +kernel
theorem dX12_haven_1 : decode cX12_haven 1 = .ok (.invokevirtual 164, 3) := by decide +kernel
theorem dX12_haven_4 : decode cX12_haven 4 = .ok (.aload_n 0, 1) := by decide +kernel
theorem dX12_haven_5 : decode cX12_haven 5 = .ok (.getfield 9, 3) := by decide +kernel
theorem dX12_haven_8 : decode cX12_haven 8 = .ok (.iconst 1, 1) := by decide +kernel
theorem dX12_haven_9 : decode cX12_haven 9 = .ok (.iaload, 1) := by decide +kernel
theorem dX12_haven_10 : decode cX12_haven 10 = .ok (.ifCond .ne 12, 3) := by decide +kernel
theorem dX12_haven_13 : decode cX12_haven 13 = .ok (.aload_n 0, 1) := by decide +kernel
theorem dX12_haven_14 : decode cX12_haven 14 = .ok (.ldc 119, 2) := by decide +kernel
theorem dX12_haven_16 : decode cX12_haven 16 = .ok (.invokevirtual 90, 3) := by decide +kernel
theorem dX12_haven_19 : decode cX12_haven 19 = .ok (.goto 7, 3) := by decide +kernel
theorem dX12_haven_22 : decode cX12_haven 22 = .ok (.aload_n 0, 1) := by decide +kernel
theorem dX12_haven_23 : decode cX12_haven 23 = .ok (.invokevirtual 167, 3) := by decide +kernel
theorem dX12_haven_26 : decode cX12_haven 26 = .ok (.ireturn, 1) := by decide +kernel
theorem dX12_feed_0 : decode cX12_feed 0 = .ok (.iload_n 3, 1) := by decide +kernel
theorem dX12_feed_1 : decode cX12_feed 1 = .ok (.iconst 1, 1) := by decide +kernel
theorem dX12_feed_2 : decode cX12_feed 2 = .ok (.bipush 8, 2) := by decide +kernel
theorem dX12_feed_4 : decode cX12_feed 4 = .ok (.invokestatic 76, 3) := by decide +kernel
theorem dX12_feed_7 : decode cX12_feed 7 = .ok (.ifCond .ne 10, 3) := by decide +kernel
theorem dX12_feed_10 : decode cX12_feed 10 = .ok (.aload_n 0, 1) := by decide +kernel
theorem dX12_feed_11 : decode cX12_feed 11 = .ok (.ldc 89, 2) := by decide +kernel
theorem dX12_feed_13 : decode cX12_feed 13 = .ok (.invokevirtual 90, 3) := by decide +kernel
theorem dX12_feed_16 : decode cX12_feed 16 = .ok (.ireturn, 1) := by decide +kernel
theorem dX12_feed_17 : decode cX12_feed 17 = .ok (.aload_n 0, 1) := by decide +kernel
theorem dX12_feed_18 : decode cX12_feed 18 = .ok (.getfield 9, 3) := by decide +kernel
theorem dX12_feed_21 : decode cX12_feed 21 = .ok (.iconst 3, 1) := by decide +kernel
theorem dX12_feed_22 : decode cX12_feed 22 = .ok (.iaload, 1) := by decide +kernel
theorem dX12_feed_23 : decode cX12_feed 23 = .ok (.iload_n 3, 1) := by decide +kernel
theorem dX12_feed_24 : decode cX12_feed 24 = .ok (.iadd, 1) := by decide +kernel
theorem dX12_feed_25 : decode cX12_feed 25 = .ok (.bipush 50, 2) := by decide +kernel
theorem dX12_feed_27 : decode cX12_feed 27 = .ok (.if_icmp .le 10, 3) := by decide +kernel
theorem dX12_feed_30 : decode cX12_feed 30 = .ok (.aload_n 0, 1) := by decide +kernel
theorem dX12_feed_31 : decode cX12_feed 31 = .ok (.ldc 94, 2) := by decide +kernel
theorem dX12_feed_33 : decode cX12_feed 33 = .ok (.invokevirtual 90, 3) := by decide +kernel
theorem dX12_feed_36 : decode cX12_feed 36 = .ok (.ireturn, 1) := by decide +kernel
theorem dX12_feed_37 : decode cX12_feed 37 = .ok (.iconst 0, 1) := by decide +kernel
theorem dX12_feed_38 : decode cX12_feed 38 = .ok (.istore 4, 2) := by decide +kernel
theorem dX12_feed_40 : decode cX12_feed 40 = .ok (.iload 4, 2) := by decide +kernel
theorem dX12_feed_42 : decode cX12_feed 42 = .ok (.iload_n 3, 1) := by decide +kernel
theorem dX12_feed_43 : decode cX12_feed 43 = .ok (.if_icmp .ge 46, 3) := by decide +kernel
theorem dX12_feed_46 : decode cX12_feed 46 = .ok (.aload_n 0, 1) := by decide +kernel
theorem dX12_feed_47 : decode cX12_feed 47 = .ok (.getfield 9, 3) := by decide +kernel
theorem dX12_feed_50 : decode cX12_feed 50 = .ok (.sipush 182, 3) := by decide +kernel
theorem dX12_feed_53 : decode cX12_feed 53 = .ok (.aload_n 0, 1) := by decide +kernel
theorem dX12_feed_54 : decode cX12_feed 54 = .ok (.getfield 9, 3) := by decide +kernel
theorem dX12_feed_57 : decode cX12_feed 57 = .ok (.iconst 3, 1) := by decide +kernel
theorem dX12_feed_58 : decode cX12_feed 58 = .ok (.iaload, 1) := by decide +kernel
theorem dX12_feed_59 : decode cX12_feed 59 = .ok (.iadd, 1) := by decide +kernel
theorem dX12_feed_60 : decode cX12_feed 60 = .ok (.lload_n 1, 1) := by decide +kernel
theorem dX12_feed_61 : decode cX12_feed 61 = .ok (.bipush 8, 2) := by decide +kernel
theorem dX12_feed_63 : decode cX12_feed 63 = .ok (.iload 4, 2) := by decide +kernel
theorem dX12_feed_65 : decode cX12_feed 65 = .ok (.imul, 1) := by decide +kernel
theorem dX12_feed_66 : decode cX12_feed 66 = .ok (.lshr, 1) := by decide +kernel
theorem dX12_feed_67 : decode cX12_feed 67 = .ok (.ldc2_w 171, 3) := by decide +kernel
theorem dX12_feed_70 : decode cX12_feed 70 = .ok (.land, 1) := by decide +kernel
theorem dX12_feed_71 : decode cX12_feed 71 = .ok (.l2i, 1) := by decide +kernel
theorem dX12_feed_72 : decode cX12_feed 72 = .ok (.iastore, 1) := by decide +kernel
theorem dX12_feed_73 : decode cX12_feed 73 = .ok (.aload_n 0, 1) := by decide +kernel
theorem dX12_feed_74 : decode cX12_feed 74 = .ok (.getfield 9, 3) := by decide +kernel
theorem dX12_feed_77 : decode cX12_feed 77 = .ok (.iconst 3, 1) := by decide +kernel
theorem dX12_feed_78 : decode cX12_feed 78 = .ok (.dup2, 1) := by decide +kernel
theorem dX12_feed_79 : decode cX12_feed 79 = .ok (.iaload, 1) := by decide +kernel
theorem dX12_feed_80 : decode cX12_feed 80 = .ok (.iconst 1, 1) := by decide +kernel
theorem dX12_feed_81 : decode cX12_feed 81 = .ok (.iadd, 1) := by decide +kernel
theorem dX12_feed_82 : decode cX12_feed 82 = .ok (.iastore, 1) := by decide +kernel
theorem dX12_feed_83 : decode cX12_feed 83 = .ok (.iinc 4 1, 3) := by decide +kernel
theorem dX12_feed_86 : decode cX12_feed 86 = .ok (.goto (-46), 3) := by decide +kernel
theorem dX12_feed_89 : decode cX12_feed 89 = .ok (.aload_n 0, 1) := by decide +kernel
theorem dX12_feed_90 : decode cX12_feed 90 = .ok (.getfield 9, 3) := by decide +kernel
theorem dX12_feed_93 : decode cX12_feed 93 = .ok (.iconst 3, 1) := by decide +kernel
theorem dX12_feed_94 : decode cX12_feed 94 = .ok (.iaload, 1) := by decide +kernel
theorem dX12_feed_95 : decode cX12_feed 95 = .ok (.ireturn, 1) := by decide +kernel
theorem dX12_here_0 : decode cX12_here 0 = .ok (.aload_n 0, 1) := by decide +kernel
theorem dX12_here_1 : decode cX12_here 1 = .ok (.getfield 173, 3) := by decide +kernel
theorem dX12_here_4 : decode cX12_here 4 = .ok (.ifCond .ne 32, 3) := by decide +kernel
theorem dX12_here_7 : decode cX12_here 7 = .ok (.aload_n 0, 1) := by decide +kernel
theorem dX12_here_8 : decode cX12_here 8 = .ok (.getfield 177, 3) := by decide +kernel
theorem dX12_here_11 : decode cX12_here 11 = .ok (.aload_n 0, 1) := by decide +kernel
theorem dX12_here_12 : decode cX12_here 12 = .ok (.getfield 9, 3) := by decide +kernel
theorem dX12_here_15 : decode cX12_here 15 = .ok (.iconst 3, 1) := by decide +kernel
theorem dX12_here_16 : decode cX12_here 16 = .ok (.iaload, 1) := by decide +kernel
theorem dX12_here_17 : decode cX12_here 17 = .ok (.if_icmp .ge 19, 3) := by decide +kernel
theorem dX12_here_20 : decode cX12_here 20 = .ok (.aload_n 0, 1) := by decide +kernel
theorem dX12_here_21 : decode cX12_here 21 = .ok (.getfield 9, 3) := by decide +kernel
theorem dX12_here_24 : decode cX12_here 24 = .ok (.sipush 182, 3) := by decide +kernel
theorem dX12_here_27 : decode cX12_here 27 = .ok (.aload_n 0, 1) := by decide +kernel
theorem dX12_here_28 : decode cX12_here 28 = .ok (.getfield 177, 3) := by decide +kernel
theorem dX12_here_31 : decode cX12_here 31 = .ok (.iadd, 1) := by decide +kernel
theorem dX12_here_32 : decode cX12_here 32 = .ok (.iaload, 1) := by decide +kernel
theorem dX12_here_33 : decode cX12_here 33 = .ok (.goto 4, 3) := by decide +kernel
theorem dX12_here_36 : decode cX12_here 36 = .ok (.iconst (-1), 1) := by decide +kernel
theorem dX12_here_37 : decode cX12_here 37 = .ok (.ireturn, 1) := by decide +kernel
theorem dX12_takes_0 : decode cX12_takes 0 = .ok (.aload_n 0, 1) := by decide +kernel
theorem dX12_takes_1 : decode cX12_takes 1 = .ok (.invokevirtual 181, 3) := by decide +kernel
theorem dX12_takes_4 : decode cX12_takes 4 = .ok (.iload_n 1, 1) := by decide +kernel
theorem dX12_takes_5 : decode cX12_takes 5 = .ok (.if_icmp .ne 7, 3) := by decide +kernel
theorem dX12_takes_8 : decode cX12_takes 8 = .ok (.iconst 1, 1) := by decide +kernel
theorem dX12_takes_9 : decode cX12_takes 9 = .ok (.goto 4, 3) := by decide +kernel
theorem dX12_takes_12 : decode cX12_takes 12 = .ok (.iconst 0, 1) := by decide +kernel
theorem dX12_takes_13 : decode cX12_takes 13 = .ok (.istore_n 2, 1) := by decide +kernel
theorem dX12_takes_14 : decode cX12_takes 14 = .ok (.aload_n 0, 1) := by decide +kernel
theorem dX12_takes_15 : decode cX12_takes 15 = .ok (.dup, 1) := by decide +kernel
theorem dX12_takes_16 : decode cX12_takes 16 = .ok (.getfield 177, 3) := by decide +kernel
theorem dX12_takes_19 : decode cX12_takes 19 = .ok (.iload_n 2, 1) := by decide +kernel
theorem dX12_takes_20 : decode cX12_takes 20 = .ok (.ifCond .eq 7, 3) := by decide +kernel
theorem dX12_takes_23 : decode cX12_takes 23 = .ok (.iconst 1, 1) := by decide +kernel
theorem dX12_takes_24 : decode cX12_takes 24 = .ok (.goto 4, 3) := by decide +kernel
theorem dX12_takes_27 : decode cX12_takes 27 = .ok (.iconst 0, 1) := by decide +kernel
theorem dX12_takes_28 : decode cX12_takes 28 = .ok (.iadd, 1) := by decide +kernel
theorem dX12_takes_29 : decode cX12_takes 29 = .ok (.putfield 177, 3) := by decide +kernel
theorem dX12_takes_32 : decode cX12_takes 32 = .ok (.iload_n 2, 1) := by decide +kernel
theorem dX12_takes_33 : decode cX12_takes 33 = .ok (.ireturn, 1) := by decide +kernel
theorem dX12_codes_0 : decode cX12_codes 0 = .ok (.aload_n 0, 1) := by decide +kernel
theorem dX12_codes_1 : decode cX12_codes 1 = .ok (.getfield 173, 3) := by decide +kernel
theorem dX12_codes_4 : decode cX12_codes 4 = .ok (.ifCond .ne 23, 3) := by decide +kernel
theorem dX12_codes_7 : decode cX12_codes 7 = .ok (.aload_n 0, 1) := by decide +kernel
theorem dX12_codes_8 : decode cX12_codes 8 = .ok (.getfield 40, 3) := by decide +kernel
theorem dX12_codes_11 : decode cX12_codes 11 = .ok (.aload_n 0, 1) := by decide +kernel
theorem dX12_codes_12 : decode cX12_codes 12 = .ok (.getfield 184, 3) := by decide +kernel
theorem dX12_codes_15 : decode cX12_codes 15 = .ok (.iload_n 1, 1) := by decide +kernel
theorem dX12_codes_16 : decode cX12_codes 16 = .ok (.iastore, 1) := by decide +kernel
theorem dX12_codes_17 : decode cX12_codes 17 = .ok (.aload_n 0, 1) := by decide +kernel
theorem dX12_codes_18 : decode cX12_codes 18 = .ok (.dup, 1) := by decide +kernel
theorem dX12_codes_19 : decode cX12_codes 19 = .ok (.getfield 184, 3) := by decide +kernel
theorem dX12_codes_22 : decode cX12_codes 22 = .ok (.iconst 1, 1) := by decide +kernel
theorem dX12_codes_23 : decode cX12_codes 23 = .ok (.iadd, 1) := by decide +kernel
theorem dX12_codes_24 : decode cX12_codes 24 = .ok (.putfield 184, 3) := by decide +kernel
theorem dX12_codes_27 : decode cX12_codes 27 = .ok (.return_, 1) := by decide +kernel
theorem dX12_either_0 : decode cX12_either 0 = .ok (.aload_n 0, 1) := by decide +kernel
theorem dX12_either_1 : decode cX12_either 1 = .ok (.invokevirtual 187, 3) := by decide +kernel
theorem dX12_either_4 : decode cX12_either 4 = .ok (.aload_n 0, 1) := by decide +kernel
theorem dX12_either_5 : decode cX12_either 5 = .ok (.bipush 124, 2) := by decide +kernel
theorem dX12_either_7 : decode cX12_either 7 = .ok (.invokevirtual 190, 3) := by decide +kernel
theorem dX12_either_10 : decode cX12_either 10 = .ok (.ifCond .eq 17, 3) := by decide +kernel
theorem dX12_either_13 : decode cX12_either 13 = .ok (.aload_n 0, 1) := by decide +kernel
theorem dX12_either_14 : decode cX12_either 14 = .ok (.invokevirtual 187, 3) := by decide +kernel
theorem dX12_either_17 : decode cX12_either 17 = .ok (.aload_n 0, 1) := by decide +kernel
theorem dX12_either_18 : decode cX12_either 18 = .ok (.sipush 20000, 3) := by decide +kernel
theorem dX12_either_21 : decode cX12_either 21 = .ok (.invokevirtual 193, 3) := by decide +kernel
theorem dX12_either_24 : decode cX12_either 24 = .ok (.goto (-20), 3) := by decide +kernel
theorem dX12_either_27 : decode cX12_either 27 = .ok (.return_, 1) := by decide +kernel
theorem dX12_both_0 : decode cX12_both 0 = .ok (.aload_n 0, 1) := by decide +kernel
theorem dX12_both_1 : decode cX12_both 1 = .ok (.invokevirtual 197, 3) := by decide +kernel
theorem dX12_both_4 : decode cX12_both 4 = .ok (.aload_n 0, 1) := by decide +kernel
theorem dX12_both_5 : decode cX12_both 5 = .ok (.bipush 38, 2) := by decide +kernel
theorem dX12_both_7 : decode cX12_both 7 = .ok (.invokevirtual 190, 3) := by decide +kernel
theorem dX12_both_10 : decode cX12_both 10 = .ok (.ifCond .eq 17, 3) := by decide +kernel
theorem dX12_both_13 : decode cX12_both 13 = .ok (.aload_n 0, 1) := by decide +kernel
theorem dX12_both_14 : decode cX12_both 14 = .ok (.invokevirtual 197, 3) := by decide +kernel
theorem dX12_both_17 : decode cX12_both 17 = .ok (.aload_n 0, 1) := by decide +kernel
theorem dX12_both_18 : decode cX12_both 18 = .ok (.sipush 20001, 3) := by decide +kernel
theorem dX12_both_21 : decode cX12_both 21 = .ok (.invokevirtual 193, 3) := by decide +kernel
theorem dX12_both_24 : decode cX12_both 24 = .ok (.goto (-20), 3) := by decide +kernel
theorem dX12_both_27 : decode cX12_both 27 = .ok (.return_, 1) := by decide +kernel
theorem dX12_compared_0 : decode cX12_compared 0 = .ok (.aload_n 0, 1) := by decide +kernel
theorem dX12_compared_1 : decode cX12_compared 1 = .ok (.invokevirtual 200, 3) := by decide +kernel
theorem dX12_compared_4 : decode cX12_compared 4 = .ok (.aload_n 0, 1) := by decide +kernel
theorem dX12_compared_5 : decode cX12_compared 5 = .ok (.bipush 60, 2) := by decide +kernel
theorem dX12_compared_7 : decode cX12_compared 7 = .ok (.invokevirtual 190, 3) := by decide +kernel
theorem dX12_compared_10 : decode cX12_compared 10 = .ok (.ifCond .eq 9, 3) := by decide +kernel
theorem dX12_compared_13 : decode cX12_compared 13 = .ok (.sipush 20002, 3) := by decide +kernel
theorem dX12_compared_16 : decode cX12_compared 16 = .ok (.goto 34, 3) := by decide +kernel
theorem dX12_compared_19 : decode cX12_compared 19 = .ok (.aload_n 0, 1) := by decide +kernel
theorem dX12_compared_20 : decode cX12_compared 20 = .ok (.bipush 61, 2) := by decide +kernel
theorem dX12_compared_22 : decode cX12_compared 22 = .ok (.invokevirtual 190, 3) := by decide +kernel
theorem dX12_compared_25 : decode cX12_compared 25 = .ok (.ifCond .eq 9, 3) := by decide +kernel
theorem dX12_compared_28 : decode cX12_compared 28 = .ok (.sipush 20003, 3) := by decide +kernel
theorem dX12_compared_31 : decode cX12_compared 31 = .ok (.goto 19, 3) := by decide +kernel
theorem dX12_compared_34 : decode cX12_compared 34 = .ok (.aload_n 0, 1) := by decide +kernel
theorem dX12_compared_35 : decode cX12_compared 35 = .ok (.bipush 62, 2) := by decide +kernel
theorem dX12_compared_37 : decode cX12_compared 37 = .ok (.invokevirtual 190, 3) := by decide +kernel
theorem dX12_compared_40 : decode cX12_compared 40 = .ok (.ifCond .eq 9, 3) := by decide +kernel
theorem dX12_compared_43 : decode cX12_compared 43 = .ok (.sipush 20004, 3) := by decide +kernel
theorem dX12_compared_46 : decode cX12_compared 46 = .ok (.goto 4, 3) := by decide +kernel
theorem dX12_compared_49 : decode cX12_compared 49 = .ok (.iconst 0, 1) := by decide +kernel
theorem dX12_compared_50 : decode cX12_compared 50 = .ok (.istore_n 1, 1) := by decide +kernel
theorem dX12_compared_51 : decode cX12_compared 51 = .ok (.iload_n 1, 1) := by decide +kernel
theorem dX12_compared_52 : decode cX12_compared 52 = .ok (.ifCond .le 12, 3) := by decide +kernel
theorem dX12_compared_55 : decode cX12_compared 55 = .ok (.aload_n 0, 1) := by decide +kernel
theorem dX12_compared_56 : decode cX12_compared 56 = .ok (.invokevirtual 200, 3) := by decide +kernel
theorem dX12_compared_59 : decode cX12_compared 59 = .ok (.aload_n 0, 1) := by decide +kernel
theorem dX12_compared_60 : decode cX12_compared 60 = .ok (.iload_n 1, 1) := by decide +kernel
theorem dX12_compared_61 : decode cX12_compared 61 = .ok (.invokevirtual 193, 3) := by decide +kernel
theorem dX12_compared_64 : decode cX12_compared 64 = .ok (.return_, 1) := by decide +kernel
theorem dX12_sum_0 : decode cX12_sum 0 = .ok (.aload_n 0, 1) := by decide +kernel
theorem dX12_sum_1 : decode cX12_sum 1 = .ok (.invokevirtual 203, 3) := by decide +kernel
theorem dX12_sum_4 : decode cX12_sum 4 = .ok (.aload_n 0, 1) := by decide +kernel
theorem dX12_sum_5 : decode cX12_sum 5 = .ok (.bipush 43, 2) := by decide +kernel
theorem dX12_sum_7 : decode cX12_sum 7 = .ok (.invokevirtual 190, 3) := by decide +kernel
theorem dX12_sum_10 : decode cX12_sum 10 = .ok (.ifCond .eq 9, 3) := by decide +kernel
theorem dX12_sum_13 : decode cX12_sum 13 = .ok (.sipush 20005, 3) := by decide +kernel
theorem dX12_sum_16 : decode cX12_sum 16 = .ok (.goto 19, 3) := by decide +kernel
theorem dX12_sum_19 : decode cX12_sum 19 = .ok (.aload_n 0, 1) := by decide +kernel
theorem dX12_sum_20 : decode cX12_sum 20 = .ok (.bipush 45, 2) := by decide +kernel
theorem dX12_sum_22 : decode cX12_sum 22 = .ok (.invokevirtual 190, 3) := by decide +kernel
theorem dX12_sum_25 : decode cX12_sum 25 = .ok (.ifCond .eq 9, 3) := by decide +kernel
theorem dX12_sum_28 : decode cX12_sum 28 = .ok (.sipush 20006, 3) := by decide +kernel
theorem dX12_sum_31 : decode cX12_sum 31 = .ok (.goto 4, 3) := by decide +kernel
theorem dX12_sum_34 : decode cX12_sum 34 = .ok (.iconst 0, 1) := by decide +kernel
theorem dX12_sum_35 : decode cX12_sum 35 = .ok (.istore_n 1, 1) := by decide +kernel
theorem dX12_sum_36 : decode cX12_sum 36 = .ok (.iload_n 1, 1) := by decide +kernel
theorem dX12_sum_37 : decode cX12_sum 37 = .ok (.ifCond .le 47, 3) := by decide +kernel
theorem dX12_sum_40 : decode cX12_sum 40 = .ok (.aload_n 0, 1) := by decide +kernel
theorem dX12_sum_41 : decode cX12_sum 41 = .ok (.invokevirtual 203, 3) := by decide +kernel
theorem dX12_sum_44 : decode cX12_sum 44 = .ok (.aload_n 0, 1) := by decide +kernel
theorem dX12_sum_45 : decode cX12_sum 45 = .ok (.iload_n 1, 1) := by decide +kernel
theorem dX12_sum_46 : decode cX12_sum 46 = .ok (.invokevirtual 193, 3) := by decide +kernel
theorem dX12_sum_49 : decode cX12_sum 49 = .ok (.aload_n 0, 1) := by decide +kernel
theorem dX12_sum_50 : decode cX12_sum 50 = .ok (.bipush 43, 2) := by decide +kernel
theorem dX12_sum_52 : decode cX12_sum 52 = .ok (.invokevirtual 190, 3) := by decide +kernel
theorem dX12_sum_55 : decode cX12_sum 55 = .ok (.ifCond .eq 9, 3) := by decide +kernel
theorem dX12_sum_58 : decode cX12_sum 58 = .ok (.sipush 20005, 3) := by decide +kernel
theorem dX12_sum_61 : decode cX12_sum 61 = .ok (.goto 19, 3) := by decide +kernel
theorem dX12_sum_64 : decode cX12_sum 64 = .ok (.aload_n 0, 1) := by decide +kernel
theorem dX12_sum_65 : decode cX12_sum 65 = .ok (.bipush 45, 2) := by decide +kernel
theorem dX12_sum_67 : decode cX12_sum 67 = .ok (.invokevirtual 190, 3) := by decide +kernel
theorem dX12_sum_70 : decode cX12_sum 70 = .ok (.ifCond .eq 9, 3) := by decide +kernel
theorem dX12_sum_73 : decode cX12_sum 73 = .ok (.sipush 20006, 3) := by decide +kernel
theorem dX12_sum_76 : decode cX12_sum 76 = .ok (.goto 4, 3) := by decide +kernel
theorem dX12_sum_79 : decode cX12_sum 79 = .ok (.iconst 0, 1) := by decide +kernel
theorem dX12_sum_80 : decode cX12_sum 80 = .ok (.istore_n 1, 1) := by decide +kernel
theorem dX12_sum_81 : decode cX12_sum 81 = .ok (.goto (-45), 3) := by decide +kernel
theorem dX12_sum_84 : decode cX12_sum 84 = .ok (.return_, 1) := by decide +kernel
theorem dX12_product_0 : decode cX12_product 0 = .ok (.aload_n 0, 1) := by decide +kernel
theorem dX12_product_1 : decode cX12_product 1 = .ok (.invokevirtual 206, 3) := by decide +kernel
theorem dX12_product_4 : decode cX12_product 4 = .ok (.aload_n 0, 1) := by decide +kernel
theorem dX12_product_5 : decode cX12_product 5 = .ok (.bipush 42, 2) := by decide +kernel
theorem dX12_product_7 : decode cX12_product 7 = .ok (.invokevirtual 190, 3) := by decide +kernel
theorem dX12_product_10 : decode cX12_product 10 = .ok (.ifCond .eq 9, 3) := by decide +kernel
theorem dX12_product_13 : decode cX12_product 13 = .ok (.sipush 20007, 3) := by decide +kernel
theorem dX12_product_16 : decode cX12_product 16 = .ok (.goto 34, 3) := by decide +kernel
theorem dX12_product_19 : decode cX12_product 19 = .ok (.aload_n 0, 1) := by decide +kernel
theorem dX12_product_20 : decode cX12_product 20 = .ok (.bipush 47, 2) := by decide +kernel
theorem dX12_product_22 : decode cX12_product 22 = .ok (.invokevirtual 190, 3) := by decide +kernel
theorem dX12_product_25 : decode cX12_product 25 = .ok (.ifCond .eq 9, 3) := by decide +kernel
theorem dX12_product_28 : decode cX12_product 28 = .ok (.sipush 20008, 3) := by decide +kernel
theorem dX12_product_31 : decode cX12_product 31 = .ok (.goto 19, 3) := by decide +kernel
theorem dX12_product_34 : decode cX12_product 34 = .ok (.aload_n 0, 1) := by decide +kernel
theorem dX12_product_35 : decode cX12_product 35 = .ok (.bipush 37, 2) := by decide +kernel
theorem dX12_product_37 : decode cX12_product 37 = .ok (.invokevirtual 190, 3) := by decide +kernel
theorem dX12_product_40 : decode cX12_product 40 = .ok (.ifCond .eq 9, 3) := by decide +kernel
theorem dX12_product_43 : decode cX12_product 43 = .ok (.sipush 20009, 3) := by decide +kernel
theorem dX12_product_46 : decode cX12_product 46 = .ok (.goto 4, 3) := by decide +kernel
theorem dX12_product_49 : decode cX12_product 49 = .ok (.iconst 0, 1) := by decide +kernel
theorem dX12_product_50 : decode cX12_product 50 = .ok (.istore_n 1, 1) := by decide +kernel
theorem dX12_product_51 : decode cX12_product 51 = .ok (.iload_n 1, 1) := by decide +kernel
theorem dX12_product_52 : decode cX12_product 52 = .ok (.ifCond .le 62, 3) := by decide +kernel
theorem dX12_product_55 : decode cX12_product 55 = .ok (.aload_n 0, 1) := by decide +kernel
theorem dX12_product_56 : decode cX12_product 56 = .ok (.invokevirtual 206, 3) := by decide +kernel
theorem dX12_product_59 : decode cX12_product 59 = .ok (.aload_n 0, 1) := by decide +kernel
theorem dX12_product_60 : decode cX12_product 60 = .ok (.iload_n 1, 1) := by decide +kernel
theorem dX12_product_61 : decode cX12_product 61 = .ok (.invokevirtual 193, 3) := by decide +kernel
theorem dX12_product_64 : decode cX12_product 64 = .ok (.aload_n 0, 1) := by decide +kernel
theorem dX12_product_65 : decode cX12_product 65 = .ok (.bipush 42, 2) := by decide +kernel
theorem dX12_product_67 : decode cX12_product 67 = .ok (.invokevirtual 190, 3) := by decide +kernel
theorem dX12_product_70 : decode cX12_product 70 = .ok (.ifCond .eq 9, 3) := by decide +kernel
theorem dX12_product_73 : decode cX12_product 73 = .ok (.sipush 20007, 3) := by decide +kernel
theorem dX12_product_76 : decode cX12_product 76 = .ok (.goto 34, 3) := by decide +kernel
theorem dX12_product_79 : decode cX12_product 79 = .ok (.aload_n 0, 1) := by decide +kernel
theorem dX12_product_80 : decode cX12_product 80 = .ok (.bipush 47, 2) := by decide +kernel
theorem dX12_product_82 : decode cX12_product 82 = .ok (.invokevirtual 190, 3) := by decide +kernel
theorem dX12_product_85 : decode cX12_product 85 = .ok (.ifCond .eq 9, 3) := by decide +kernel
theorem dX12_product_88 : decode cX12_product 88 = .ok (.sipush 20008, 3) := by decide +kernel
theorem dX12_product_91 : decode cX12_product 91 = .ok (.goto 19, 3) := by decide +kernel
theorem dX12_product_94 : decode cX12_product 94 = .ok (.aload_n 0, 1) := by decide +kernel
theorem dX12_product_95 : decode cX12_product 95 = .ok (.bipush 37, 2) := by decide +kernel
theorem dX12_product_97 : decode cX12_product 97 = .ok (.invokevirtual 190, 3) := by decide +kernel
theorem dX12_product_100 : decode cX12_product 100 = .ok (.ifCond .eq 9, 3) := by decide +kernel
theorem dX12_product_103 : decode cX12_product 103 = .ok (.sipush 20009, 3) := by decide +kernel
theorem dX12_product_106 : decode cX12_product 106 = .ok (.goto 4, 3) := by decide +kernel
theorem dX12_product_109 : decode cX12_product 109 = .ok (.iconst 0, 1) := by decide +kernel
theorem dX12_product_110 : decode cX12_product 110 = .ok (.istore_n 1, 1) := by decide +kernel
theorem dX12_product_111 : decode cX12_product 111 = .ok (.goto (-60), 3) := by decide +kernel
theorem dX12_product_114 : decode cX12_product 114 = .ok (.return_, 1) := by decide +kernel
theorem dX12_nameOf_0 : decode cX12_nameOf 0 = .ok (.iconst (-1), 1) := by decide +kernel
theorem dX12_nameOf_1 : decode cX12_nameOf 1 = .ok (.istore_n 2, 1) := by decide +kernel
theorem dX12_nameOf_2 : decode cX12_nameOf 2 = .ok (.iconst 0, 1) := by decide +kernel
theorem dX12_nameOf_3 : decode cX12_nameOf 3 = .ok (.istore_n 3, 1) := by decide +kernel
theorem dX12_nameOf_4 : decode cX12_nameOf 4 = .ok (.iload_n 3, 1) := by decide +kernel
theorem dX12_nameOf_5 : decode cX12_nameOf 5 = .ok (.aload_n 0, 1) := by decide +kernel
theorem dX12_nameOf_6 : decode cX12_nameOf 6 = .ok (.getfield 36, 3) := by decide +kernel
theorem dX12_nameOf_9 : decode cX12_nameOf 9 = .ok (.aload_n 0, 1) := by decide +kernel
theorem dX12_nameOf_10 : decode cX12_nameOf 10 = .ok (.getfield 209, 3) := by decide +kernel
theorem dX12_nameOf_13 : decode cX12_nameOf 13 = .ok (.aaload, 1) := by decide +kernel
theorem dX12_nameOf_14 : decode cX12_nameOf 14 = .ok (.invokevirtual 212, 3) := by decide +kernel
theorem dX12_nameOf_17 : decode cX12_nameOf 17 = .ok (.if_icmp .ge 32, 3) := by decide +kernel
theorem dX12_nameOf_20 : decode cX12_nameOf 20 = .ok (.aload_n 0, 1) := by decide +kernel
theorem dX12_nameOf_21 : decode cX12_nameOf 21 = .ok (.getfield 36, 3) := by decide +kernel
theorem dX12_nameOf_24 : decode cX12_nameOf 24 = .ok (.aload_n 0, 1) := by decide +kernel
theorem dX12_nameOf_25 : decode cX12_nameOf 25 = .ok (.getfield 209, 3) := by decide +kernel
theorem dX12_nameOf_28 : decode cX12_nameOf 28 = .ok (.aaload, 1) := by decide +kernel
theorem dX12_nameOf_29 : decode cX12_nameOf 29 = .ok (.iload_n 3, 1) := by decide +kernel
theorem dX12_nameOf_30 : decode cX12_nameOf 30 = .ok (.invokevirtual 215, 3) := by decide +kernel
theorem dX12_nameOf_33 : decode cX12_nameOf 33 = .ok (.iload_n 1, 1) := by decide +kernel
theorem dX12_nameOf_34 : decode cX12_nameOf 34 = .ok (.if_icmp .ne 7, 3) := by decide +kernel
theorem dX12_nameOf_37 : decode cX12_nameOf 37 = .ok (.iload_n 3, 1) := by decide +kernel
theorem dX12_nameOf_38 : decode cX12_nameOf 38 = .ok (.goto 4, 3) := by decide +kernel
theorem dX12_nameOf_41 : decode cX12_nameOf 41 = .ok (.iload_n 2, 1) := by decide +kernel
theorem dX12_nameOf_42 : decode cX12_nameOf 42 = .ok (.istore_n 2, 1) := by decide +kernel
theorem dX12_nameOf_43 : decode cX12_nameOf 43 = .ok (.iinc 3 1, 3) := by decide +kernel
theorem dX12_nameOf_46 : decode cX12_nameOf 46 = .ok (.goto (-42), 3) := by decide +kernel
theorem dX12_nameOf_49 : decode cX12_nameOf 49 = .ok (.iload_n 2, 1) := by decide +kernel
theorem dX12_nameOf_50 : decode cX12_nameOf 50 = .ok (.ireturn, 1) := by decide +kernel
theorem dX12_one_0 : decode cX12_one 0 = .ok (.aload_n 0, 1) := by decide +kernel
theorem dX12_one_1 : decode cX12_one 1 = .ok (.invokevirtual 181, 3) := by decide +kernel
theorem dX12_one_4 : decode cX12_one 4 = .ok (.istore_n 1, 1) := by decide +kernel
theorem dX12_one_5 : decode cX12_one 5 = .ok (.iload_n 1, 1) := by decide +kernel
theorem dX12_one_6 : decode cX12_one 6 = .ok (.bipush 33, 2) := by decide +kernel
theorem dX12_one_8 : decode cX12_one 8 = .ok (.if_icmp .eq 9, 3) := by decide +kernel
theorem dX12_one_11 : decode cX12_one 11 = .ok (.iload_n 1, 1) := by decide +kernel
theorem dX12_one_12 : decode cX12_one 12 = .ok (.bipush 40, 2) := by decide +kernel
theorem dX12_one_14 : decode cX12_one 14 = .ok (.if_icmp .ne 102, 3) := by decide +kernel
theorem dX12_one_17 : decode cX12_one 17 = .ok (.aload_n 0, 1) := by decide +kernel
theorem dX12_one_18 : decode cX12_one 18 = .ok (.aload_n 0, 1) := by decide +kernel
theorem dX12_one_19 : decode cX12_one 19 = .ok (.getfield 219, 3) := by decide +kernel
theorem dX12_one_22 : decode cX12_one 22 = .ok (.iconst 5, 1) := by decide +kernel
theorem dX12_one_23 : decode cX12_one 23 = .ok (.if_icmp .ne 7, 3) := by decide +kernel
theorem dX12_one_26 : decode cX12_one 26 = .ok (.iconst 1, 1) := by decide +kernel
theorem dX12_one_27 : decode cX12_one 27 = .ok (.goto 4, 3) := by decide +kernel
theorem dX12_one_30 : decode cX12_one 30 = .ok (.iconst 0, 1) := by decide +kernel
theorem dX12_one_31 : decode cX12_one 31 = .ok (.putfield 173, 3) := by decide +kernel
theorem dX12_one_34 : decode cX12_one 34 = .ok (.aload_n 0, 1) := by decide +kernel
theorem dX12_one_35 : decode cX12_one 35 = .ok (.getfield 173, 3) := by decide +kernel
theorem dX12_one_38 : decode cX12_one 38 = .ok (.ifCond .ne 209, 3) := by decide +kernel
theorem dX12_one_41 : decode cX12_one 41 = .ok (.aload_n 0, 1) := by decide +kernel
theorem dX12_one_42 : decode cX12_one 42 = .ok (.dup, 1) := by decide +kernel
theorem dX12_one_43 : decode cX12_one 43 = .ok (.getfield 219, 3) := by decide +kernel
theorem dX12_one_46 : decode cX12_one 46 = .ok (.iconst 1, 1) := by decide +kernel
theorem dX12_one_47 : decode cX12_one 47 = .ok (.iadd, 1) := by decide +kernel
theorem dX12_one_48 : decode cX12_one 48 = .ok (.putfield 219, 3) := by decide +kernel
theorem dX12_one_51 : decode cX12_one 51 = .ok (.aload_n 0, 1) := by decide +kernel
theorem dX12_one_52 : decode cX12_one 52 = .ok (.dup, 1) := by decide +kernel
theorem dX12_one_53 : decode cX12_one 53 = .ok (.getfield 177, 3) := by decide +kernel
theorem dX12_one_56 : decode cX12_one 56 = .ok (.iconst 1, 1) := by decide +kernel
theorem dX12_one_57 : decode cX12_one 57 = .ok (.iadd, 1) := by decide +kernel
theorem dX12_one_58 : decode cX12_one 58 = .ok (.putfield 177, 3) := by decide +kernel
theorem dX12_one_61 : decode cX12_one 61 = .ok (.iload_n 1, 1) := by decide +kernel
theorem dX12_one_62 : decode cX12_one 62 = .ok (.bipush 33, 2) := by decide +kernel
theorem dX12_one_64 : decode cX12_one 64 = .ok (.if_icmp .ne 17, 3) := by decide +kernel
theorem dX12_one_67 : decode cX12_one 67 = .ok (.aload_n 0, 1) := by decide +kernel
theorem dX12_one_68 : decode cX12_one 68 = .ok (.invokevirtual 206, 3) := by decide +kernel
theorem dX12_one_71 : decode cX12_one 71 = .ok (.aload_n 0, 1) := by decide +kernel
theorem dX12_one_72 : decode cX12_one 72 = .ok (.sipush 20010, 3) := by decide +kernel
theorem dX12_one_75 : decode cX12_one 75 = .ok (.invokevirtual 193, 3) := by decide +kernel
theorem dX12_one_78 : decode cX12_one 78 = .ok (.goto 25, 3) := by decide +kernel
theorem dX12_one_81 : decode cX12_one 81 = .ok (.aload_n 0, 1) := by decide +kernel
theorem dX12_one_82 : decode cX12_one 82 = .ok (.invokevirtual 222, 3) := by decide +kernel
theorem dX12_one_85 : decode cX12_one 85 = .ok (.aload_n 0, 1) := by decide +kernel
theorem dX12_one_86 : decode cX12_one 86 = .ok (.aload_n 0, 1) := by decide +kernel
theorem dX12_one_87 : decode cX12_one 87 = .ok (.bipush 41, 2) := by decide +kernel
theorem dX12_one_89 : decode cX12_one 89 = .ok (.invokevirtual 190, 3) := by decide +kernel
theorem dX12_one_92 : decode cX12_one 92 = .ok (.ifCond .ne 7, 3) := by decide +kernel
theorem dX12_one_95 : decode cX12_one 95 = .ok (.iconst 1, 1) := by decide +kernel
theorem dX12_one_96 : decode cX12_one 96 = .ok (.goto 4, 3) := by decide +kernel
theorem dX12_one_99 : decode cX12_one 99 = .ok (.iconst 0, 1) := by decide +kernel
theorem dX12_one_100 : decode cX12_one 100 = .ok (.putfield 173, 3) := by decide +kernel
theorem dX12_one_103 : decode cX12_one 103 = .ok (.aload_n 0, 1) := by decide +kernel
theorem dX12_one_104 : decode cX12_one 104 = .ok (.dup, 1) := by decide +kernel
theorem dX12_one_105 : decode cX12_one 105 = .ok (.getfield 219, 3) := by decide +kernel
theorem dX12_one_108 : decode cX12_one 108 = .ok (.iconst 1, 1) := by decide +kernel
theorem dX12_one_109 : decode cX12_one 109 = .ok (.isub, 1) := by decide +kernel
theorem dX12_one_110 : decode cX12_one 110 = .ok (.putfield 219, 3) := by decide +kernel
theorem dX12_one_113 : decode cX12_one 113 = .ok (.goto 134, 3) := by decide +kernel
theorem dX12_one_116 : decode cX12_one 116 = .ok (.iload_n 1, 1) := by decide +kernel
theorem dX12_one_117 : decode cX12_one 117 = .ok (.bipush 48, 2) := by decide +kernel
theorem dX12_one_119 : decode cX12_one 119 = .ok (.bipush 57, 2) := by decide +kernel
theorem dX12_one_121 : decode cX12_one 121 = .ok (.invokestatic 76, 3) := by decide +kernel
theorem dX12_one_124 : decode cX12_one 124 = .ok (.ifCond .eq 63, 3) := by decide +kernel
theorem dX12_one_127 : decode cX12_one 127 = .ok (.iconst 0, 1) := by decide +kernel
theorem dX12_one_128 : decode cX12_one 128 = .ok (.istore_n 2, 1) := by decide +kernel
theorem dX12_one_129 : decode cX12_one 129 = .ok (.iconst 0, 1) := by decide +kernel
theorem dX12_one_130 : decode cX12_one 130 = .ok (.istore_n 3, 1) := by decide +kernel
theorem dX12_one_131 : decode cX12_one 131 = .ok (.iload_n 3, 1) := by decide +kernel
theorem dX12_one_132 : decode cX12_one 132 = .ok (.iconst 4, 1) := by decide +kernel
theorem dX12_one_133 : decode cX12_one 133 = .ok (.if_icmp .ge 46, 3) := by decide +kernel
theorem dX12_one_136 : decode cX12_one 136 = .ok (.aload_n 0, 1) := by decide +kernel
theorem dX12_one_137 : decode cX12_one 137 = .ok (.invokevirtual 181, 3) := by decide +kernel
theorem dX12_one_140 : decode cX12_one 140 = .ok (.bipush 48, 2) := by decide +kernel
theorem dX12_one_142 : decode cX12_one 142 = .ok (.bipush 57, 2) := by decide +kernel
theorem dX12_one_144 : decode cX12_one 144 = .ok (.invokestatic 76, 3) := by decide +kernel
theorem dX12_one_147 : decode cX12_one 147 = .ok (.ifCond .eq 32, 3) := by decide +kernel
theorem dX12_one_150 : decode cX12_one 150 = .ok (.bipush 10, 2) := by decide +kernel
theorem dX12_one_152 : decode cX12_one 152 = .ok (.iload_n 2, 1) := by decide +kernel
theorem dX12_one_153 : decode cX12_one 153 = .ok (.imul, 1) := by decide +kernel
theorem dX12_one_154 : decode cX12_one 154 = .ok (.aload_n 0, 1) := by decide +kernel
theorem dX12_one_155 : decode cX12_one 155 = .ok (.invokevirtual 181, 3) := by decide +kernel
theorem dX12_one_158 : decode cX12_one 158 = .ok (.iadd, 1) := by decide +kernel
theorem dX12_one_159 : decode cX12_one 159 = .ok (.bipush 48, 2) := by decide +kernel
theorem dX12_one_161 : decode cX12_one 161 = .ok (.isub, 1) := by decide +kernel
theorem dX12_one_162 : decode cX12_one 162 = .ok (.istore_n 2, 1) := by decide +kernel
theorem dX12_one_163 : decode cX12_one 163 = .ok (.aload_n 0, 1) := by decide +kernel
theorem dX12_one_164 : decode cX12_one 164 = .ok (.dup, 1) := by decide +kernel
theorem dX12_one_165 : decode cX12_one 165 = .ok (.getfield 177, 3) := by decide +kernel
theorem dX12_one_168 : decode cX12_one 168 = .ok (.iconst 1, 1) := by decide +kernel
theorem dX12_one_169 : decode cX12_one 169 = .ok (.iadd, 1) := by decide +kernel
theorem dX12_one_170 : decode cX12_one 170 = .ok (.putfield 177, 3) := by decide +kernel
theorem dX12_one_173 : decode cX12_one 173 = .ok (.iinc 3 1, 3) := by decide +kernel
theorem dX12_one_176 : decode cX12_one 176 = .ok (.goto (-45), 3) := by decide +kernel
theorem dX12_one_179 : decode cX12_one 179 = .ok (.aload_n 0, 1) := by decide +kernel
theorem dX12_one_180 : decode cX12_one 180 = .ok (.iload_n 2, 1) := by decide +kernel
theorem dX12_one_181 : decode cX12_one 181 = .ok (.invokevirtual 193, 3) := by decide +kernel
theorem dX12_one_184 : decode cX12_one 184 = .ok (.goto 63, 3) := by decide +kernel
theorem dX12_one_187 : decode cX12_one 187 = .ok (.iload_n 1, 1) := by decide +kernel
theorem dX12_one_188 : decode cX12_one 188 = .ok (.ifCond .ge 7, 3) := by decide +kernel
theorem dX12_one_191 : decode cX12_one 191 = .ok (.iconst (-1), 1) := by decide +kernel
theorem dX12_one_192 : decode cX12_one 192 = .ok (.goto 8, 3) := by decide +kernel
theorem dX12_one_195 : decode cX12_one 195 = .ok (.aload_n 0, 1) := by decide +kernel
theorem dX12_one_196 : decode cX12_one 196 = .ok (.iload_n 1, 1) := by decide +kernel
theorem dX12_one_197 : decode cX12_one 197 = .ok (.invokevirtual 225, 3) := by decide +kernel
theorem dX12_one_200 : decode cX12_one 200 = .ok (.istore_n 2, 1) := by decide +kernel
theorem dX12_one_201 : decode cX12_one 201 = .ok (.aload_n 0, 1) := by decide +kernel
theorem dX12_one_202 : decode cX12_one 202 = .ok (.aload_n 0, 1) := by decide +kernel
theorem dX12_one_203 : decode cX12_one 203 = .ok (.getfield 173, 3) := by decide +kernel
theorem dX12_one_206 : decode cX12_one 206 = .ok (.ifCond .ne 7, 3) := by decide +kernel
theorem dX12_one_209 : decode cX12_one 209 = .ok (.iload_n 2, 1) := by decide +kernel
theorem dX12_one_210 : decode cX12_one 210 = .ok (.ifCond .ge 7, 3) := by decide +kernel
theorem dX12_one_213 : decode cX12_one 213 = .ok (.iconst 1, 1) := by decide +kernel
theorem dX12_one_214 : decode cX12_one 214 = .ok (.goto 4, 3) := by decide +kernel
theorem dX12_one_217 : decode cX12_one 217 = .ok (.iconst 0, 1) := by decide +kernel
theorem dX12_one_218 : decode cX12_one 218 = .ok (.putfield 173, 3) := by decide +kernel
theorem dX12_one_221 : decode cX12_one 221 = .ok (.aload_n 0, 1) := by decide +kernel
theorem dX12_one_222 : decode cX12_one 222 = .ok (.getfield 173, 3) := by decide +kernel
theorem dX12_one_225 : decode cX12_one 225 = .ok (.ifCond .ne 22, 3) := by decide +kernel
theorem dX12_one_228 : decode cX12_one 228 = .ok (.aload_n 0, 1) := by decide +kernel
theorem dX12_one_229 : decode cX12_one 229 = .ok (.sipush 10000, 3) := by decide +kernel
theorem dX12_one_232 : decode cX12_one 232 = .ok (.iload_n 2, 1) := by decide +kernel
theorem dX12_one_233 : decode cX12_one 233 = .ok (.iadd, 1) := by decide +kernel
theorem dX12_one_234 : decode cX12_one 234 = .ok (.invokevirtual 193, 3) := by decide +kernel
theorem dX12_one_237 : decode cX12_one 237 = .ok (.aload_n 0, 1) := by decide +kernel
theorem dX12_one_238 : decode cX12_one 238 = .ok (.dup, 1) := by decide +kernel
theorem dX12_one_239 : decode cX12_one 239 = .ok (.getfield 177, 3) := by decide +kernel
theorem dX12_one_242 : decode cX12_one 242 = .ok (.iconst 1, 1) := by decide +kernel
theorem dX12_one_243 : decode cX12_one 243 = .ok (.iadd, 1) := by decide +kernel
theorem dX12_one_244 : decode cX12_one 244 = .ok (.putfield 177, 3) := by decide +kernel
theorem dX12_one_247 : decode cX12_one 247 = .ok (.return_, 1) := by decide +kernel
theorem dX12_text_0 : decode cX12_text 0 = .ok (.iload_n 1, 1) := by decide +kernel
theorem dX12_text_1 : decode cX12_text 1 = .ok (.iconst 0, 1) := by decide +kernel
theorem dX12_text_2 : decode cX12_text 2 = .ok (.iconst 2, 1) := by decide +kernel
theorem dX12_text_3 : decode cX12_text 3 = .ok (.invokestatic 76, 3) := by decide +kernel
theorem dX12_text_6 : decode cX12_text 6 = .ok (.ifCond .ne 10, 3) := by decide +kernel
theorem dX12_text_9 : decode cX12_text 9 = .ok (.aload_n 0, 1) := by decide +kernel
theorem dX12_text_10 : decode cX12_text 10 = .ok (.ldc 89, 2) := by decide +kernel
theorem dX12_text_12 : decode cX12_text 12 = .ok (.invokevirtual 90, 3) := by decide +kernel
theorem dX12_text_15 : decode cX12_text 15 = .ok (.ireturn, 1) := by decide +kernel
theorem dX12_text_16 : decode cX12_text 16 = .ok (.aload_n 0, 1) := by decide +kernel
theorem dX12_text_17 : decode cX12_text 17 = .ok (.iload_n 1, 1) := by decide +kernel
theorem dX12_text_18 : decode cX12_text 18 = .ok (.putfield 209, 3) := by decide +kernel
theorem dX12_text_21 : decode cX12_text 21 = .ok (.aload_n 0, 1) := by decide +kernel
theorem dX12_text_22 : decode cX12_text 22 = .ok (.iconst 0, 1) := by decide +kernel
theorem dX12_text_23 : decode cX12_text 23 = .ok (.putfield 177, 3) := by decide +kernel
theorem dX12_text_26 : decode cX12_text 26 = .ok (.aload_n 0, 1) := by decide +kernel
theorem dX12_text_27 : decode cX12_text 27 = .ok (.iconst 0, 1) := by decide +kernel
theorem dX12_text_28 : decode cX12_text 28 = .ok (.putfield 219, 3) := by decide +kernel
theorem dX12_text_31 : decode cX12_text 31 = .ok (.aload_n 0, 1) := by decide +kernel
theorem dX12_text_32 : decode cX12_text 32 = .ok (.iconst 0, 1) := by decide +kernel
theorem dX12_text_33 : decode cX12_text 33 = .ok (.putfield 173, 3) := by decide +kernel
theorem dX12_text_36 : decode cX12_text 36 = .ok (.aload_n 0, 1) := by decide +kernel
theorem dX12_text_37 : decode cX12_text 37 = .ok (.iconst 0, 1) := by decide +kernel
theorem dX12_text_38 : decode cX12_text 38 = .ok (.putfield 184, 3) := by decide +kernel
theorem dX12_text_41 : decode cX12_text 41 = .ok (.aload_n 0, 1) := by decide +kernel
theorem dX12_text_42 : decode cX12_text 42 = .ok (.invokevirtual 222, 3) := by decide +kernel
theorem dX12_text_45 : decode cX12_text 45 = .ok (.aload_n 0, 1) := by decide +kernel
theorem dX12_text_46 : decode cX12_text 46 = .ok (.aload_n 0, 1) := by decide +kernel
theorem dX12_text_47 : decode cX12_text 47 = .ok (.getfield 173, 3) := by decide +kernel
theorem dX12_text_50 : decode cX12_text 50 = .ok (.ifCond .ne 16, 3) := by decide +kernel
theorem dX12_text_53 : decode cX12_text 53 = .ok (.aload_n 0, 1) := by decide +kernel
theorem dX12_text_54 : decode cX12_text 54 = .ok (.getfield 177, 3) := by decide +kernel
theorem dX12_text_57 : decode cX12_text 57 = .ok (.aload_n 0, 1) := by decide +kernel
theorem dX12_text_58 : decode cX12_text 58 = .ok (.getfield 9, 3) := by decide +kernel
theorem dX12_text_61 : decode cX12_text 61 = .ok (.iconst 3, 1) := by decide +kernel
theorem dX12_text_62 : decode cX12_text 62 = .ok (.iaload, 1) := by decide +kernel
theorem dX12_text_63 : decode cX12_text 63 = .ok (.if_icmp .ge 7, 3) := by decide +kernel
theorem dX12_text_66 : decode cX12_text 66 = .ok (.iconst 1, 1) := by decide +kernel
theorem dX12_text_67 : decode cX12_text 67 = .ok (.goto 4, 3) := by decide +kernel
theorem dX12_text_70 : decode cX12_text 70 = .ok (.iconst 0, 1) := by decide +kernel
theorem dX12_text_71 : decode cX12_text 71 = .ok (.putfield 173, 3) := by decide +kernel
theorem dX12_text_74 : decode cX12_text 74 = .ok (.aload_n 0, 1) := by decide +kernel
theorem dX12_text_75 : decode cX12_text 75 = .ok (.getfield 9, 3) := by decide +kernel
theorem dX12_text_78 : decode cX12_text 78 = .ok (.iconst 3, 1) := by decide +kernel
theorem dX12_text_79 : decode cX12_text 79 = .ok (.iconst 0, 1) := by decide +kernel
theorem dX12_text_80 : decode cX12_text 80 = .ok (.iastore, 1) := by decide +kernel
theorem dX12_text_81 : decode cX12_text 81 = .ok (.aload_n 0, 1) := by decide +kernel
theorem dX12_text_82 : decode cX12_text 82 = .ok (.getfield 173, 3) := by decide +kernel
theorem dX12_text_85 : decode cX12_text 85 = .ok (.ifCond .eq 11, 3) := by decide +kernel
theorem dX12_text_88 : decode cX12_text 88 = .ok (.bipush (-10), 2) := by decide +kernel
theorem dX12_text_90 : decode cX12_text 90 = .ok (.aload_n 0, 1) := by decide +kernel
theorem dX12_text_91 : decode cX12_text 91 = .ok (.getfield 177, 3) := by decide +kernel
theorem dX12_text_94 : decode cX12_text 94 = .ok (.isub, 1) := by decide +kernel
theorem dX12_text_95 : decode cX12_text 95 = .ok (.ireturn, 1) := by decide +kernel
theorem dX12_text_96 : decode cX12_text 96 = .ok (.aload_n 0, 1) := by decide +kernel
theorem dX12_text_97 : decode cX12_text 97 = .ok (.getfield 9, 3) := by decide +kernel
theorem dX12_text_100 : decode cX12_text 100 = .ok (.sipush 252, 3) := by decide +kernel
theorem dX12_text_103 : decode cX12_text 103 = .ok (.bipush 52, 2) := by decide +kernel
theorem dX12_text_105 : decode cX12_text 105 = .ok (.aload_n 0, 1) := by decide +kernel
theorem dX12_text_106 : decode cX12_text 106 = .ok (.getfield 209, 3) := by decide +kernel
theorem dX12_text_109 : decode cX12_text 109 = .ok (.imul, 1) := by decide +kernel
theorem dX12_text_110 : decode cX12_text 110 = .ok (.iadd, 1) := by decide +kernel
theorem dX12_text_111 : decode cX12_text 111 = .ok (.aload_n 0, 1) := by decide +kernel
theorem dX12_text_112 : decode cX12_text 112 = .ok (.getfield 184, 3) := by decide +kernel
theorem dX12_text_115 : decode cX12_text 115 = .ok (.iastore, 1) := by decide +kernel
theorem dX12_text_116 : decode cX12_text 116 = .ok (.iconst 0, 1) := by decide +kernel
theorem dX12_text_117 : decode cX12_text 117 = .ok (.istore_n 2, 1) := by decide +kernel
theorem dX12_text_118 : decode cX12_text 118 = .ok (.iload_n 2, 1) := by decide +kernel
theorem dX12_text_119 : decode cX12_text 119 = .ok (.aload_n 0, 1) := by decide +kernel
theorem dX12_text_120 : decode cX12_text 120 = .ok (.getfield 184, 3) := by decide +kernel
theorem dX12_text_123 : decode cX12_text 123 = .ok (.if_icmp .ge 35, 3) := by decide +kernel
theorem dX12_text_126 : decode cX12_text 126 = .ok (.aload_n 0, 1) := by decide +kernel
theorem dX12_text_127 : decode cX12_text 127 = .ok (.getfield 9, 3) := by decide +kernel
theorem dX12_text_130 : decode cX12_text 130 = .ok (.sipush 252, 3) := by decide +kernel
theorem dX12_text_133 : decode cX12_text 133 = .ok (.bipush 52, 2) := by decide +kernel
theorem dX12_text_135 : decode cX12_text 135 = .ok (.aload_n 0, 1) := by decide +kernel
theorem dX12_text_136 : decode cX12_text 136 = .ok (.getfield 209, 3) := by decide +kernel
theorem dX12_text_139 : decode cX12_text 139 = .ok (.imul, 1) := by decide +kernel
theorem dX12_text_140 : decode cX12_text 140 = .ok (.iadd, 1) := by decide +kernel
theorem dX12_text_141 : decode cX12_text 141 = .ok (.iconst 1, 1) := by decide +kernel
theorem dX12_text_142 : decode cX12_text 142 = .ok (.iadd, 1) := by decide +kernel
theorem dX12_text_143 : decode cX12_text 143 = .ok (.iload_n 2, 1) := by decide +kernel
theorem dX12_text_144 : decode cX12_text 144 = .ok (.iadd, 1) := by decide +kernel
theorem dX12_text_145 : decode cX12_text 145 = .ok (.aload_n 0, 1) := by decide +kernel
theorem dX12_text_146 : decode cX12_text 146 = .ok (.getfield 40, 3) := by decide +kernel
theorem dX12_text_149 : decode cX12_text 149 = .ok (.iload_n 2, 1) := by decide +kernel
theorem dX12_text_150 : decode cX12_text 150 = .ok (.iaload, 1) := by decide +kernel
theorem dX12_text_151 : decode cX12_text 151 = .ok (.iastore, 1) := by decide +kernel
theorem dX12_text_152 : decode cX12_text 152 = .ok (.iinc 2 1, 3) := by decide +kernel
theorem dX12_text_155 : decode cX12_text 155 = .ok (.goto (-37), 3) := by decide +kernel
theorem dX12_text_158 : decode cX12_text 158 = .ok (.iconst 1, 1) := by decide +kernel
theorem dX12_text_159 : decode cX12_text 159 = .ok (.ireturn, 1) := by decide +kernel
theorem dX12_done_0 : decode cX12_done 0 = .ok (.iload_n 0, 1) := by decide +kernel
theorem dX12_done_1 : decode cX12_done 1 = .ok (.tableswitch 136 20000 20008 #[51, 65, 79, 90, 101, 112, 116, 120, 124], 51) := by decide +kernel
theorem dX12_done_52 : decode cX12_done 52 = .ok (.iload_n 1, 1) := by decide +kernel
theorem dX12_done_53 : decode cX12_done 53 = .ok (.ifCond .ne 7, 3) := by decide +kernel
theorem dX12_done_56 : decode cX12_done 56 = .ok (.iload_n 2, 1) := by decide +kernel
theorem dX12_done_57 : decode cX12_done 57 = .ok (.ifCond .eq 7, 3) := by decide +kernel
theorem dX12_done_60 : decode cX12_done 60 = .ok (.iconst 1, 1) := by decide +kernel
theorem dX12_done_61 : decode cX12_done 61 = .ok (.goto 4, 3) := by decide +kernel
theorem dX12_done_64 : decode cX12_done 64 = .ok (.iconst 0, 1) := by decide +kernel
theorem dX12_done_65 : decode cX12_done 65 = .ok (.ireturn, 1) := by decide +kernel
theorem dX12_done_66 : decode cX12_done 66 = .ok (.iload_n 1, 1) := by decide +kernel
theorem dX12_done_67 : decode cX12_done 67 = .ok (.ifCond .eq 11, 3) := by decide +kernel
theorem dX12_done_70 : decode cX12_done 70 = .ok (.iload_n 2, 1) := by decide +kernel
theorem dX12_done_71 : decode cX12_done 71 = .ok (.ifCond .eq 7, 3) := by decide +kernel
theorem dX12_done_74 : decode cX12_done 74 = .ok (.iconst 1, 1) := by decide +kernel
theorem dX12_done_75 : decode cX12_done 75 = .ok (.goto 4, 3) := by decide +kernel
theorem dX12_done_78 : decode cX12_done 78 = .ok (.iconst 0, 1) := by decide +kernel
theorem dX12_done_79 : decode cX12_done 79 = .ok (.ireturn, 1) := by decide +kernel
theorem dX12_done_80 : decode cX12_done 80 = .ok (.iload_n 1, 1) := by decide +kernel
theorem dX12_done_81 : decode cX12_done 81 = .ok (.iload_n 2, 1) := by decide +kernel
theorem dX12_done_82 : decode cX12_done 82 = .ok (.if_icmp .ge 7, 3) := by decide +kernel
theorem dX12_done_85 : decode cX12_done 85 = .ok (.iconst 1, 1) := by decide +kernel
theorem dX12_done_86 : decode cX12_done 86 = .ok (.goto 4, 3) := by decide +kernel
theorem dX12_done_89 : decode cX12_done 89 = .ok (.iconst 0, 1) := by decide +kernel
theorem dX12_done_90 : decode cX12_done 90 = .ok (.ireturn, 1) := by decide +kernel
theorem dX12_done_91 : decode cX12_done 91 = .ok (.iload_n 1, 1) := by decide +kernel
theorem dX12_done_92 : decode cX12_done 92 = .ok (.iload_n 2, 1) := by decide +kernel
theorem dX12_done_93 : decode cX12_done 93 = .ok (.if_icmp .ne 7, 3) := by decide +kernel
theorem dX12_done_96 : decode cX12_done 96 = .ok (.iconst 1, 1) := by decide +kernel
theorem dX12_done_97 : decode cX12_done 97 = .ok (.goto 4, 3) := by decide +kernel
theorem dX12_done_100 : decode cX12_done 100 = .ok (.iconst 0, 1) := by decide +kernel
theorem dX12_done_101 : decode cX12_done 101 = .ok (.ireturn, 1) := by decide +kernel
theorem dX12_done_102 : decode cX12_done 102 = .ok (.iload_n 1, 1) := by decide +kernel
theorem dX12_done_103 : decode cX12_done 103 = .ok (.iload_n 2, 1) := by decide +kernel
theorem dX12_done_104 : decode cX12_done 104 = .ok (.if_icmp .le 7, 3) := by decide +kernel
theorem dX12_done_107 : decode cX12_done 107 = .ok (.iconst 1, 1) := by decide +kernel
theorem dX12_done_108 : decode cX12_done 108 = .ok (.goto 4, 3) := by decide +kernel
theorem dX12_done_111 : decode cX12_done 111 = .ok (.iconst 0, 1) := by decide +kernel
theorem dX12_done_112 : decode cX12_done 112 = .ok (.ireturn, 1) := by decide +kernel
theorem dX12_done_113 : decode cX12_done 113 = .ok (.iload_n 1, 1) := by decide +kernel
theorem dX12_done_114 : decode cX12_done 114 = .ok (.iload_n 2, 1) := by decide +kernel
theorem dX12_done_115 : decode cX12_done 115 = .ok (.iadd, 1) := by decide +kernel
theorem dX12_done_116 : decode cX12_done 116 = .ok (.ireturn, 1) := by decide +kernel
theorem dX12_done_117 : decode cX12_done 117 = .ok (.iload_n 1, 1) := by decide +kernel
theorem dX12_done_118 : decode cX12_done 118 = .ok (.iload_n 2, 1) := by decide +kernel
theorem dX12_done_119 : decode cX12_done 119 = .ok (.isub, 1) := by decide +kernel
theorem dX12_done_120 : decode cX12_done 120 = .ok (.ireturn, 1) := by decide +kernel
theorem dX12_done_121 : decode cX12_done 121 = .ok (.iload_n 1, 1) := by decide +kernel
theorem dX12_done_122 : decode cX12_done 122 = .ok (.iload_n 2, 1) := by decide +kernel
theorem dX12_done_123 : decode cX12_done 123 = .ok (.imul, 1) := by decide +kernel
theorem dX12_done_124 : decode cX12_done 124 = .ok (.ireturn, 1) := by decide +kernel
theorem dX12_done_125 : decode cX12_done 125 = .ok (.iload_n 2, 1) := by decide +kernel
theorem dX12_done_126 : decode cX12_done 126 = .ok (.ifCond .ne 7, 3) := by decide +kernel
theorem dX12_done_129 : decode cX12_done 129 = .ok (.iconst 0, 1) := by decide +kernel
theorem dX12_done_130 : decode cX12_done 130 = .ok (.goto 6, 3) := by decide +kernel
theorem dX12_done_133 : decode cX12_done 133 = .ok (.iload_n 1, 1) := by decide +kernel
theorem dX12_done_134 : decode cX12_done 134 = .ok (.iload_n 2, 1) := by decide +kernel
theorem dX12_done_135 : decode cX12_done 135 = .ok (.idiv, 1) := by decide +kernel
theorem dX12_done_136 : decode cX12_done 136 = .ok (.ireturn, 1) := by decide +kernel
theorem dX12_done_137 : decode cX12_done 137 = .ok (.iload_n 2, 1) := by decide +kernel
theorem dX12_done_138 : decode cX12_done 138 = .ok (.ifCond .ne 7, 3) := by decide +kernel
theorem dX12_done_141 : decode cX12_done 141 = .ok (.iconst 0, 1) := by decide +kernel
theorem dX12_done_142 : decode cX12_done 142 = .ok (.goto 6, 3) := by decide +kernel
theorem dX12_done_145 : decode cX12_done 145 = .ok (.iload_n 1, 1) := by decide +kernel
theorem dX12_done_146 : decode cX12_done 146 = .ok (.iload_n 2, 1) := by decide +kernel
theorem dX12_done_147 : decode cX12_done 147 = .ok (.irem, 1) := by decide +kernel
theorem dX12_done_148 : decode cX12_done 148 = .ok (.ireturn, 1) := by decide +kernel
theorem dX12_worked_0 : decode cX12_worked 0 = .ok (.iconst 0, 1) := by decide +kernel
theorem dX12_worked_1 : decode cX12_worked 1 = .ok (.istore 6, 2) := by decide +kernel
theorem dX12_worked_3 : decode cX12_worked 3 = .ok (.iload_n 1, 1) := by decide +kernel
theorem dX12_worked_4 : decode cX12_worked 4 = .ok (.istore 7, 2) := by decide +kernel
theorem dX12_worked_6 : decode cX12_worked 6 = .ok (.iload 7, 2) := by decide +kernel
theorem dX12_worked_8 : decode cX12_worked 8 = .ok (.iload_n 1, 1) := by decide +kernel
theorem dX12_worked_9 : decode cX12_worked 9 = .ok (.aload_n 0, 1) := by decide +kernel
theorem dX12_worked_10 : decode cX12_worked 10 = .ok (.getfield 9, 3) := by decide +kernel
theorem dX12_worked_13 : decode cX12_worked 13 = .ok (.iload_n 1, 1) := by decide +kernel
theorem dX12_worked_14 : decode cX12_worked 14 = .ok (.iconst 1, 1) := by decide +kernel
theorem dX12_worked_15 : decode cX12_worked 15 = .ok (.isub, 1) := by decide +kernel
theorem dX12_worked_16 : decode cX12_worked 16 = .ok (.iaload, 1) := by decide +kernel
theorem dX12_worked_17 : decode cX12_worked 17 = .ok (.iadd, 1) := by decide +kernel
theorem dX12_worked_18 : decode cX12_worked 18 = .ok (.if_icmp .ge 161, 3) := by decide +kernel
theorem dX12_worked_21 : decode cX12_worked 21 = .ok (.aload_n 0, 1) := by decide +kernel
theorem dX12_worked_22 : decode cX12_worked 22 = .ok (.getfield 9, 3) := by decide +kernel
theorem dX12_worked_25 : decode cX12_worked 25 = .ok (.iload 7, 2) := by decide +kernel
theorem dX12_worked_27 : decode cX12_worked 27 = .ok (.iaload, 1) := by decide +kernel
theorem dX12_worked_28 : decode cX12_worked 28 = .ok (.istore 8, 2) := by decide +kernel
theorem dX12_worked_30 : decode cX12_worked 30 = .ok (.iload 8, 2) := by decide +kernel
theorem dX12_worked_32 : decode cX12_worked 32 = .ok (.sipush 20000, 3) := by decide +kernel
theorem dX12_worked_35 : decode cX12_worked 35 = .ok (.if_icmp .ge 68, 3) := by decide +kernel
theorem dX12_worked_38 : decode cX12_worked 38 = .ok (.aload_n 0, 1) := by decide +kernel
theorem dX12_worked_39 : decode cX12_worked 39 = .ok (.getfield 43, 3) := by decide +kernel
theorem dX12_worked_42 : decode cX12_worked 42 = .ok (.iload 6, 2) := by decide +kernel
theorem dX12_worked_44 : decode cX12_worked 44 = .ok (.iload 8, 2) := by decide +kernel
theorem dX12_worked_46 : decode cX12_worked 46 = .ok (.sipush 10000, 3) := by decide +kernel
theorem dX12_worked_49 : decode cX12_worked 49 = .ok (.if_icmp .ge 8, 3) := by decide +kernel
theorem dX12_worked_52 : decode cX12_worked 52 = .ok (.iload 8, 2) := by decide +kernel
theorem dX12_worked_54 : decode cX12_worked 54 = .ok (.goto 42, 3) := by decide +kernel
theorem dX12_worked_57 : decode cX12_worked 57 = .ok (.iload 8, 2) := by decide +kernel
theorem dX12_worked_59 : decode cX12_worked 59 = .ok (.sipush 10000, 3) := by decide +kernel
theorem dX12_worked_62 : decode cX12_worked 62 = .ok (.if_icmp .ne 7, 3) := by decide +kernel
theorem dX12_worked_65 : decode cX12_worked 65 = .ok (.iload_n 2, 1) := by decide +kernel
theorem dX12_worked_66 : decode cX12_worked 66 = .ok (.goto 30, 3) := by decide +kernel
theorem dX12_worked_69 : decode cX12_worked 69 = .ok (.iload 8, 2) := by decide +kernel
theorem dX12_worked_71 : decode cX12_worked 71 = .ok (.sipush 10001, 3) := by decide +kernel
theorem dX12_worked_74 : decode cX12_worked 74 = .ok (.if_icmp .ne 7, 3) := by decide +kernel
theorem dX12_worked_77 : decode cX12_worked 77 = .ok (.iload_n 3, 1) := by decide +kernel
theorem dX12_worked_78 : decode cX12_worked 78 = .ok (.goto 18, 3) := by decide +kernel
theorem dX12_worked_81 : decode cX12_worked 81 = .ok (.iload 8, 2) := by decide +kernel
theorem dX12_worked_83 : decode cX12_worked 83 = .ok (.sipush 10002, 3) := by decide +kernel
theorem dX12_worked_86 : decode cX12_worked 86 = .ok (.if_icmp .ne 8, 3) := by decide +kernel
theorem dX12_worked_89 : decode cX12_worked 89 = .ok (.iload 4, 2) := by decide +kernel
theorem dX12_worked_91 : decode cX12_worked 91 = .ok (.goto 5, 3) := by decide +kernel
theorem dX12_worked_94 : decode cX12_worked 94 = .ok (.iload 5, 2) := by decide +kernel
theorem dX12_worked_96 : decode cX12_worked 96 = .ok (.iastore, 1) := by decide +kernel
theorem dX12_worked_97 : decode cX12_worked 97 = .ok (.iinc 6 1, 3) := by decide +kernel
theorem dX12_worked_100 : decode cX12_worked 100 = .ok (.goto 73, 3) := by decide +kernel
theorem dX12_worked_103 : decode cX12_worked 103 = .ok (.iload 8, 2) := by decide +kernel
theorem dX12_worked_105 : decode cX12_worked 105 = .ok (.sipush 20010, 3) := by decide +kernel
theorem dX12_worked_108 : decode cX12_worked 108 = .ok (.if_icmp .ne 32, 3) := by decide +kernel
theorem dX12_worked_111 : decode cX12_worked 111 = .ok (.aload_n 0, 1) := by decide +kernel
theorem dX12_worked_112 : decode cX12_worked 112 = .ok (.getfield 43, 3) := by decide +kernel
theorem dX12_worked_115 : decode cX12_worked 115 = .ok (.iload 6, 2) := by decide +kernel
theorem dX12_worked_117 : decode cX12_worked 117 = .ok (.iconst 1, 1) := by decide +kernel
theorem dX12_worked_118 : decode cX12_worked 118 = .ok (.isub, 1) := by decide +kernel
theorem dX12_worked_119 : decode cX12_worked 119 = .ok (.aload_n 0, 1) := by decide +kernel
theorem dX12_worked_120 : decode cX12_worked 120 = .ok (.getfield 43, 3) := by decide +kernel
theorem dX12_worked_123 : decode cX12_worked 123 = .ok (.iload 6, 2) := by decide +kernel
theorem dX12_worked_125 : decode cX12_worked 125 = .ok (.iconst 1, 1) := by decide +kernel
theorem dX12_worked_126 : decode cX12_worked 126 = .ok (.isub, 1) := by decide +kernel
theorem dX12_worked_127 : decode cX12_worked 127 = .ok (.iaload, 1) := by decide +kernel
theorem dX12_worked_128 : decode cX12_worked 128 = .ok (.ifCond .ne 7, 3) := by decide +kernel
theorem dX12_worked_131 : decode cX12_worked 131 = .ok (.iconst 1, 1) := by decide +kernel
theorem dX12_worked_132 : decode cX12_worked 132 = .ok (.goto 4, 3) := by decide +kernel
theorem dX12_worked_135 : decode cX12_worked 135 = .ok (.iconst 0, 1) := by decide +kernel
theorem dX12_worked_136 : decode cX12_worked 136 = .ok (.iastore, 1) := by decide +kernel
theorem dX12_worked_137 : decode cX12_worked 137 = .ok (.goto 36, 3) := by decide +kernel
theorem dX12_worked_140 : decode cX12_worked 140 = .ok (.iinc 6 (-1), 3) := by decide +kernel
theorem dX12_worked_143 : decode cX12_worked 143 = .ok (.aload_n 0, 1) := by decide +kernel
theorem dX12_worked_144 : decode cX12_worked 144 = .ok (.getfield 43, 3) := by decide +kernel
theorem dX12_worked_147 : decode cX12_worked 147 = .ok (.iload 6, 2) := by decide +kernel
theorem dX12_worked_149 : decode cX12_worked 149 = .ok (.iconst 1, 1) := by decide +kernel
theorem dX12_worked_150 : decode cX12_worked 150 = .ok (.isub, 1) := by decide +kernel
theorem dX12_worked_151 : decode cX12_worked 151 = .ok (.iload 8, 2) := by decide +kernel
theorem dX12_worked_153 : decode cX12_worked 153 = .ok (.aload_n 0, 1) := by decide +kernel
theorem dX12_worked_154 : decode cX12_worked 154 = .ok (.getfield 43, 3) := by decide +kernel
theorem dX12_worked_157 : decode cX12_worked 157 = .ok (.iload 6, 2) := by decide +kernel
theorem dX12_worked_159 : decode cX12_worked 159 = .ok (.iconst 1, 1) := by decide +kernel
theorem dX12_worked_160 : decode cX12_worked 160 = .ok (.isub, 1) := by decide +kernel
theorem dX12_worked_161 : decode cX12_worked 161 = .ok (.iaload, 1) := by decide +kernel
theorem dX12_worked_162 : decode cX12_worked 162 = .ok (.aload_n 0, 1) := by decide +kernel
theorem dX12_worked_163 : decode cX12_worked 163 = .ok (.getfield 43, 3) := by decide +kernel
theorem dX12_worked_166 : decode cX12_worked 166 = .ok (.iload 6, 2) := by decide +kernel
theorem dX12_worked_168 : decode cX12_worked 168 = .ok (.iaload, 1) := by decide +kernel
theorem dX12_worked_169 : decode cX12_worked 169 = .ok (.invokestatic 228, 3) := by decide +kernel
theorem dX12_worked_172 : decode cX12_worked 172 = .ok (.iastore, 1) := by decide +kernel
theorem dX12_worked_173 : decode cX12_worked 173 = .ok (.iinc 7 1, 3) := by decide +kernel
theorem dX12_worked_176 : decode cX12_worked 176 = .ok (.goto (-170), 3) := by decide +kernel
theorem dX12_worked_179 : decode cX12_worked 179 = .ok (.aload_n 0, 1) := by decide +kernel
theorem dX12_worked_180 : decode cX12_worked 180 = .ok (.getfield 43, 3) := by decide +kernel
theorem dX12_worked_183 : decode cX12_worked 183 = .ok (.iconst 0, 1) := by decide +kernel
theorem dX12_worked_184 : decode cX12_worked 184 = .ok (.iaload, 1) := by decide +kernel
theorem dX12_worked_185 : decode cX12_worked 185 = .ok (.ireturn, 1) := by decide +kernel
theorem dX12_held_0 : decode cX12_held 0 = .ok (.iconst 0, 1) := by decide +kernel
theorem dX12_held_1 : decode cX12_held 1 = .ok (.iload_n 1, 1) := by decide +kernel
theorem dX12_held_2 : decode cX12_held 2 = .ok (.iload_n 0, 1) := by decide +kernel
theorem dX12_held_3 : decode cX12_held 3 = .ok (.invokestatic 231, 3) := by decide +kernel
theorem dX12_held_6 : decode cX12_held 6 = .ok (.invokestatic 234, 3) := by decide +kernel
theorem dX12_held_9 : decode cX12_held 9 = .ok (.ireturn, 1) := by decide +kernel
theorem dX12_given_0 : decode cX12_given 0 = .ok (.sipush 252, 3) := by decide +kernel
theorem dX12_given_3 : decode cX12_given 3 = .ok (.bipush 52, 2) := by decide +kernel
theorem dX12_given_5 : decode cX12_given 5 = .ok (.iload_n 1, 1) := by decide +kernel
theorem dX12_given_6 : decode cX12_given 6 = .ok (.imul, 1) := by decide +kernel
theorem dX12_given_7 : decode cX12_given 7 = .ok (.iadd, 1) := by decide +kernel
theorem dX12_given_8 : decode cX12_given 8 = .ok (.iconst 1, 1) := by decide +kernel
theorem dX12_given_9 : decode cX12_given 9 = .ok (.iadd, 1) := by decide +kernel
theorem dX12_given_10 : decode cX12_given 10 = .ok (.istore 6, 2) := by decide +kernel
theorem dX12_given_12 : decode cX12_given 12 = .ok (.aload_n 0, 1) := by decide +kernel
theorem dX12_given_13 : decode cX12_given 13 = .ok (.getfield 9, 3) := by decide +kernel
theorem dX12_given_16 : decode cX12_given 16 = .ok (.iload 6, 2) := by decide +kernel
theorem dX12_given_18 : decode cX12_given 18 = .ok (.iconst 1, 1) := by decide +kernel
theorem dX12_given_19 : decode cX12_given 19 = .ok (.isub, 1) := by decide +kernel
theorem dX12_given_20 : decode cX12_given 20 = .ok (.iaload, 1) := by decide +kernel
theorem dX12_given_21 : decode cX12_given 21 = .ok (.ifCond .le 7, 3) := by decide +kernel
theorem dX12_given_24 : decode cX12_given 24 = .ok (.iconst 1, 1) := by decide +kernel
theorem dX12_given_25 : decode cX12_given 25 = .ok (.goto 4, 3) := by decide +kernel
theorem dX12_given_28 : decode cX12_given 28 = .ok (.iconst 0, 1) := by decide +kernel
theorem dX12_given_29 : decode cX12_given 29 = .ok (.istore 7, 2) := by decide +kernel
theorem dX12_given_31 : decode cX12_given 31 = .ok (.iload 7, 2) := by decide +kernel
theorem dX12_given_33 : decode cX12_given 33 = .ok (.ifCond .eq 18, 3) := by decide +kernel
theorem dX12_given_36 : decode cX12_given 36 = .ok (.aload_n 0, 1) := by decide +kernel
theorem dX12_given_37 : decode cX12_given 37 = .ok (.iload 6, 2) := by decide +kernel
theorem dX12_given_39 : decode cX12_given 39 = .ok (.iload_n 2, 1) := by decide +kernel
theorem dX12_given_40 : decode cX12_given 40 = .ok (.iload_n 3, 1) := by decide +kernel
theorem dX12_given_41 : decode cX12_given 41 = .ok (.iload 4, 2) := by decide +kernel
theorem dX12_given_43 : decode cX12_given 43 = .ok (.iload 5, 2) := by decide +kernel
theorem dX12_given_45 : decode cX12_given 45 = .ok (.invokevirtual 237, 3) := by decide +kernel
theorem dX12_given_48 : decode cX12_given 48 = .ok (.goto 4, 3) := by decide +kernel
theorem dX12_given_51 : decode cX12_given 51 = .ok (.iconst 0, 1) := by decide +kernel
theorem dX12_given_52 : decode cX12_given 52 = .ok (.istore 8, 2) := by decide +kernel
theorem dX12_given_54 : decode cX12_given 54 = .ok (.iload_n 1, 1) := by decide +kernel
theorem dX12_given_55 : decode cX12_given 55 = .ok (.lookupswitch 72 #[(0, 25), (1, 49)], 25) := by decide +kernel
theorem dX12_given_80 : decode cX12_given 80 = .ok (.iload 7, 2) := by decide +kernel
theorem dX12_given_82 : decode cX12_given 82 = .ok (.ifCond .eq 11, 3) := by decide +kernel
theorem dX12_given_85 : decode cX12_given 85 = .ok (.iload 8, 2) := by decide +kernel
theorem dX12_given_87 : decode cX12_given 87 = .ok (.ifCond .eq 15, 3) := by decide +kernel
theorem dX12_given_90 : decode cX12_given 90 = .ok (.goto 8, 3) := by decide +kernel
theorem dX12_given_93 : decode cX12_given 93 = .ok (.iload_n 2, 1) := by decide +kernel
theorem dX12_given_94 : decode cX12_given 94 = .ok (.iload_n 3, 1) := by decide +kernel
theorem dX12_given_95 : decode cX12_given 95 = .ok (.if_icmp .ge 7, 3) := by decide +kernel
theorem dX12_given_98 : decode cX12_given 98 = .ok (.iconst 1, 1) := by decide +kernel
theorem dX12_given_99 : decode cX12_given 99 = .ok (.goto 4, 3) := by decide +kernel
theorem dX12_given_102 : decode cX12_given 102 = .ok (.iconst 0, 1) := by decide +kernel
theorem dX12_given_103 : decode cX12_given 103 = .ok (.ireturn, 1) := by decide +kernel
theorem dX12_given_104 : decode cX12_given 104 = .ok (.iload 7, 2) := by decide +kernel
theorem dX12_given_106 : decode cX12_given 106 = .ok (.ifCond .eq 8, 3) := by decide +kernel
theorem dX12_given_109 : decode cX12_given 109 = .ok (.iload 8, 2) := by decide +kernel
theorem dX12_given_111 : decode cX12_given 111 = .ok (.goto 10, 3) := by decide +kernel
theorem dX12_given_114 : decode cX12_given 114 = .ok (.iconst 3, 1) := by decide +kernel
theorem dX12_given_115 : decode cX12_given 115 = .ok (.iload_n 2, 1) := by decide +kernel
theorem dX12_given_116 : decode cX12_given 116 = .ok (.isub, 1) := by decide +kernel
theorem dX12_given_117 : decode cX12_given 117 = .ok (.iconst 4, 1) := by decide +kernel
theorem dX12_given_118 : decode cX12_given 118 = .ok (.imul, 1) := by decide +kernel
theorem dX12_given_119 : decode cX12_given 119 = .ok (.iload_n 3, 1) := by decide +kernel
theorem dX12_given_120 : decode cX12_given 120 = .ok (.isub, 1) := by decide +kernel
theorem dX12_given_121 : decode cX12_given 121 = .ok (.bipush 100, 2) := by decide +kernel
theorem dX12_given_123 : decode cX12_given 123 = .ok (.invokestatic 240, 3) := by decide +kernel
theorem dX12_given_126 : decode cX12_given 126 = .ok (.ireturn, 1) := by decide +kernel
theorem dX12_given_127 : decode cX12_given 127 = .ok (.iload 8, 2) := by decide +kernel
theorem dX12_given_129 : decode cX12_given 129 = .ok (.bipush 20, 2) := by decide +kernel
theorem dX12_given_131 : decode cX12_given 131 = .ok (.invokestatic 240, 3) := by decide +kernel
theorem dX12_given_134 : decode cX12_given 134 = .ok (.ireturn, 1) := by decide +kernel
theorem dX12_law_0 : decode cX12_law 0 = .ok (.iload_n 1, 1) := by decide +kernel
theorem dX12_law_1 : decode cX12_law 1 = .ok (.iconst 0, 1) := by decide +kernel
theorem dX12_law_2 : decode cX12_law 2 = .ok (.iconst 2, 1) := by decide +kernel
theorem dX12_law_3 : decode cX12_law 3 = .ok (.invokestatic 76, 3) := by decide +kernel
theorem dX12_law_6 : decode cX12_law 6 = .ok (.ifCond .eq 16, 3) := by decide +kernel
theorem dX12_law_9 : decode cX12_law 9 = .ok (.aload_n 0, 1) := by decide +kernel
theorem dX12_law_10 : decode cX12_law 10 = .ok (.iload_n 1, 1) := by decide +kernel
theorem dX12_law_11 : decode cX12_law 11 = .ok (.iload_n 2, 1) := by decide +kernel
theorem dX12_law_12 : decode cX12_law 12 = .ok (.iload_n 3, 1) := by decide +kernel
theorem dX12_law_13 : decode cX12_law 13 = .ok (.iload 4, 2) := by decide +kernel
theorem dX12_law_15 : decode cX12_law 15 = .ok (.iconst 0, 1) := by decide +kernel
theorem dX12_law_16 : decode cX12_law 16 = .ok (.invokevirtual 243, 3) := by decide +kernel
theorem dX12_law_19 : decode cX12_law 19 = .ok (.goto 9, 3) := by decide +kernel
theorem dX12_law_22 : decode cX12_law 22 = .ok (.aload_n 0, 1) := by decide +kernel
theorem dX12_law_23 : decode cX12_law 23 = .ok (.ldc 89, 2) := by decide +kernel
theorem dX12_law_25 : decode cX12_law 25 = .ok (.invokevirtual 90, 3) := by decide +kernel
theorem dX12_law_28 : decode cX12_law 28 = .ok (.ireturn, 1) := by decide +kernel
theorem dX12_rate_0 : decode cX12_rate 0 = .ok (.iload_n 1, 1) := by decide +kernel
theorem dX12_rate_1 : decode cX12_rate 1 = .ok (.iconst 0, 1) := by decide +kernel
theorem dX12_rate_2 : decode cX12_rate 2 = .ok (.iconst 5, 1) := by decide +kernel
theorem dX12_rate_3 : decode cX12_rate 3 = .ok (.invokestatic 76, 3) := by decide +kernel
theorem dX12_rate_6 : decode cX12_rate 6 = .ok (.ifCond .eq 34, 3) := by decide +kernel
theorem dX12_rate_9 : decode cX12_rate 9 = .ok (.iload_n 2, 1) := by decide +kernel
theorem dX12_rate_10 : decode cX12_rate 10 = .ok (.aload_n 0, 1) := by decide +kernel
theorem dX12_rate_11 : decode cX12_rate 11 = .ok (.getfield 47, 3) := by decide +kernel
theorem dX12_rate_14 : decode cX12_rate 14 = .ok (.iload_n 1, 1) := by decide +kernel
theorem dX12_rate_15 : decode cX12_rate 15 = .ok (.iaload, 1) := by decide +kernel
theorem dX12_rate_16 : decode cX12_rate 16 = .ok (.aload_n 0, 1) := by decide +kernel
theorem dX12_rate_17 : decode cX12_rate 17 = .ok (.getfield 51, 3) := by decide +kernel
theorem dX12_rate_20 : decode cX12_rate 20 = .ok (.iload_n 1, 1) := by decide +kernel
theorem dX12_rate_21 : decode cX12_rate 21 = .ok (.iaload, 1) := by decide +kernel
theorem dX12_rate_22 : decode cX12_rate 22 = .ok (.invokestatic 76, 3) := by decide +kernel
theorem dX12_rate_25 : decode cX12_rate 25 = .ok (.ifCond .eq 15, 3) := by decide +kernel
theorem dX12_rate_28 : decode cX12_rate 28 = .ok (.aload_n 0, 1) := by decide +kernel
theorem dX12_rate_29 : decode cX12_rate 29 = .ok (.bipush 7, 2) := by decide +kernel
theorem dX12_rate_31 : decode cX12_rate 31 = .ok (.iload_n 1, 1) := by decide +kernel
theorem dX12_rate_32 : decode cX12_rate 32 = .ok (.iadd, 1) := by decide +kernel
theorem dX12_rate_33 : decode cX12_rate 33 = .ok (.iload_n 2, 1) := by decide +kernel
theorem dX12_rate_34 : decode cX12_rate 34 = .ok (.invokevirtual 113, 3) := by decide +kernel
theorem dX12_rate_37 : decode cX12_rate 37 = .ok (.goto 9, 3) := by decide +kernel
theorem dX12_rate_40 : decode cX12_rate 40 = .ok (.aload_n 0, 1) := by decide +kernel
theorem dX12_rate_41 : decode cX12_rate 41 = .ok (.ldc 89, 2) := by decide +kernel
theorem dX12_rate_43 : decode cX12_rate 43 = .ok (.invokevirtual 90, 3) := by decide +kernel
theorem dX12_rate_46 : decode cX12_rate 46 = .ok (.ireturn, 1) := by decide +kernel
theorem dX12_shuts_0 : decode cX12_shuts 0 = .ok (.iconst 0, 1) := by decide +kernel
theorem dX12_shuts_1 : decode cX12_shuts 1 = .ok (.istore_n 1, 1) := by decide +kernel
theorem dX12_shuts_2 : decode cX12_shuts 2 = .ok (.iload_n 1, 1) := by decide +kernel
theorem dX12_shuts_3 : decode cX12_shuts 3 = .ok (.aload_n 0, 1) := by decide +kernel
theorem dX12_shuts_4 : decode cX12_shuts 4 = .ok (.getfield 9, 3) := by decide +kernel
theorem dX12_shuts_7 : decode cX12_shuts 7 = .ok (.iconst 2, 1) := by decide +kernel
theorem dX12_shuts_8 : decode cX12_shuts 8 = .ok (.iaload, 1) := by decide +kernel
theorem dX12_shuts_9 : decode cX12_shuts 9 = .ok (.if_icmp .ge 70, 3) := by decide +kernel
theorem dX12_shuts_12 : decode cX12_shuts 12 = .ok (.aload_n 0, 1) := by decide +kernel
theorem dX12_shuts_13 : decode cX12_shuts 13 = .ok (.iload_n 1, 1) := by decide +kernel
theorem dX12_shuts_14 : decode cX12_shuts 14 = .ok (.invokevirtual 158, 3) := by decide +kernel
theorem dX12_shuts_17 : decode cX12_shuts 17 = .ok (.ifCond .eq 56, 3) := by decide +kernel
theorem dX12_shuts_20 : decode cX12_shuts 20 = .ok (.aload_n 0, 1) := by decide +kernel
theorem dX12_shuts_21 : decode cX12_shuts 21 = .ok (.iload_n 1, 1) := by decide +kernel
theorem dX12_shuts_22 : decode cX12_shuts 22 = .ok (.bipush 6, 2) := by decide +kernel
theorem dX12_shuts_24 : decode cX12_shuts 24 = .ok (.invokevirtual 136, 3) := by decide +kernel
theorem dX12_shuts_27 : decode cX12_shuts 27 = .ok (.aload_n 0, 1) := by decide +kernel
theorem dX12_shuts_28 : decode cX12_shuts 28 = .ok (.getfield 9, 3) := by decide +kernel
theorem dX12_shuts_31 : decode cX12_shuts 31 = .ok (.iconst 0, 1) := by decide +kernel
theorem dX12_shuts_32 : decode cX12_shuts 32 = .ok (.iaload, 1) := by decide +kernel
theorem dX12_shuts_33 : decode cX12_shuts 33 = .ok (.if_icmp .ge 40, 3) := by decide +kernel
theorem dX12_shuts_36 : decode cX12_shuts 36 = .ok (.aload_n 0, 1) := by decide +kernel
theorem dX12_shuts_37 : decode cX12_shuts 37 = .ok (.iconst 0, 1) := by decide +kernel
theorem dX12_shuts_38 : decode cX12_shuts 38 = .ok (.aload_n 0, 1) := by decide +kernel
theorem dX12_shuts_39 : decode cX12_shuts 39 = .ok (.iload_n 1, 1) := by decide +kernel
theorem dX12_shuts_40 : decode cX12_shuts 40 = .ok (.invokevirtual 149, 3) := by decide +kernel
theorem dX12_shuts_43 : decode cX12_shuts 43 = .ok (.aload_n 0, 1) := by decide +kernel
theorem dX12_shuts_44 : decode cX12_shuts 44 = .ok (.iload_n 1, 1) := by decide +kernel
theorem dX12_shuts_45 : decode cX12_shuts 45 = .ok (.iconst 3, 1) := by decide +kernel
theorem dX12_shuts_46 : decode cX12_shuts 46 = .ok (.invokevirtual 136, 3) := by decide +kernel
theorem dX12_shuts_49 : decode cX12_shuts 49 = .ok (.aload_n 0, 1) := by decide +kernel
theorem dX12_shuts_50 : decode cX12_shuts 50 = .ok (.iload_n 1, 1) := by decide +kernel
theorem dX12_shuts_51 : decode cX12_shuts 51 = .ok (.iconst 2, 1) := by decide +kernel
theorem dX12_shuts_52 : decode cX12_shuts 52 = .ok (.invokevirtual 136, 3) := by decide +kernel
theorem dX12_shuts_55 : decode cX12_shuts 55 = .ok (.aload_n 0, 1) := by decide +kernel
theorem dX12_shuts_56 : decode cX12_shuts 56 = .ok (.getfield 9, 3) := by decide +kernel
theorem dX12_shuts_59 : decode cX12_shuts 59 = .ok (.iconst 0, 1) := by decide +kernel
theorem dX12_shuts_60 : decode cX12_shuts 60 = .ok (.iaload, 1) := by decide +kernel
theorem dX12_shuts_61 : decode cX12_shuts 61 = .ok (.invokevirtual 243, 3) := by decide +kernel
theorem dX12_shuts_64 : decode cX12_shuts 64 = .ok (.ifCond .eq 9, 3) := by decide +kernel
theorem dX12_shuts_67 : decode cX12_shuts 67 = .ok (.aload_n 0, 1) := by decide +kernel
theorem dX12_shuts_68 : decode cX12_shuts 68 = .ok (.iload_n 1, 1) := by decide +kernel
theorem dX12_shuts_69 : decode cX12_shuts 69 = .ok (.iconst 0, 1) := by decide +kernel
theorem dX12_shuts_70 : decode cX12_shuts 70 = .ok (.invokevirtual 246, 3) := by decide +kernel
theorem dX12_shuts_73 : decode cX12_shuts 73 = .ok (.iinc 1 1, 3) := by decide +kernel
theorem dX12_shuts_76 : decode cX12_shuts 76 = .ok (.goto (-74), 3) := by decide +kernel
theorem dX12_shuts_79 : decode cX12_shuts 79 = .ok (.return_, 1) := by decide +kernel
theorem dX12_change_0 : decode cX12_change 0 = .ok (.bipush 16, 2) := by decide +kernel
theorem dX12_change_2 : decode cX12_change 2 = .ok (.iconst 4, 1) := by decide +kernel
theorem dX12_change_3 : decode cX12_change 3 = .ok (.iload_n 1, 1) := by decide +kernel
theorem dX12_change_4 : decode cX12_change 4 = .ok (.imul, 1) := by decide +kernel
theorem dX12_change_5 : decode cX12_change 5 = .ok (.iadd, 1) := by decide +kernel
theorem dX12_change_6 : decode cX12_change 6 = .ok (.iconst 1, 1) := by decide +kernel
theorem dX12_change_7 : decode cX12_change 7 = .ok (.iadd, 1) := by decide +kernel
theorem dX12_change_8 : decode cX12_change 8 = .ok (.iload_n 2, 1) := by decide +kernel
theorem dX12_change_9 : decode cX12_change 9 = .ok (.iadd, 1) := by decide +kernel
theorem dX12_change_10 : decode cX12_change 10 = .ok (.istore 5, 2) := by decide +kernel
theorem dX12_change_12 : decode cX12_change 12 = .ok (.aload_n 0, 1) := by decide +kernel
theorem dX12_change_13 : decode cX12_change 13 = .ok (.getfield 9, 3) := by decide +kernel
theorem dX12_change_16 : decode cX12_change 16 = .ok (.iload 5, 2) := by decide +kernel
theorem dX12_change_18 : decode cX12_change 18 = .ok (.lconst 0, 1) := by decide +kernel
theorem dX12_change_19 : decode cX12_change 19 = .ok (.ldc2_w 250, 3) := by decide +kernel
theorem dX12_change_22 : decode cX12_change 22 = .ok (.aload_n 0, 1) := by decide +kernel
theorem dX12_change_23 : decode cX12_change 23 = .ok (.getfield 9, 3) := by decide +kernel
theorem dX12_change_26 : decode cX12_change 26 = .ok (.iload 5, 2) := by decide +kernel
theorem dX12_change_28 : decode cX12_change 28 = .ok (.iaload, 1) := by decide +kernel
theorem dX12_change_29 : decode cX12_change 29 = .ok (.i2l, 1) := by decide +kernel
theorem dX12_change_30 : decode cX12_change 30 = .ok (.lload_n 3, 1) := by decide +kernel
theorem dX12_change_31 : decode cX12_change 31 = .ok (.ladd, 1) := by decide +kernel
theorem dX12_change_32 : decode cX12_change 32 = .ok (.invokestatic 252, 3) := by decide +kernel
theorem dX12_change_35 : decode cX12_change 35 = .ok (.invokestatic 255, 3) := by decide +kernel
theorem dX12_change_38 : decode cX12_change 38 = .ok (.l2i, 1) := by decide +kernel
theorem dX12_change_39 : decode cX12_change 39 = .ok (.iastore, 1) := by decide +kernel
theorem dX12_change_40 : decode cX12_change 40 = .ok (.return_, 1) := by decide +kernel
theorem dX12_goes_0 : decode cX12_goes 0 = .ok (.aload_n 0, 1) := by decide +kernel
theorem dX12_goes_1 : decode cX12_goes 1 = .ok (.invokevirtual 167, 3) := by decide +kernel
theorem dX12_goes_4 : decode cX12_goes 4 = .ok (.istore_n 1, 1) := by decide +kernel
theorem dX12_goes_5 : decode cX12_goes 5 = .ok (.iconst 0, 1) := by decide +kernel
theorem dX12_goes_6 : decode cX12_goes 6 = .ok (.istore_n 2, 1) := by decide +kernel
theorem dX12_goes_7 : decode cX12_goes 7 = .ok (.iload_n 2, 1) := by decide +kernel
theorem dX12_goes_8 : decode cX12_goes 8 = .ok (.iconst 3, 1) := by decide +kernel
theorem dX12_goes_9 : decode cX12_goes 9 = .ok (.if_icmp .ge 16, 3) := by decide +kernel
theorem dX12_goes_12 : decode cX12_goes 12 = .ok (.aload_n 0, 1) := by decide +kernel
theorem dX12_goes_13 : decode cX12_goes 13 = .ok (.getfield 54, 3) := by decide +kernel
theorem dX12_goes_16 : decode cX12_goes 16 = .ok (.iload_n 2, 1) := by decide +kernel
theorem dX12_goes_17 : decode cX12_goes 17 = .ok (.iconst 0, 1) := by decide +kernel
theorem dX12_goes_18 : decode cX12_goes 18 = .ok (.iastore, 1) := by decide +kernel
theorem dX12_goes_19 : decode cX12_goes 19 = .ok (.iinc 2 1, 3) := by decide +kernel
theorem dX12_goes_22 : decode cX12_goes 22 = .ok (.goto (-15), 3) := by decide +kernel
theorem dX12_goes_25 : decode cX12_goes 25 = .ok (.iconst 0, 1) := by decide +kernel
theorem dX12_goes_26 : decode cX12_goes 26 = .ok (.istore_n 2, 1) := by decide +kernel
theorem dX12_goes_27 : decode cX12_goes 27 = .ok (.iload_n 2, 1) := by decide +kernel
theorem dX12_goes_28 : decode cX12_goes 28 = .ok (.aload_n 0, 1) := by decide +kernel
theorem dX12_goes_29 : decode cX12_goes 29 = .ok (.getfield 9, 3) := by decide +kernel
theorem dX12_goes_32 : decode cX12_goes 32 = .ok (.iconst 1, 1) := by decide +kernel
theorem dX12_goes_33 : decode cX12_goes 33 = .ok (.iaload, 1) := by decide +kernel
theorem dX12_goes_34 : decode cX12_goes 34 = .ok (.if_icmp .ge 92, 3) := by decide +kernel
theorem dX12_goes_37 : decode cX12_goes 37 = .ok (.aload_n 0, 1) := by decide +kernel
theorem dX12_goes_38 : decode cX12_goes 38 = .ok (.iload_n 2, 1) := by decide +kernel
theorem dX12_goes_39 : decode cX12_goes 39 = .ok (.invokevirtual 107, 3) := by decide +kernel
theorem dX12_goes_42 : decode cX12_goes 42 = .ok (.istore_n 3, 1) := by decide +kernel
theorem dX12_goes_43 : decode cX12_goes 43 = .ok (.iconst 0, 1) := by decide +kernel
theorem dX12_goes_44 : decode cX12_goes 44 = .ok (.istore 4, 2) := by decide +kernel
theorem dX12_goes_46 : decode cX12_goes 46 = .ok (.iload 4, 2) := by decide +kernel
theorem dX12_goes_48 : decode cX12_goes 48 = .ok (.iconst 3, 1) := by decide +kernel
theorem dX12_goes_49 : decode cX12_goes 49 = .ok (.if_icmp .ge 71, 3) := by decide +kernel
theorem dX12_goes_52 : decode cX12_goes 52 = .ok (.aload_n 0, 1) := by decide +kernel
theorem dX12_goes_53 : decode cX12_goes 53 = .ok (.iload_n 2, 1) := by decide +kernel
theorem dX12_goes_54 : decode cX12_goes 54 = .ok (.iload 4, 2) := by decide +kernel
theorem dX12_goes_56 : decode cX12_goes 56 = .ok (.invokevirtual 99, 3) := by decide +kernel
theorem dX12_goes_59 : decode cX12_goes 59 = .ok (.aload_n 0, 1) := by decide +kernel
theorem dX12_goes_60 : decode cX12_goes 60 = .ok (.iconst 1, 1) := by decide +kernel
theorem dX12_goes_61 : decode cX12_goes 61 = .ok (.iload 4, 2) := by decide +kernel
theorem dX12_goes_63 : decode cX12_goes 63 = .ok (.aload_n 0, 1) := by decide +kernel
theorem dX12_goes_64 : decode cX12_goes 64 = .ok (.getfield 25, 3) := by decide +kernel
theorem dX12_goes_67 : decode cX12_goes 67 = .ok (.iload_n 2, 1) := by decide +kernel
theorem dX12_goes_68 : decode cX12_goes 68 = .ok (.iaload, 1) := by decide +kernel
theorem dX12_goes_69 : decode cX12_goes 69 = .ok (.iload_n 3, 1) := by decide +kernel
theorem dX12_goes_70 : decode cX12_goes 70 = .ok (.iconst 0, 1) := by decide +kernel
theorem dX12_goes_71 : decode cX12_goes 71 = .ok (.invokevirtual 243, 3) := by decide +kernel
theorem dX12_goes_74 : decode cX12_goes 74 = .ok (.imul, 1) := by decide +kernel
theorem dX12_goes_75 : decode cX12_goes 75 = .ok (.bipush 100, 2) := by decide +kernel
theorem dX12_goes_77 : decode cX12_goes 77 = .ok (.idiv, 1) := by decide +kernel
theorem dX12_goes_78 : decode cX12_goes 78 = .ok (.istore 5, 2) := by decide +kernel
theorem dX12_goes_80 : decode cX12_goes 80 = .ok (.aload_n 0, 1) := by decide +kernel
theorem dX12_goes_81 : decode cX12_goes 81 = .ok (.iload_n 2, 1) := by decide +kernel
theorem dX12_goes_82 : decode cX12_goes 82 = .ok (.iload 4, 2) := by decide +kernel
theorem dX12_goes_84 : decode cX12_goes 84 = .ok (.iload 5, 2) := by decide +kernel
theorem dX12_goes_86 : decode cX12_goes 86 = .ok (.ineg, 1) := by decide +kernel
theorem dX12_goes_87 : decode cX12_goes 87 = .ok (.i2l, 1) := by decide +kernel
theorem dX12_goes_88 : decode cX12_goes 88 = .ok (.invokevirtual 257, 3) := by decide +kernel
theorem dX12_goes_91 : decode cX12_goes 91 = .ok (.aload_n 0, 1) := by decide +kernel
theorem dX12_goes_92 : decode cX12_goes 92 = .ok (.getfield 54, 3) := by decide +kernel
theorem dX12_goes_95 : decode cX12_goes 95 = .ok (.iload 4, 2) := by decide +kernel
theorem dX12_goes_97 : decode cX12_goes 97 = .ok (.dup2, 1) := by decide +kernel
theorem dX12_goes_98 : decode cX12_goes 98 = .ok (.iaload, 1) := by decide +kernel
theorem dX12_goes_99 : decode cX12_goes 99 = .ok (.iload_n 2, 1) := by decide +kernel
theorem dX12_goes_100 : decode cX12_goes 100 = .ok (.iload_n 1, 1) := by decide +kernel
theorem dX12_goes_101 : decode cX12_goes 101 = .ok (.if_icmp .ne 7, 3) := by decide +kernel
theorem dX12_goes_104 : decode cX12_goes 104 = .ok (.iconst 0, 1) := by decide +kernel
theorem dX12_goes_105 : decode cX12_goes 105 = .ok (.goto 7, 3) := by decide +kernel
theorem dX12_goes_108 : decode cX12_goes 108 = .ok (.iload 5, 2) := by decide +kernel
theorem dX12_goes_110 : decode cX12_goes 110 = .ok (.iconst 2, 1) := by decide +kernel
theorem dX12_goes_111 : decode cX12_goes 111 = .ok (.idiv, 1) := by decide +kernel
theorem dX12_goes_112 : decode cX12_goes 112 = .ok (.iadd, 1) := by decide +kernel
theorem dX12_goes_113 : decode cX12_goes 113 = .ok (.iastore, 1) := by decide +kernel
theorem dX12_goes_114 : decode cX12_goes 114 = .ok (.iinc 4 1, 3) := by decide +kernel
theorem dX12_goes_117 : decode cX12_goes 117 = .ok (.goto (-71), 3) := by decide +kernel
theorem dX12_goes_120 : decode cX12_goes 120 = .ok (.iinc 2 1, 3) := by decide +kernel
theorem dX12_goes_123 : decode cX12_goes 123 = .ok (.goto (-96), 3) := by decide +kernel
theorem dX12_goes_126 : decode cX12_goes 126 = .ok (.iconst 0, 1) := by decide +kernel
theorem dX12_goes_127 : decode cX12_goes 127 = .ok (.istore_n 2, 1) := by decide +kernel
theorem dX12_goes_128 : decode cX12_goes 128 = .ok (.iload_n 2, 1) := by decide +kernel
theorem dX12_goes_129 : decode cX12_goes 129 = .ok (.iconst 3, 1) := by decide +kernel
theorem dX12_goes_130 : decode cX12_goes 130 = .ok (.if_icmp .ge 31, 3) := by decide +kernel
theorem dX12_goes_133 : decode cX12_goes 133 = .ok (.aload_n 0, 1) := by decide +kernel
theorem dX12_goes_134 : decode cX12_goes 134 = .ok (.getfield 9, 3) := by decide +kernel
theorem dX12_goes_137 : decode cX12_goes 137 = .ok (.iconst 1, 1) := by decide +kernel
theorem dX12_goes_138 : decode cX12_goes 138 = .ok (.iaload, 1) := by decide +kernel
theorem dX12_goes_139 : decode cX12_goes 139 = .ok (.ifCond .le 22, 3) := by decide +kernel
theorem dX12_goes_142 : decode cX12_goes 142 = .ok (.aload_n 0, 1) := by decide +kernel
theorem dX12_goes_143 : decode cX12_goes 143 = .ok (.iload_n 1, 1) := by decide +kernel
theorem dX12_goes_144 : decode cX12_goes 144 = .ok (.iload_n 2, 1) := by decide +kernel
theorem dX12_goes_145 : decode cX12_goes 145 = .ok (.aload_n 0, 1) := by decide +kernel
theorem dX12_goes_146 : decode cX12_goes 146 = .ok (.getfield 54, 3) := by decide +kernel
theorem dX12_goes_149 : decode cX12_goes 149 = .ok (.iload_n 2, 1) := by decide +kernel
theorem dX12_goes_150 : decode cX12_goes 150 = .ok (.iaload, 1) := by decide +kernel
theorem dX12_goes_151 : decode cX12_goes 151 = .ok (.i2l, 1) := by decide +kernel
theorem dX12_goes_152 : decode cX12_goes 152 = .ok (.invokevirtual 257, 3) := by decide +kernel
theorem dX12_goes_155 : decode cX12_goes 155 = .ok (.iinc 2 1, 3) := by decide +kernel
theorem dX12_goes_158 : decode cX12_goes 158 = .ok (.goto (-30), 3) := by decide +kernel
theorem dX12_goes_161 : decode cX12_goes 161 = .ok (.return_, 1) := by decide +kernel
theorem dX12_livesOn_0 : decode cX12_livesOn 0 = .ok (.aload_n 0, 1) := by decide +kernel
theorem dX12_livesOn_1 : decode cX12_livesOn 1 = .ok (.iload_n 1, 1) := by decide +kernel
theorem dX12_livesOn_2 : decode cX12_livesOn 2 = .ok (.iconst 0, 1) := by decide +kernel
theorem dX12_livesOn_3 : decode cX12_livesOn 3 = .ok (.invokevirtual 99, 3) := by decide +kernel
theorem dX12_livesOn_6 : decode cX12_livesOn 6 = .ok (.istore_n 2, 1) := by decide +kernel
theorem dX12_livesOn_7 : decode cX12_livesOn 7 = .ok (.aload_n 0, 1) := by decide +kernel
theorem dX12_livesOn_8 : decode cX12_livesOn 8 = .ok (.iload_n 1, 1) := by decide +kernel
theorem dX12_livesOn_9 : decode cX12_livesOn 9 = .ok (.iconst 1, 1) := by decide +kernel
theorem dX12_livesOn_10 : decode cX12_livesOn 10 = .ok (.invokevirtual 99, 3) := by decide +kernel
theorem dX12_livesOn_13 : decode cX12_livesOn 13 = .ok (.istore_n 3, 1) := by decide +kernel
theorem dX12_livesOn_14 : decode cX12_livesOn 14 = .ok (.iload_n 3, 1) := by decide +kernel
theorem dX12_livesOn_15 : decode cX12_livesOn 15 = .ok (.aload_n 0, 1) := by decide +kernel
theorem dX12_livesOn_16 : decode cX12_livesOn 16 = .ok (.getfield 9, 3) := by decide +kernel
theorem dX12_livesOn_19 : decode cX12_livesOn 19 = .ok (.bipush 7, 2) := by decide +kernel
theorem dX12_livesOn_21 : decode cX12_livesOn 21 = .ok (.iaload, 1) := by decide +kernel
theorem dX12_livesOn_22 : decode cX12_livesOn 22 = .ok (.imul, 1) := by decide +kernel
theorem dX12_livesOn_23 : decode cX12_livesOn 23 = .ok (.bipush 100, 2) := by decide +kernel
theorem dX12_livesOn_25 : decode cX12_livesOn 25 = .ok (.idiv, 1) := by decide +kernel
theorem dX12_livesOn_26 : decode cX12_livesOn 26 = .ok (.istore 4, 2) := by decide +kernel
theorem dX12_livesOn_28 : decode cX12_livesOn 28 = .ok (.iload_n 2, 1) := by decide +kernel
theorem dX12_livesOn_29 : decode cX12_livesOn 29 = .ok (.aload_n 0, 1) := by decide +kernel
theorem dX12_livesOn_30 : decode cX12_livesOn 30 = .ok (.getfield 9, 3) := by decide +kernel
theorem dX12_livesOn_33 : decode cX12_livesOn 33 = .ok (.bipush 8, 2) := by decide +kernel
theorem dX12_livesOn_35 : decode cX12_livesOn 35 = .ok (.iaload, 1) := by decide +kernel
theorem dX12_livesOn_36 : decode cX12_livesOn 36 = .ok (.imul, 1) := by decide +kernel
theorem dX12_livesOn_37 : decode cX12_livesOn 37 = .ok (.bipush 100, 2) := by decide +kernel
theorem dX12_livesOn_39 : decode cX12_livesOn 39 = .ok (.idiv, 1) := by decide +kernel
theorem dX12_livesOn_40 : decode cX12_livesOn 40 = .ok (.istore 5, 2) := by decide +kernel
theorem dX12_livesOn_42 : decode cX12_livesOn 42 = .ok (.iload_n 3, 1) := by decide +kernel
theorem dX12_livesOn_43 : decode cX12_livesOn 43 = .ok (.aload_n 0, 1) := by decide +kernel
theorem dX12_livesOn_44 : decode cX12_livesOn 44 = .ok (.getfield 9, 3) := by decide +kernel
theorem dX12_livesOn_47 : decode cX12_livesOn 47 = .ok (.bipush 9, 2) := by decide +kernel
theorem dX12_livesOn_49 : decode cX12_livesOn 49 = .ok (.iaload, 1) := by decide +kernel
theorem dX12_livesOn_50 : decode cX12_livesOn 50 = .ok (.imul, 1) := by decide +kernel
theorem dX12_livesOn_51 : decode cX12_livesOn 51 = .ok (.bipush 100, 2) := by decide +kernel
theorem dX12_livesOn_53 : decode cX12_livesOn 53 = .ok (.idiv, 1) := by decide +kernel
theorem dX12_livesOn_54 : decode cX12_livesOn 54 = .ok (.istore 6, 2) := by decide +kernel
theorem dX12_livesOn_56 : decode cX12_livesOn 56 = .ok (.aload_n 0, 1) := by decide +kernel
theorem dX12_livesOn_57 : decode cX12_livesOn 57 = .ok (.iload_n 1, 1) := by decide +kernel
theorem dX12_livesOn_58 : decode cX12_livesOn 58 = .ok (.iconst 0, 1) := by decide +kernel
theorem dX12_livesOn_59 : decode cX12_livesOn 59 = .ok (.iload 4, 2) := by decide +kernel
theorem dX12_livesOn_61 : decode cX12_livesOn 61 = .ok (.iload 5, 2) := by decide +kernel
theorem dX12_livesOn_63 : decode cX12_livesOn 63 = .ok (.isub, 1) := by decide +kernel
theorem dX12_livesOn_64 : decode cX12_livesOn 64 = .ok (.i2l, 1) := by decide +kernel
theorem dX12_livesOn_65 : decode cX12_livesOn 65 = .ok (.invokevirtual 257, 3) := by decide +kernel
theorem dX12_livesOn_68 : decode cX12_livesOn 68 = .ok (.aload_n 0, 1) := by decide +kernel
theorem dX12_livesOn_69 : decode cX12_livesOn 69 = .ok (.iload_n 1, 1) := by decide +kernel
theorem dX12_livesOn_70 : decode cX12_livesOn 70 = .ok (.iconst 1, 1) := by decide +kernel
theorem dX12_livesOn_71 : decode cX12_livesOn 71 = .ok (.iload 5, 2) := by decide +kernel
theorem dX12_livesOn_73 : decode cX12_livesOn 73 = .ok (.iload 6, 2) := by decide +kernel
theorem dX12_livesOn_75 : decode cX12_livesOn 75 = .ok (.isub, 1) := by decide +kernel
theorem dX12_livesOn_76 : decode cX12_livesOn 76 = .ok (.i2l, 1) := by decide +kernel
theorem dX12_livesOn_77 : decode cX12_livesOn 77 = .ok (.invokevirtual 257, 3) := by decide +kernel
theorem dX12_livesOn_80 : decode cX12_livesOn 80 = .ok (.aload_n 0, 1) := by decide +kernel
theorem dX12_livesOn_81 : decode cX12_livesOn 81 = .ok (.iload_n 1, 1) := by decide +kernel
theorem dX12_livesOn_82 : decode cX12_livesOn 82 = .ok (.iconst 2, 1) := by decide +kernel
theorem dX12_livesOn_83 : decode cX12_livesOn 83 = .ok (.iload 6, 2) := by decide +kernel
theorem dX12_livesOn_85 : decode cX12_livesOn 85 = .ok (.aload_n 0, 1) := by decide +kernel
theorem dX12_livesOn_86 : decode cX12_livesOn 86 = .ok (.iload_n 1, 1) := by decide +kernel
theorem dX12_livesOn_87 : decode cX12_livesOn 87 = .ok (.iconst 2, 1) := by decide +kernel
theorem dX12_livesOn_88 : decode cX12_livesOn 88 = .ok (.invokevirtual 99, 3) := by decide +kernel
theorem dX12_livesOn_91 : decode cX12_livesOn 91 = .ok (.aload_n 0, 1) := by decide +kernel
theorem dX12_livesOn_92 : decode cX12_livesOn 92 = .ok (.getfield 9, 3) := by decide +kernel
theorem dX12_livesOn_95 : decode cX12_livesOn 95 = .ok (.bipush 10, 2) := by decide +kernel
theorem dX12_livesOn_97 : decode cX12_livesOn 97 = .ok (.iaload, 1) := by decide +kernel
theorem dX12_livesOn_98 : decode cX12_livesOn 98 = .ok (.imul, 1) := by decide +kernel
theorem dX12_livesOn_99 : decode cX12_livesOn 99 = .ok (.bipush 100, 2) := by decide +kernel
theorem dX12_livesOn_101 : decode cX12_livesOn 101 = .ok (.idiv, 1) := by decide +kernel
theorem dX12_livesOn_102 : decode cX12_livesOn 102 = .ok (.isub, 1) := by decide +kernel
theorem dX12_livesOn_103 : decode cX12_livesOn 103 = .ok (.i2l, 1) := by decide +kernel
theorem dX12_livesOn_104 : decode cX12_livesOn 104 = .ok (.invokevirtual 257, 3) := by decide +kernel
theorem dX12_livesOn_107 : decode cX12_livesOn 107 = .ok (.return_, 1) := by decide +kernel
theorem dX12_year_0 : decode cX12_year 0 = .ok (.aload_n 0, 1) := by decide +kernel
theorem dX12_year_1 : decode cX12_year 1 = .ok (.invokevirtual 261, 3) := by decide +kernel
theorem dX12_year_4 : decode cX12_year 4 = .ok (.aload_n 0, 1) := by decide +kernel
theorem dX12_year_5 : decode cX12_year 5 = .ok (.invokevirtual 164, 3) := by decide +kernel
theorem dX12_year_8 : decode cX12_year 8 = .ok (.aload_n 0, 1) := by decide +kernel
theorem dX12_year_9 : decode cX12_year 9 = .ok (.invokevirtual 264, 3) := by decide +kernel
theorem dX12_year_12 : decode cX12_year 12 = .ok (.iconst 0, 1) := by decide +kernel
theorem dX12_year_13 : decode cX12_year 13 = .ok (.istore_n 1, 1) := by decide +kernel
theorem dX12_year_14 : decode cX12_year 14 = .ok (.iload_n 1, 1) := by decide +kernel
theorem dX12_year_15 : decode cX12_year 15 = .ok (.aload_n 0, 1) := by decide +kernel
theorem dX12_year_16 : decode cX12_year 16 = .ok (.getfield 9, 3) := by decide +kernel
theorem dX12_year_19 : decode cX12_year 19 = .ok (.iconst 1, 1) := by decide +kernel
theorem dX12_year_20 : decode cX12_year 20 = .ok (.iaload, 1) := by decide +kernel
theorem dX12_year_21 : decode cX12_year 21 = .ok (.if_icmp .ge 43, 3) := by decide +kernel
theorem dX12_year_24 : decode cX12_year 24 = .ok (.aload_n 0, 1) := by decide +kernel
theorem dX12_year_25 : decode cX12_year 25 = .ok (.iload_n 1, 1) := by decide +kernel
theorem dX12_year_26 : decode cX12_year 26 = .ok (.iconst 1, 1) := by decide +kernel
theorem dX12_year_27 : decode cX12_year 27 = .ok (.aload_n 0, 1) := by decide +kernel
theorem dX12_year_28 : decode cX12_year 28 = .ok (.iload_n 1, 1) := by decide +kernel
theorem dX12_year_29 : decode cX12_year 29 = .ok (.invokevirtual 107, 3) := by decide +kernel
theorem dX12_year_32 : decode cX12_year 32 = .ok (.aload_n 0, 1) := by decide +kernel
theorem dX12_year_33 : decode cX12_year 33 = .ok (.iconst 2, 1) := by decide +kernel
theorem dX12_year_34 : decode cX12_year 34 = .ok (.aload_n 0, 1) := by decide +kernel
theorem dX12_year_35 : decode cX12_year 35 = .ok (.getfield 25, 3) := by decide +kernel
theorem dX12_year_38 : decode cX12_year 38 = .ok (.iload_n 1, 1) := by decide +kernel
theorem dX12_year_39 : decode cX12_year 39 = .ok (.iaload, 1) := by decide +kernel
theorem dX12_year_40 : decode cX12_year 40 = .ok (.aload_n 0, 1) := by decide +kernel
theorem dX12_year_41 : decode cX12_year 41 = .ok (.iload_n 1, 1) := by decide +kernel
theorem dX12_year_42 : decode cX12_year 42 = .ok (.invokevirtual 107, 3) := by decide +kernel
theorem dX12_year_45 : decode cX12_year 45 = .ok (.iconst 0, 1) := by decide +kernel
theorem dX12_year_46 : decode cX12_year 46 = .ok (.iconst 0, 1) := by decide +kernel
theorem dX12_year_47 : decode cX12_year 47 = .ok (.invokevirtual 243, 3) := by decide +kernel
theorem dX12_year_50 : decode cX12_year 50 = .ok (.imul, 1) := by decide +kernel
theorem dX12_year_51 : decode cX12_year 51 = .ok (.bipush 100, 2) := by decide +kernel
theorem dX12_year_53 : decode cX12_year 53 = .ok (.idiv, 1) := by decide +kernel
theorem dX12_year_54 : decode cX12_year 54 = .ok (.i2l, 1) := by decide +kernel
theorem dX12_year_55 : decode cX12_year 55 = .ok (.invokevirtual 257, 3) := by decide +kernel
theorem dX12_year_58 : decode cX12_year 58 = .ok (.iinc 1 1, 3) := by decide +kernel
theorem dX12_year_61 : decode cX12_year 61 = .ok (.goto (-47), 3) := by decide +kernel
theorem dX12_year_64 : decode cX12_year 64 = .ok (.iconst 0, 1) := by decide +kernel
theorem dX12_year_65 : decode cX12_year 65 = .ok (.istore_n 1, 1) := by decide +kernel
theorem dX12_year_66 : decode cX12_year 66 = .ok (.iload_n 1, 1) := by decide +kernel
theorem dX12_year_67 : decode cX12_year 67 = .ok (.aload_n 0, 1) := by decide +kernel
theorem dX12_year_68 : decode cX12_year 68 = .ok (.getfield 9, 3) := by decide +kernel
theorem dX12_year_71 : decode cX12_year 71 = .ok (.iconst 1, 1) := by decide +kernel
theorem dX12_year_72 : decode cX12_year 72 = .ok (.iaload, 1) := by decide +kernel
theorem dX12_year_73 : decode cX12_year 73 = .ok (.if_icmp .ge 14, 3) := by decide +kernel
theorem dX12_year_76 : decode cX12_year 76 = .ok (.aload_n 0, 1) := by decide +kernel
theorem dX12_year_77 : decode cX12_year 77 = .ok (.iload_n 1, 1) := by decide +kernel
theorem dX12_year_78 : decode cX12_year 78 = .ok (.invokevirtual 267, 3) := by decide +kernel
theorem dX12_year_81 : decode cX12_year 81 = .ok (.iinc 1 1, 3) := by decide +kernel
theorem dX12_year_84 : decode cX12_year 84 = .ok (.goto (-18), 3) := by decide +kernel
theorem dX12_year_87 : decode cX12_year 87 = .ok (.aload_n 0, 1) := by decide +kernel
theorem dX12_year_88 : decode cX12_year 88 = .ok (.getfield 9, 3) := by decide +kernel
theorem dX12_year_91 : decode cX12_year 91 = .ok (.bipush 12, 2) := by decide +kernel
theorem dX12_year_93 : decode cX12_year 93 = .ok (.dup2, 1) := by decide +kernel
theorem dX12_year_94 : decode cX12_year 94 = .ok (.iaload, 1) := by decide +kernel
theorem dX12_year_95 : decode cX12_year 95 = .ok (.aload_n 0, 1) := by decide +kernel
theorem dX12_year_96 : decode cX12_year 96 = .ok (.getfield 9, 3) := by decide +kernel
theorem dX12_year_99 : decode cX12_year 99 = .ok (.bipush 11, 2) := by decide +kernel
theorem dX12_year_101 : decode cX12_year 101 = .ok (.iaload, 1) := by decide +kernel
theorem dX12_year_102 : decode cX12_year 102 = .ok (.iadd, 1) := by decide +kernel
theorem dX12_year_103 : decode cX12_year 103 = .ok (.iastore, 1) := by decide +kernel
theorem dX12_year_104 : decode cX12_year 104 = .ok (.iconst 0, 1) := by decide +kernel
theorem dX12_year_105 : decode cX12_year 105 = .ok (.istore_n 1, 1) := by decide +kernel
theorem dX12_year_106 : decode cX12_year 106 = .ok (.iload_n 1, 1) := by decide +kernel
theorem dX12_year_107 : decode cX12_year 107 = .ok (.aload_n 0, 1) := by decide +kernel
theorem dX12_year_108 : decode cX12_year 108 = .ok (.getfield 9, 3) := by decide +kernel
theorem dX12_year_111 : decode cX12_year 111 = .ok (.iconst 2, 1) := by decide +kernel
theorem dX12_year_112 : decode cX12_year 112 = .ok (.iaload, 1) := by decide +kernel
theorem dX12_year_113 : decode cX12_year 113 = .ok (.if_icmp .ge 37, 3) := by decide +kernel
theorem dX12_year_116 : decode cX12_year 116 = .ok (.aload_n 0, 1) := by decide +kernel
theorem dX12_year_117 : decode cX12_year 117 = .ok (.getfield 9, 3) := by decide +kernel
theorem dX12_year_120 : decode cX12_year 120 = .ok (.bipush 12, 2) := by decide +kernel
theorem dX12_year_122 : decode cX12_year 122 = .ok (.dup2, 1) := by decide +kernel
theorem dX12_year_123 : decode cX12_year 123 = .ok (.iaload, 1) := by decide +kernel
theorem dX12_year_124 : decode cX12_year 124 = .ok (.aload_n 0, 1) := by decide +kernel
theorem dX12_year_125 : decode cX12_year 125 = .ok (.iload_n 1, 1) := by decide +kernel
theorem dX12_year_126 : decode cX12_year 126 = .ok (.invokevirtual 158, 3) := by decide +kernel
theorem dX12_year_129 : decode cX12_year 129 = .ok (.ifCond .eq 12, 3) := by decide +kernel
theorem dX12_year_132 : decode cX12_year 132 = .ok (.aload_n 0, 1) := by decide +kernel
theorem dX12_year_133 : decode cX12_year 133 = .ok (.iload_n 1, 1) := by decide +kernel
theorem dX12_year_134 : decode cX12_year 134 = .ok (.iconst 2, 1) := by decide +kernel
theorem dX12_year_135 : decode cX12_year 135 = .ok (.invokevirtual 136, 3) := by decide +kernel
theorem dX12_year_138 : decode cX12_year 138 = .ok (.goto 4, 3) := by decide +kernel
theorem dX12_year_141 : decode cX12_year 141 = .ok (.iconst 0, 1) := by decide +kernel
theorem dX12_year_142 : decode cX12_year 142 = .ok (.isub, 1) := by decide +kernel
theorem dX12_year_143 : decode cX12_year 143 = .ok (.iastore, 1) := by decide +kernel
theorem dX12_year_144 : decode cX12_year 144 = .ok (.iinc 1 1, 3) := by decide +kernel
theorem dX12_year_147 : decode cX12_year 147 = .ok (.goto (-41), 3) := by decide +kernel
theorem dX12_year_150 : decode cX12_year 150 = .ok (.aload_n 0, 1) := by decide +kernel
theorem dX12_year_151 : decode cX12_year 151 = .ok (.getfield 9, 3) := by decide +kernel
theorem dX12_year_154 : decode cX12_year 154 = .ok (.iconst 0, 1) := by decide +kernel
theorem dX12_year_155 : decode cX12_year 155 = .ok (.dup2, 1) := by decide +kernel
theorem dX12_year_156 : decode cX12_year 156 = .ok (.iaload, 1) := by decide +kernel
theorem dX12_year_157 : decode cX12_year 157 = .ok (.iconst 1, 1) := by decide +kernel
theorem dX12_year_158 : decode cX12_year 158 = .ok (.iadd, 1) := by decide +kernel
theorem dX12_year_159 : decode cX12_year 159 = .ok (.iastore, 1) := by decide +kernel
theorem dX12_year_160 : decode cX12_year 160 = .ok (.return_, 1) := by decide +kernel
theorem dX12_years_0 : decode cX12_years 0 = .ok (.iload_n 1, 1) := by decide +kernel
theorem dX12_years_1 : decode cX12_years 1 = .ok (.iconst 1, 1) := by decide +kernel
theorem dX12_years_2 : decode cX12_years 2 = .ok (.bipush 50, 2) := by decide +kernel
theorem dX12_years_4 : decode cX12_years 4 = .ok (.invokestatic 76, 3) := by decide +kernel
theorem dX12_years_7 : decode cX12_years 7 = .ok (.ifCond .ne 10, 3) := by decide +kernel
theorem dX12_years_10 : decode cX12_years 10 = .ok (.aload_n 0, 1) := by decide +kernel
theorem dX12_years_11 : decode cX12_years 11 = .ok (.ldc 89, 2) := by decide +kernel
theorem dX12_years_13 : decode cX12_years 13 = .ok (.invokevirtual 90, 3) := by decide +kernel
theorem dX12_years_16 : decode cX12_years 16 = .ok (.ireturn, 1) := by decide +kernel
theorem dX12_years_17 : decode cX12_years 17 = .ok (.aload_n 0, 1) := by decide +kernel
theorem dX12_years_18 : decode cX12_years 18 = .ok (.getfield 9, 3) := by decide +kernel
theorem dX12_years_21 : decode cX12_years 21 = .ok (.iconst 0, 1) := by decide +kernel
theorem dX12_years_22 : decode cX12_years 22 = .ok (.iaload, 1) := by decide +kernel
theorem dX12_years_23 : decode cX12_years 23 = .ok (.iload_n 1, 1) := by decide +kernel
theorem dX12_years_24 : decode cX12_years 24 = .ok (.iadd, 1) := by decide +kernel
theorem dX12_years_25 : decode cX12_years 25 = .ok (.sipush 199, 3) := by decide +kernel
theorem dX12_years_28 : decode cX12_years 28 = .ok (.if_icmp .le 11, 3) := by decide +kernel
theorem dX12_years_31 : decode cX12_years 31 = .ok (.aload_n 0, 1) := by decide +kernel
theorem dX12_years_32 : decode cX12_years 32 = .ok (.ldc_w 270, 3) := by decide +kernel
theorem dX12_years_35 : decode cX12_years 35 = .ok (.invokevirtual 90, 3) := by decide +kernel
theorem dX12_years_38 : decode cX12_years 38 = .ok (.ireturn, 1) := by decide +kernel
theorem dX12_years_39 : decode cX12_years 39 = .ok (.iconst 0, 1) := by decide +kernel
theorem dX12_years_40 : decode cX12_years 40 = .ok (.istore_n 2, 1) := by decide +kernel
theorem dX12_years_41 : decode cX12_years 41 = .ok (.iload_n 2, 1) := by decide +kernel
theorem dX12_years_42 : decode cX12_years 42 = .ok (.iload_n 1, 1) := by decide +kernel
theorem dX12_years_43 : decode cX12_years 43 = .ok (.if_icmp .ge 13, 3) := by decide +kernel
theorem dX12_years_46 : decode cX12_years 46 = .ok (.aload_n 0, 1) := by decide +kernel
theorem dX12_years_47 : decode cX12_years 47 = .ok (.invokevirtual 271, 3) := by decide +kernel
theorem dX12_years_50 : decode cX12_years 50 = .ok (.iinc 2 1, 3) := by decide +kernel
theorem dX12_years_53 : decode cX12_years 53 = .ok (.goto (-12), 3) := by decide +kernel
theorem dX12_years_56 : decode cX12_years 56 = .ok (.aload_n 0, 1) := by decide +kernel
theorem dX12_years_57 : decode cX12_years 57 = .ok (.getfield 9, 3) := by decide +kernel
theorem dX12_years_60 : decode cX12_years 60 = .ok (.iconst 0, 1) := by decide +kernel
theorem dX12_years_61 : decode cX12_years 61 = .ok (.iaload, 1) := by decide +kernel
theorem dX12_years_62 : decode cX12_years 62 = .ok (.ireturn, 1) := by decide +kernel
theorem dX12_isAhead_0 : decode cX12_isAhead 0 = .ok (.iload_n 0, 1) := by decide +kernel
theorem dX12_isAhead_1 : decode cX12_isAhead 1 = .ok (.iconst 0, 1) := by decide +kernel
theorem dX12_isAhead_2 : decode cX12_isAhead 2 = .ok (.bipush 40, 2) := by decide +kernel
theorem dX12_isAhead_4 : decode cX12_isAhead 4 = .ok (.invokestatic 76, 3) := by decide +kernel
theorem dX12_isAhead_7 : decode cX12_isAhead 7 = .ok (.ireturn, 1) := by decide +kernel
theorem dX12_people__0 : decode cX12_people_ 0 = .ok (.iconst 0, 1) := by decide +kernel
theorem dX12_people__1 : decode cX12_people_ 1 = .ok (.istore_n 1, 1) := by decide +kernel
theorem dX12_people__2 : decode cX12_people_ 2 = .ok (.iconst 0, 1) := by decide +kernel
theorem dX12_people__3 : decode cX12_people_ 3 = .ok (.istore_n 2, 1) := by decide +kernel
theorem dX12_people__4 : decode cX12_people_ 4 = .ok (.iload_n 2, 1) := by decide +kernel
theorem dX12_people__5 : decode cX12_people_ 5 = .ok (.aload_n 0, 1) := by decide +kernel
theorem dX12_people__6 : decode cX12_people_ 6 = .ok (.getfield 9, 3) := by decide +kernel
theorem dX12_people__9 : decode cX12_people_ 9 = .ok (.iconst 1, 1) := by decide +kernel
theorem dX12_people__10 : decode cX12_people_ 10 = .ok (.iaload, 1) := by decide +kernel
theorem dX12_people__11 : decode cX12_people_ 11 = .ok (.if_icmp .ge 17, 3) := by decide +kernel
theorem dX12_people__14 : decode cX12_people_ 14 = .ok (.iload_n 1, 1) := by decide +kernel
theorem dX12_people__15 : decode cX12_people_ 15 = .ok (.aload_n 0, 1) := by decide +kernel
theorem dX12_people__16 : decode cX12_people_ 16 = .ok (.iload_n 2, 1) := by decide +kernel
theorem dX12_people__17 : decode cX12_people_ 17 = .ok (.invokevirtual 107, 3) := by decide +kernel
theorem dX12_people__20 : decode cX12_people_ 20 = .ok (.iadd, 1) := by decide +kernel
theorem dX12_people__21 : decode cX12_people_ 21 = .ok (.istore_n 1, 1) := by decide +kernel
theorem dX12_people__22 : decode cX12_people_ 22 = .ok (.iinc 2 1, 3) := by decide +kernel
theorem dX12_people__25 : decode cX12_people_ 25 = .ok (.goto (-21), 3) := by decide +kernel
theorem dX12_people__28 : decode cX12_people_ 28 = .ok (.iload_n 1, 1) := by decide +kernel
theorem dX12_people__29 : decode cX12_people_ 29 = .ok (.ireturn, 1) := by decide +kernel
theorem dX12_ahead_0 : decode cX12_ahead 0 = .ok (.iconst 0, 1) := by decide +kernel
theorem dX12_ahead_1 : decode cX12_ahead 1 = .ok (.istore_n 2, 1) := by decide +kernel
theorem dX12_ahead_2 : decode cX12_ahead 2 = .ok (.iload_n 2, 1) := by decide +kernel
theorem dX12_ahead_3 : decode cX12_ahead 3 = .ok (.iload_n 1, 1) := by decide +kernel
theorem dX12_ahead_4 : decode cX12_ahead 4 = .ok (.if_icmp .ge 13, 3) := by decide +kernel
theorem dX12_ahead_7 : decode cX12_ahead 7 = .ok (.aload_n 0, 1) := by decide +kernel
theorem dX12_ahead_8 : decode cX12_ahead 8 = .ok (.invokevirtual 271, 3) := by decide +kernel
theorem dX12_ahead_11 : decode cX12_ahead 11 = .ok (.iinc 2 1, 3) := by decide +kernel
theorem dX12_ahead_14 : decode cX12_ahead 14 = .ok (.goto (-12), 3) := by decide +kernel
theorem dX12_ahead_17 : decode cX12_ahead 17 = .ok (.aload_n 0, 1) := by decide +kernel
theorem dX12_ahead_18 : decode cX12_ahead 18 = .ok (.invokevirtual 274, 3) := by decide +kernel
theorem dX12_ahead_21 : decode cX12_ahead 21 = .ok (.ireturn, 1) := by decide +kernel
theorem dX12_back_0 : decode cX12_back 0 = .ok (.aload_n 0, 1) := by decide +kernel
theorem dX12_back_1 : decode cX12_back 1 = .ok (.getfield 16, 3) := by decide +kernel
theorem dX12_back_4 : decode cX12_back 4 = .ok (.aload_n 0, 1) := by decide +kernel
theorem dX12_back_5 : decode cX12_back 5 = .ok (.getfield 9, 3) := by decide +kernel
theorem dX12_back_8 : decode cX12_back 8 = .ok (.invokestatic 277, 3) := by decide +kernel
theorem dX12_back_11 : decode cX12_back 11 = .ok (.iload_n 1, 1) := by decide +kernel
theorem dX12_back_12 : decode cX12_back 12 = .ok (.ireturn, 1) := by decide +kernel
theorem dX12_openOnes_0 : decode cX12_openOnes 0 = .ok (.iconst 0, 1) := by decide +kernel
theorem dX12_openOnes_1 : decode cX12_openOnes 1 = .ok (.istore_n 1, 1) := by decide +kernel
theorem dX12_openOnes_2 : decode cX12_openOnes 2 = .ok (.iconst 0, 1) := by decide +kernel
theorem dX12_openOnes_3 : decode cX12_openOnes 3 = .ok (.istore_n 2, 1) := by decide +kernel
theorem dX12_openOnes_4 : decode cX12_openOnes 4 = .ok (.iload_n 2, 1) := by decide +kernel
theorem dX12_openOnes_5 : decode cX12_openOnes 5 = .ok (.aload_n 0, 1) := by decide +kernel
theorem dX12_openOnes_6 : decode cX12_openOnes 6 = .ok (.getfield 9, 3) := by decide +kernel
theorem dX12_openOnes_9 : decode cX12_openOnes 9 = .ok (.iconst 2, 1) := by decide +kernel
theorem dX12_openOnes_10 : decode cX12_openOnes 10 = .ok (.iaload, 1) := by decide +kernel
theorem dX12_openOnes_11 : decode cX12_openOnes 11 = .ok (.if_icmp .ge 27, 3) := by decide +kernel
theorem dX12_openOnes_14 : decode cX12_openOnes 14 = .ok (.iload_n 1, 1) := by decide +kernel
theorem dX12_openOnes_15 : decode cX12_openOnes 15 = .ok (.aload_n 0, 1) := by decide +kernel
theorem dX12_openOnes_16 : decode cX12_openOnes 16 = .ok (.iload_n 2, 1) := by decide +kernel
theorem dX12_openOnes_17 : decode cX12_openOnes 17 = .ok (.invokevirtual 158, 3) := by decide +kernel
theorem dX12_openOnes_20 : decode cX12_openOnes 20 = .ok (.ifCond .eq 9, 3) := by decide +kernel
theorem dX12_openOnes_23 : decode cX12_openOnes 23 = .ok (.iconst 1, 1) := by decide +kernel
theorem dX12_openOnes_24 : decode cX12_openOnes 24 = .ok (.iload_n 2, 1) := by decide +kernel
theorem dX12_openOnes_25 : decode cX12_openOnes 25 = .ok (.ishl, 1) := by decide +kernel
theorem dX12_openOnes_26 : decode cX12_openOnes 26 = .ok (.goto 4, 3) := by decide +kernel
theorem dX12_openOnes_29 : decode cX12_openOnes 29 = .ok (.iconst 0, 1) := by decide +kernel
theorem dX12_openOnes_30 : decode cX12_openOnes 30 = .ok (.ior, 1) := by decide +kernel
theorem dX12_openOnes_31 : decode cX12_openOnes 31 = .ok (.istore_n 1, 1) := by decide +kernel
theorem dX12_openOnes_32 : decode cX12_openOnes 32 = .ok (.iinc 2 1, 3) := by decide +kernel
theorem dX12_openOnes_35 : decode cX12_openOnes 35 = .ok (.goto (-31), 3) := by decide +kernel
theorem dX12_openOnes_38 : decode cX12_openOnes 38 = .ok (.iload_n 1, 1) := by decide +kernel
theorem dX12_openOnes_39 : decode cX12_openOnes 39 = .ok (.ireturn, 1) := by decide +kernel
theorem dX12_left_0 : decode cX12_left 0 = .ok (.iload_n 1, 1) := by decide +kernel
theorem dX12_left_1 : decode cX12_left 1 = .ok (.invokestatic 281, 3) := by decide +kernel
theorem dX12_left_4 : decode cX12_left 4 = .ok (.ifCond .eq 12, 3) := by decide +kernel
theorem dX12_left_7 : decode cX12_left 7 = .ok (.iload_n 2, 1) := by decide +kernel
theorem dX12_left_8 : decode cX12_left 8 = .ok (.iconst 0, 1) := by decide +kernel
theorem dX12_left_9 : decode cX12_left 9 = .ok (.iconst 3, 1) := by decide +kernel
theorem dX12_left_10 : decode cX12_left 10 = .ok (.invokestatic 76, 3) := by decide +kernel
theorem dX12_left_13 : decode cX12_left 13 = .ok (.ifCond .ne 10, 3) := by decide +kernel
theorem dX12_left_16 : decode cX12_left 16 = .ok (.aload_n 0, 1) := by decide +kernel
theorem dX12_left_17 : decode cX12_left 17 = .ok (.ldc 89, 2) := by decide +kernel
theorem dX12_left_19 : decode cX12_left 19 = .ok (.invokevirtual 90, 3) := by decide +kernel
theorem dX12_left_22 : decode cX12_left 22 = .ok (.ireturn, 1) := by decide +kernel
theorem dX12_left_23 : decode cX12_left 23 = .ok (.aload_n 0, 1) := by decide +kernel
theorem dX12_left_24 : decode cX12_left 24 = .ok (.getfield 9, 3) := by decide +kernel
theorem dX12_left_27 : decode cX12_left 27 = .ok (.aload_n 0, 1) := by decide +kernel
theorem dX12_left_28 : decode cX12_left 28 = .ok (.getfield 16, 3) := by decide +kernel
theorem dX12_left_31 : decode cX12_left 31 = .ok (.invokestatic 277, 3) := by decide +kernel
theorem dX12_left_34 : decode cX12_left 34 = .ok (.aload_n 0, 1) := by decide +kernel
theorem dX12_left_35 : decode cX12_left 35 = .ok (.iload_n 1, 1) := by decide +kernel
theorem dX12_left_36 : decode cX12_left 36 = .ok (.invokevirtual 284, 3) := by decide +kernel
theorem dX12_left_39 : decode cX12_left 39 = .ok (.istore_n 3, 1) := by decide +kernel
theorem dX12_left_40 : decode cX12_left 40 = .ok (.aload_n 0, 1) := by decide +kernel
theorem dX12_left_41 : decode cX12_left 41 = .ok (.invokevirtual 164, 3) := by decide +kernel
theorem dX12_left_44 : decode cX12_left 44 = .ok (.iconst 0, 1) := by decide +kernel
theorem dX12_left_45 : decode cX12_left 45 = .ok (.istore 4, 2) := by decide +kernel
theorem dX12_left_47 : decode cX12_left 47 = .ok (.iconst 0, 1) := by decide +kernel
theorem dX12_left_48 : decode cX12_left 48 = .ok (.istore 5, 2) := by decide +kernel
theorem dX12_left_50 : decode cX12_left 50 = .ok (.iload 5, 2) := by decide +kernel
theorem dX12_left_52 : decode cX12_left 52 = .ok (.aload_n 0, 1) := by decide +kernel
theorem dX12_left_53 : decode cX12_left 53 = .ok (.getfield 9, 3) := by decide +kernel
theorem dX12_left_56 : decode cX12_left 56 = .ok (.iconst 1, 1) := by decide +kernel
theorem dX12_left_57 : decode cX12_left 57 = .ok (.iaload, 1) := by decide +kernel
theorem dX12_left_58 : decode cX12_left 58 = .ok (.if_icmp .ge 21, 3) := by decide +kernel
theorem dX12_left_61 : decode cX12_left 61 = .ok (.iload 4, 2) := by decide +kernel
theorem dX12_left_63 : decode cX12_left 63 = .ok (.aload_n 0, 1) := by decide +kernel
theorem dX12_left_64 : decode cX12_left 64 = .ok (.getfield 25, 3) := by decide +kernel
theorem dX12_left_67 : decode cX12_left 67 = .ok (.iload 5, 2) := by decide +kernel
theorem dX12_left_69 : decode cX12_left 69 = .ok (.iaload, 1) := by decide +kernel
theorem dX12_left_70 : decode cX12_left 70 = .ok (.iadd, 1) := by decide +kernel
theorem dX12_left_71 : decode cX12_left 71 = .ok (.istore 4, 2) := by decide +kernel
theorem dX12_left_73 : decode cX12_left 73 = .ok (.iinc 5 1, 3) := by decide +kernel
theorem dX12_left_76 : decode cX12_left 76 = .ok (.goto (-26), 3) := by decide +kernel
theorem dX12_left_79 : decode cX12_left 79 = .ok (.aload_n 0, 1) := by decide +kernel
theorem dX12_left_80 : decode cX12_left 80 = .ok (.iload_n 2, 1) := by decide +kernel
theorem dX12_left_81 : decode cX12_left 81 = .ok (.ifCond .ne 7, 3) := by decide +kernel
theorem dX12_left_84 : decode cX12_left 84 = .ok (.iload_n 3, 1) := by decide +kernel
theorem dX12_left_85 : decode cX12_left 85 = .ok (.goto 32, 3) := by decide +kernel
theorem dX12_left_88 : decode cX12_left 88 = .ok (.iload_n 2, 1) := by decide +kernel
theorem dX12_left_89 : decode cX12_left 89 = .ok (.iconst 1, 1) := by decide +kernel
theorem dX12_left_90 : decode cX12_left 90 = .ok (.if_icmp .ne 13, 3) := by decide +kernel
theorem dX12_left_93 : decode cX12_left 93 = .ok (.aload_n 0, 1) := by decide +kernel
theorem dX12_left_94 : decode cX12_left 94 = .ok (.getfield 9, 3) := by decide +kernel
theorem dX12_left_97 : decode cX12_left 97 = .ok (.bipush 12, 2) := by decide +kernel
theorem dX12_left_99 : decode cX12_left 99 = .ok (.iaload, 1) := by decide +kernel
theorem dX12_left_100 : decode cX12_left 100 = .ok (.goto 17, 3) := by decide +kernel
theorem dX12_left_103 : decode cX12_left 103 = .ok (.iload_n 2, 1) := by decide +kernel
theorem dX12_left_104 : decode cX12_left 104 = .ok (.iconst 2, 1) := by decide +kernel
theorem dX12_left_105 : decode cX12_left 105 = .ok (.if_icmp .ne 10, 3) := by decide +kernel
theorem dX12_left_108 : decode cX12_left 108 = .ok (.aload_n 0, 1) := by decide +kernel
theorem dX12_left_109 : decode cX12_left 109 = .ok (.invokevirtual 287, 3) := by decide +kernel
theorem dX12_left_112 : decode cX12_left 112 = .ok (.goto 5, 3) := by decide +kernel
theorem dX12_left_115 : decode cX12_left 115 = .ok (.iload 4, 2) := by decide +kernel
theorem dX12_left_117 : decode cX12_left 117 = .ok (.invokevirtual 290, 3) := by decide +kernel
theorem dX12_left_120 : decode cX12_left 120 = .ok (.ireturn, 1) := by decide +kernel
theorem dX12_then_0 : decode cX12_then 0 = .ok (.iload_n 1, 1) := by decide +kernel
theorem dX12_then_1 : decode cX12_then 1 = .ok (.invokestatic 281, 3) := by decide +kernel
theorem dX12_then_4 : decode cX12_then 4 = .ok (.ifCond .eq 21, 3) := by decide +kernel
theorem dX12_then_7 : decode cX12_then 7 = .ok (.aload_n 0, 1) := by decide +kernel
theorem dX12_then_8 : decode cX12_then 8 = .ok (.iload_n 2, 1) := by decide +kernel
theorem dX12_then_9 : decode cX12_then 9 = .ok (.iconst 1, 1) := by decide +kernel
theorem dX12_then_10 : decode cX12_then 10 = .ok (.invokevirtual 103, 3) := by decide +kernel
theorem dX12_then_13 : decode cX12_then 13 = .ok (.ifCond .eq 12, 3) := by decide +kernel
theorem dX12_then_16 : decode cX12_then 16 = .ok (.iload_n 3, 1) := by decide +kernel
theorem dX12_then_17 : decode cX12_then 17 = .ok (.iconst 0, 1) := by decide +kernel
theorem dX12_then_18 : decode cX12_then 18 = .ok (.iconst 3, 1) := by decide +kernel
theorem dX12_then_19 : decode cX12_then 19 = .ok (.invokestatic 76, 3) := by decide +kernel
theorem dX12_then_22 : decode cX12_then 22 = .ok (.ifCond .ne 10, 3) := by decide +kernel
theorem dX12_then_25 : decode cX12_then 25 = .ok (.aload_n 0, 1) := by decide +kernel
theorem dX12_then_26 : decode cX12_then 26 = .ok (.ldc 89, 2) := by decide +kernel
theorem dX12_then_28 : decode cX12_then 28 = .ok (.invokevirtual 90, 3) := by decide +kernel
theorem dX12_then_31 : decode cX12_then 31 = .ok (.ireturn, 1) := by decide +kernel
theorem dX12_then_32 : decode cX12_then 32 = .ok (.aload_n 0, 1) := by decide +kernel
theorem dX12_then_33 : decode cX12_then 33 = .ok (.getfield 9, 3) := by decide +kernel
theorem dX12_then_36 : decode cX12_then 36 = .ok (.aload_n 0, 1) := by decide +kernel
theorem dX12_then_37 : decode cX12_then 37 = .ok (.getfield 16, 3) := by decide +kernel
theorem dX12_then_40 : decode cX12_then 40 = .ok (.invokestatic 277, 3) := by decide +kernel
theorem dX12_then_43 : decode cX12_then 43 = .ok (.aload_n 0, 1) := by decide +kernel
theorem dX12_then_44 : decode cX12_then 44 = .ok (.iload_n 1, 1) := by decide +kernel
theorem dX12_then_45 : decode cX12_then 45 = .ok (.invokevirtual 284, 3) := by decide +kernel
theorem dX12_then_48 : decode cX12_then 48 = .ok (.istore 4, 2) := by decide +kernel
theorem dX12_then_50 : decode cX12_then 50 = .ok (.aload_n 0, 1) := by decide +kernel
theorem dX12_then_51 : decode cX12_then 51 = .ok (.iload_n 3, 1) := by decide +kernel
theorem dX12_then_52 : decode cX12_then 52 = .ok (.iconst 3, 1) := by decide +kernel
theorem dX12_then_53 : decode cX12_then 53 = .ok (.if_icmp .ne 11, 3) := by decide +kernel
theorem dX12_then_56 : decode cX12_then 56 = .ok (.aload_n 0, 1) := by decide +kernel
theorem dX12_then_57 : decode cX12_then 57 = .ok (.iload_n 2, 1) := by decide +kernel
theorem dX12_then_58 : decode cX12_then 58 = .ok (.invokevirtual 107, 3) := by decide +kernel
theorem dX12_then_61 : decode cX12_then 61 = .ok (.goto 9, 3) := by decide +kernel
theorem dX12_then_64 : decode cX12_then 64 = .ok (.aload_n 0, 1) := by decide +kernel
theorem dX12_then_65 : decode cX12_then 65 = .ok (.iload_n 2, 1) := by decide +kernel
theorem dX12_then_66 : decode cX12_then 66 = .ok (.iload_n 3, 1) := by decide +kernel
theorem dX12_then_67 : decode cX12_then 67 = .ok (.invokevirtual 99, 3) := by decide +kernel
theorem dX12_then_70 : decode cX12_then 70 = .ok (.invokevirtual 290, 3) := by decide +kernel
theorem dX12_then_73 : decode cX12_then 73 = .ok (.ireturn, 1) := by decide +kernel
theorem dX12_falls_0 : decode cX12_falls 0 = .ok (.aload_n 0, 1) := by decide +kernel
theorem dX12_falls_1 : decode cX12_falls 1 = .ok (.iload_n 1, 1) := by decide +kernel
theorem dX12_falls_2 : decode cX12_falls 2 = .ok (.iconst 1, 1) := by decide +kernel
theorem dX12_falls_3 : decode cX12_falls 3 = .ok (.invokevirtual 103, 3) := by decide +kernel
theorem dX12_falls_6 : decode cX12_falls 6 = .ok (.ifCond .eq 10, 3) := by decide +kernel
theorem dX12_falls_9 : decode cX12_falls 9 = .ok (.iload_n 2, 1) := by decide +kernel
theorem dX12_falls_10 : decode cX12_falls 10 = .ok (.invokestatic 281, 3) := by decide +kernel
theorem dX12_falls_13 : decode cX12_falls 13 = .ok (.ifCond .ne 10, 3) := by decide +kernel
theorem dX12_falls_16 : decode cX12_falls 16 = .ok (.aload_n 0, 1) := by decide +kernel
theorem dX12_falls_17 : decode cX12_falls 17 = .ok (.ldc 89, 2) := by decide +kernel
theorem dX12_falls_19 : decode cX12_falls 19 = .ok (.invokevirtual 90, 3) := by decide +kernel
theorem dX12_falls_22 : decode cX12_falls 22 = .ok (.ireturn, 1) := by decide +kernel
theorem dX12_falls_23 : decode cX12_falls 23 = .ok (.aload_n 0, 1) := by decide +kernel
theorem dX12_falls_24 : decode cX12_falls 24 = .ok (.getfield 9, 3) := by decide +kernel
theorem dX12_falls_27 : decode cX12_falls 27 = .ok (.aload_n 0, 1) := by decide +kernel
theorem dX12_falls_28 : decode cX12_falls 28 = .ok (.getfield 16, 3) := by decide +kernel
theorem dX12_falls_31 : decode cX12_falls 31 = .ok (.invokestatic 277, 3) := by decide +kernel
theorem dX12_falls_34 : decode cX12_falls 34 = .ok (.iconst 0, 1) := by decide +kernel
theorem dX12_falls_35 : decode cX12_falls 35 = .ok (.istore_n 3, 1) := by decide +kernel
theorem dX12_falls_36 : decode cX12_falls 36 = .ok (.iload_n 3, 1) := by decide +kernel
theorem dX12_falls_37 : decode cX12_falls 37 = .ok (.iload_n 2, 1) := by decide +kernel
theorem dX12_falls_38 : decode cX12_falls 38 = .ok (.if_icmp .ge 21, 3) := by decide +kernel
theorem dX12_falls_41 : decode cX12_falls 41 = .ok (.aload_n 0, 1) := by decide +kernel
theorem dX12_falls_42 : decode cX12_falls 42 = .ok (.iload_n 1, 1) := by decide +kernel
theorem dX12_falls_43 : decode cX12_falls 43 = .ok (.invokevirtual 107, 3) := by decide +kernel
theorem dX12_falls_46 : decode cX12_falls 46 = .ok (.ifCond .le 13, 3) := by decide +kernel
theorem dX12_falls_49 : decode cX12_falls 49 = .ok (.aload_n 0, 1) := by decide +kernel
theorem dX12_falls_50 : decode cX12_falls 50 = .ok (.invokevirtual 271, 3) := by decide +kernel
theorem dX12_falls_53 : decode cX12_falls 53 = .ok (.iinc 3 1, 3) := by decide +kernel
theorem dX12_falls_56 : decode cX12_falls 56 = .ok (.goto (-20), 3) := by decide +kernel
theorem dX12_falls_59 : decode cX12_falls 59 = .ok (.aload_n 0, 1) := by decide +kernel
theorem dX12_falls_60 : decode cX12_falls 60 = .ok (.iload_n 1, 1) := by decide +kernel
theorem dX12_falls_61 : decode cX12_falls 61 = .ok (.invokevirtual 107, 3) := by decide +kernel
theorem dX12_falls_64 : decode cX12_falls 64 = .ok (.ifCond .ne 7, 3) := by decide +kernel
theorem dX12_falls_67 : decode cX12_falls 67 = .ok (.iconst 1, 1) := by decide +kernel
theorem dX12_falls_68 : decode cX12_falls 68 = .ok (.goto 4, 3) := by decide +kernel
theorem dX12_falls_71 : decode cX12_falls 71 = .ok (.iconst 0, 1) := by decide +kernel
theorem dX12_falls_72 : decode cX12_falls 72 = .ok (.istore 4, 2) := by decide +kernel
theorem dX12_falls_74 : decode cX12_falls 74 = .ok (.aload_n 0, 1) := by decide +kernel
theorem dX12_falls_75 : decode cX12_falls 75 = .ok (.iconst 0, 1) := by decide +kernel
theorem dX12_falls_76 : decode cX12_falls 76 = .ok (.invokevirtual 290, 3) := by decide +kernel
theorem dX12_falls_79 : decode cX12_falls 79 = .ok (.ifCond .ne 12, 3) := by decide +kernel
theorem dX12_falls_82 : decode cX12_falls 82 = .ok (.iload 4, 2) := by decide +kernel
theorem dX12_falls_84 : decode cX12_falls 84 = .ok (.ifCond .eq 7, 3) := by decide +kernel
theorem dX12_falls_87 : decode cX12_falls 87 = .ok (.iload_n 3, 1) := by decide +kernel
theorem dX12_falls_88 : decode cX12_falls 88 = .ok (.goto 9, 3) := by decide +kernel
theorem dX12_falls_91 : decode cX12_falls 91 = .ok (.aload_n 0, 1) := by decide +kernel
theorem dX12_falls_92 : decode cX12_falls 92 = .ok (.ldc 119, 2) := by decide +kernel
theorem dX12_falls_94 : decode cX12_falls 94 = .ok (.invokevirtual 90, 3) := by decide +kernel
theorem dX12_falls_97 : decode cX12_falls 97 = .ok (.ireturn, 1) := by decide +kernel
theorem dX12_broke_0 : decode cX12_broke 0 = .ok (.iload_n 1, 1) := by decide +kernel
theorem dX12_broke_1 : decode cX12_broke 1 = .ok (.invokestatic 281, 3) := by decide +kernel
theorem dX12_broke_4 : decode cX12_broke 4 = .ok (.ifCond .ne 10, 3) := by decide +kernel
theorem dX12_broke_7 : decode cX12_broke 7 = .ok (.aload_n 0, 1) := by decide +kernel
theorem dX12_broke_8 : decode cX12_broke 8 = .ok (.ldc 89, 2) := by decide +kernel
theorem dX12_broke_10 : decode cX12_broke 10 = .ok (.invokevirtual 90, 3) := by decide +kernel
theorem dX12_broke_13 : decode cX12_broke 13 = .ok (.ireturn, 1) := by decide +kernel
theorem dX12_broke_14 : decode cX12_broke 14 = .ok (.aload_n 0, 1) := by decide +kernel
theorem dX12_broke_15 : decode cX12_broke 15 = .ok (.getfield 9, 3) := by decide +kernel
theorem dX12_broke_18 : decode cX12_broke 18 = .ok (.aload_n 0, 1) := by decide +kernel
theorem dX12_broke_19 : decode cX12_broke 19 = .ok (.getfield 16, 3) := by decide +kernel
theorem dX12_broke_22 : decode cX12_broke 22 = .ok (.invokestatic 277, 3) := by decide +kernel
theorem dX12_broke_25 : decode cX12_broke 25 = .ok (.iconst 0, 1) := by decide +kernel
theorem dX12_broke_26 : decode cX12_broke 26 = .ok (.istore_n 2, 1) := by decide +kernel
theorem dX12_broke_27 : decode cX12_broke 27 = .ok (.iload_n 2, 1) := by decide +kernel
theorem dX12_broke_28 : decode cX12_broke 28 = .ok (.iload_n 1, 1) := by decide +kernel
theorem dX12_broke_29 : decode cX12_broke 29 = .ok (.if_icmp .ge 23, 3) := by decide +kernel
theorem dX12_broke_32 : decode cX12_broke 32 = .ok (.aload_n 0, 1) := by decide +kernel
theorem dX12_broke_33 : decode cX12_broke 33 = .ok (.getfield 9, 3) := by decide +kernel
theorem dX12_broke_36 : decode cX12_broke 36 = .ok (.bipush 12, 2) := by decide +kernel
theorem dX12_broke_38 : decode cX12_broke 38 = .ok (.iaload, 1) := by decide +kernel
theorem dX12_broke_39 : decode cX12_broke 39 = .ok (.ifCond .lt 13, 3) := by decide +kernel
theorem dX12_broke_42 : decode cX12_broke 42 = .ok (.aload_n 0, 1) := by decide +kernel
theorem dX12_broke_43 : decode cX12_broke 43 = .ok (.invokevirtual 271, 3) := by decide +kernel
theorem dX12_broke_46 : decode cX12_broke 46 = .ok (.iinc 2 1, 3) := by decide +kernel
theorem dX12_broke_49 : decode cX12_broke 49 = .ok (.goto (-22), 3) := by decide +kernel
theorem dX12_broke_52 : decode cX12_broke 52 = .ok (.aload_n 0, 1) := by decide +kernel
theorem dX12_broke_53 : decode cX12_broke 53 = .ok (.getfield 9, 3) := by decide +kernel
theorem dX12_broke_56 : decode cX12_broke 56 = .ok (.bipush 12, 2) := by decide +kernel
theorem dX12_broke_58 : decode cX12_broke 58 = .ok (.iaload, 1) := by decide +kernel
theorem dX12_broke_59 : decode cX12_broke 59 = .ok (.ifCond .ge 7, 3) := by decide +kernel
theorem dX12_broke_62 : decode cX12_broke 62 = .ok (.iconst 1, 1) := by decide +kernel
theorem dX12_broke_63 : decode cX12_broke 63 = .ok (.goto 4, 3) := by decide +kernel
theorem dX12_broke_66 : decode cX12_broke 66 = .ok (.iconst 0, 1) := by decide +kernel
theorem dX12_broke_67 : decode cX12_broke 67 = .ok (.istore_n 3, 1) := by decide +kernel
theorem dX12_broke_68 : decode cX12_broke 68 = .ok (.aload_n 0, 1) := by decide +kernel
theorem dX12_broke_69 : decode cX12_broke 69 = .ok (.iconst 0, 1) := by decide +kernel
theorem dX12_broke_70 : decode cX12_broke 70 = .ok (.invokevirtual 290, 3) := by decide +kernel
theorem dX12_broke_73 : decode cX12_broke 73 = .ok (.ifCond .ne 11, 3) := by decide +kernel
theorem dX12_broke_76 : decode cX12_broke 76 = .ok (.iload_n 3, 1) := by decide +kernel
theorem dX12_broke_77 : decode cX12_broke 77 = .ok (.ifCond .eq 7, 3) := by decide +kernel
theorem dX12_broke_80 : decode cX12_broke 80 = .ok (.iload_n 2, 1) := by decide +kernel
theorem dX12_broke_81 : decode cX12_broke 81 = .ok (.goto 9, 3) := by decide +kernel
theorem dX12_broke_84 : decode cX12_broke 84 = .ok (.aload_n 0, 1) := by decide +kernel
theorem dX12_broke_85 : decode cX12_broke 85 = .ok (.ldc 119, 2) := by decide +kernel
theorem dX12_broke_87 : decode cX12_broke 87 = .ok (.invokevirtual 90, 3) := by decide +kernel
theorem dX12_broke_90 : decode cX12_broke 90 = .ok (.ireturn, 1) := by decide +kernel
theorem dX12_rest_0 : decode cX12_rest 0 = .ok (.iload_n 1, 1) := by decide +kernel
theorem dX12_rest_1 : decode cX12_rest 1 = .ok (.iconst 1, 1) := by decide +kernel
theorem dX12_rest_2 : decode cX12_rest 2 = .ok (.bipush 40, 2) := by decide +kernel
theorem dX12_rest_4 : decode cX12_rest 4 = .ok (.invokestatic 76, 3) := by decide +kernel
theorem dX12_rest_7 : decode cX12_rest 7 = .ok (.ifCond .ne 10, 3) := by decide +kernel
theorem dX12_rest_10 : decode cX12_rest 10 = .ok (.aload_n 0, 1) := by decide +kernel
theorem dX12_rest_11 : decode cX12_rest 11 = .ok (.ldc 89, 2) := by decide +kernel
theorem dX12_rest_13 : decode cX12_rest 13 = .ok (.invokevirtual 90, 3) := by decide +kernel
theorem dX12_rest_16 : decode cX12_rest 16 = .ok (.ireturn, 1) := by decide +kernel
theorem dX12_rest_17 : decode cX12_rest 17 = .ok (.aload_n 0, 1) := by decide +kernel
theorem dX12_rest_18 : decode cX12_rest 18 = .ok (.getfield 9, 3) := by decide +kernel
theorem dX12_rest_21 : decode cX12_rest 21 = .ok (.aload_n 0, 1) := by decide +kernel
theorem dX12_rest_22 : decode cX12_rest 22 = .ok (.getfield 16, 3) := by decide +kernel
theorem dX12_rest_25 : decode cX12_rest 25 = .ok (.invokestatic 277, 3) := by decide +kernel
theorem dX12_rest_28 : decode cX12_rest 28 = .ok (.iconst 0, 1) := by decide +kernel
theorem dX12_rest_29 : decode cX12_rest 29 = .ok (.istore_n 2, 1) := by decide +kernel
theorem dX12_rest_30 : decode cX12_rest 30 = .ok (.iconst 0, 1) := by decide +kernel
theorem dX12_rest_31 : decode cX12_rest 31 = .ok (.istore_n 3, 1) := by decide +kernel
theorem dX12_rest_32 : decode cX12_rest 32 = .ok (.iload_n 3, 1) := by decide +kernel
theorem dX12_rest_33 : decode cX12_rest 33 = .ok (.iload_n 1, 1) := by decide +kernel
theorem dX12_rest_34 : decode cX12_rest 34 = .ok (.if_icmp .ge 104, 3) := by decide +kernel
theorem dX12_rest_37 : decode cX12_rest 37 = .ok (.iload_n 2, 1) := by decide +kernel
theorem dX12_rest_38 : decode cX12_rest 38 = .ok (.ifCond .ne 100, 3) := by decide +kernel
theorem dX12_rest_41 : decode cX12_rest 41 = .ok (.iconst 0, 1) := by decide +kernel
theorem dX12_rest_42 : decode cX12_rest 42 = .ok (.istore 4, 2) := by decide +kernel
theorem dX12_rest_44 : decode cX12_rest 44 = .ok (.iload 4, 2) := by decide +kernel
theorem dX12_rest_46 : decode cX12_rest 46 = .ok (.bipush 32, 2) := by decide +kernel
theorem dX12_rest_48 : decode cX12_rest 48 = .ok (.if_icmp .ge 26, 3) := by decide +kernel
theorem dX12_rest_51 : decode cX12_rest 51 = .ok (.aload_n 0, 1) := by decide +kernel
theorem dX12_rest_52 : decode cX12_rest 52 = .ok (.getfield 57, 3) := by decide +kernel
theorem dX12_rest_55 : decode cX12_rest 55 = .ok (.iload 4, 2) := by decide +kernel
theorem dX12_rest_57 : decode cX12_rest 57 = .ok (.aload_n 0, 1) := by decide +kernel
theorem dX12_rest_58 : decode cX12_rest 58 = .ok (.getfield 9, 3) := by decide +kernel
theorem dX12_rest_61 : decode cX12_rest 61 = .ok (.bipush 16, 2) := by decide +kernel
theorem dX12_rest_63 : decode cX12_rest 63 = .ok (.iload 4, 2) := by decide +kernel
theorem dX12_rest_65 : decode cX12_rest 65 = .ok (.iadd, 1) := by decide +kernel
theorem dX12_rest_66 : decode cX12_rest 66 = .ok (.iaload, 1) := by decide +kernel
theorem dX12_rest_67 : decode cX12_rest 67 = .ok (.iastore, 1) := by decide +kernel
theorem dX12_rest_68 : decode cX12_rest 68 = .ok (.iinc 4 1, 3) := by decide +kernel
theorem dX12_rest_71 : decode cX12_rest 71 = .ok (.goto (-27), 3) := by decide +kernel
theorem dX12_rest_74 : decode cX12_rest 74 = .ok (.aload_n 0, 1) := by decide +kernel
theorem dX12_rest_75 : decode cX12_rest 75 = .ok (.invokevirtual 271, 3) := by decide +kernel
theorem dX12_rest_78 : decode cX12_rest 78 = .ok (.iinc 3 1, 3) := by decide +kernel
theorem dX12_rest_81 : decode cX12_rest 81 = .ok (.iconst 1, 1) := by decide +kernel
theorem dX12_rest_82 : decode cX12_rest 82 = .ok (.istore_n 2, 1) := by decide +kernel
theorem dX12_rest_83 : decode cX12_rest 83 = .ok (.iconst 0, 1) := by decide +kernel
theorem dX12_rest_84 : decode cX12_rest 84 = .ok (.istore 4, 2) := by decide +kernel
theorem dX12_rest_86 : decode cX12_rest 86 = .ok (.iload 4, 2) := by decide +kernel
theorem dX12_rest_88 : decode cX12_rest 88 = .ok (.iconst 4, 1) := by decide +kernel
theorem dX12_rest_89 : decode cX12_rest 89 = .ok (.aload_n 0, 1) := by decide +kernel
theorem dX12_rest_90 : decode cX12_rest 90 = .ok (.getfield 9, 3) := by decide +kernel
theorem dX12_rest_93 : decode cX12_rest 93 = .ok (.iconst 1, 1) := by decide +kernel
theorem dX12_rest_94 : decode cX12_rest 94 = .ok (.iaload, 1) := by decide +kernel
theorem dX12_rest_95 : decode cX12_rest 95 = .ok (.imul, 1) := by decide +kernel
theorem dX12_rest_96 : decode cX12_rest 96 = .ok (.if_icmp .ge 39, 3) := by decide +kernel
theorem dX12_rest_99 : decode cX12_rest 99 = .ok (.iload_n 2, 1) := by decide +kernel
theorem dX12_rest_100 : decode cX12_rest 100 = .ok (.ifCond .eq 27, 3) := by decide +kernel
theorem dX12_rest_103 : decode cX12_rest 103 = .ok (.aload_n 0, 1) := by decide +kernel
theorem dX12_rest_104 : decode cX12_rest 104 = .ok (.getfield 57, 3) := by decide +kernel
theorem dX12_rest_107 : decode cX12_rest 107 = .ok (.iload 4, 2) := by decide +kernel
theorem dX12_rest_109 : decode cX12_rest 109 = .ok (.iaload, 1) := by decide +kernel
theorem dX12_rest_110 : decode cX12_rest 110 = .ok (.aload_n 0, 1) := by decide +kernel
theorem dX12_rest_111 : decode cX12_rest 111 = .ok (.getfield 9, 3) := by decide +kernel
theorem dX12_rest_114 : decode cX12_rest 114 = .ok (.bipush 16, 2) := by decide +kernel
theorem dX12_rest_116 : decode cX12_rest 116 = .ok (.iload 4, 2) := by decide +kernel
theorem dX12_rest_118 : decode cX12_rest 118 = .ok (.iadd, 1) := by decide +kernel
theorem dX12_rest_119 : decode cX12_rest 119 = .ok (.iaload, 1) := by decide +kernel
theorem dX12_rest_120 : decode cX12_rest 120 = .ok (.if_icmp .ne 7, 3) := by decide +kernel
theorem dX12_rest_123 : decode cX12_rest 123 = .ok (.iconst 1, 1) := by decide +kernel
theorem dX12_rest_124 : decode cX12_rest 124 = .ok (.goto 4, 3) := by decide +kernel
theorem dX12_rest_127 : decode cX12_rest 127 = .ok (.iconst 0, 1) := by decide +kernel
theorem dX12_rest_128 : decode cX12_rest 128 = .ok (.istore_n 2, 1) := by decide +kernel
theorem dX12_rest_129 : decode cX12_rest 129 = .ok (.iinc 4 1, 3) := by decide +kernel
theorem dX12_rest_132 : decode cX12_rest 132 = .ok (.goto (-46), 3) := by decide +kernel
theorem dX12_rest_135 : decode cX12_rest 135 = .ok (.goto (-103), 3) := by decide +kernel
theorem dX12_rest_138 : decode cX12_rest 138 = .ok (.aload_n 0, 1) := by decide +kernel
theorem dX12_rest_139 : decode cX12_rest 139 = .ok (.iconst 0, 1) := by decide +kernel
theorem dX12_rest_140 : decode cX12_rest 140 = .ok (.invokevirtual 290, 3) := by decide +kernel
theorem dX12_rest_143 : decode cX12_rest 143 = .ok (.ifCond .ne 11, 3) := by decide +kernel
theorem dX12_rest_146 : decode cX12_rest 146 = .ok (.iload_n 2, 1) := by decide +kernel
theorem dX12_rest_147 : decode cX12_rest 147 = .ok (.ifCond .eq 7, 3) := by decide +kernel
theorem dX12_rest_150 : decode cX12_rest 150 = .ok (.iload_n 3, 1) := by decide +kernel
theorem dX12_rest_151 : decode cX12_rest 151 = .ok (.goto 9, 3) := by decide +kernel
theorem dX12_rest_154 : decode cX12_rest 154 = .ok (.aload_n 0, 1) := by decide +kernel
theorem dX12_rest_155 : decode cX12_rest 155 = .ok (.ldc 119, 2) := by decide +kernel
theorem dX12_rest_157 : decode cX12_rest 157 = .ok (.invokevirtual 90, 3) := by decide +kernel
theorem dX12_rest_160 : decode cX12_rest 160 = .ok (.ireturn, 1) := by decide +kernel
theorem dX12_keep_0 : decode cX12_keep 0 = .ok (.iload_n 1, 1) := by decide +kernel
theorem dX12_keep_1 : decode cX12_keep 1 = .ok (.iconst 0, 1) := by decide +kernel
theorem dX12_keep_2 : decode cX12_keep 2 = .ok (.sipush 9999, 3) := by decide +kernel
theorem dX12_keep_5 : decode cX12_keep 5 = .ok (.invokestatic 76, 3) := by decide +kernel
theorem dX12_keep_8 : decode cX12_keep 8 = .ok (.ifCond .eq 19, 3) := by decide +kernel
theorem dX12_keep_11 : decode cX12_keep 11 = .ok (.iload_n 2, 1) := by decide +kernel
theorem dX12_keep_12 : decode cX12_keep 12 = .ok (.invokestatic 281, 3) := by decide +kernel
theorem dX12_keep_15 : decode cX12_keep 15 = .ok (.ifCond .eq 12, 3) := by decide +kernel
theorem dX12_keep_18 : decode cX12_keep 18 = .ok (.iload_n 3, 1) := by decide +kernel
theorem dX12_keep_19 : decode cX12_keep 19 = .ok (.iconst 0, 1) := by decide +kernel
theorem dX12_keep_20 : decode cX12_keep 20 = .ok (.iconst 1, 1) := by decide +kernel
theorem dX12_keep_21 : decode cX12_keep 21 = .ok (.invokestatic 76, 3) := by decide +kernel
theorem dX12_keep_24 : decode cX12_keep 24 = .ok (.ifCond .ne 10, 3) := by decide +kernel
theorem dX12_keep_27 : decode cX12_keep 27 = .ok (.aload_n 0, 1) := by decide +kernel
theorem dX12_keep_28 : decode cX12_keep 28 = .ok (.ldc 89, 2) := by decide +kernel
theorem dX12_keep_30 : decode cX12_keep 30 = .ok (.invokevirtual 90, 3) := by decide +kernel
theorem dX12_keep_33 : decode cX12_keep 33 = .ok (.ireturn, 1) := by decide +kernel
theorem dX12_keep_34 : decode cX12_keep 34 = .ok (.aload_n 0, 1) := by decide +kernel
theorem dX12_keep_35 : decode cX12_keep 35 = .ok (.getfield 9, 3) := by decide +kernel
theorem dX12_keep_38 : decode cX12_keep 38 = .ok (.aload_n 0, 1) := by decide +kernel
theorem dX12_keep_39 : decode cX12_keep 39 = .ok (.getfield 16, 3) := by decide +kernel
theorem dX12_keep_42 : decode cX12_keep 42 = .ok (.invokestatic 277, 3) := by decide +kernel
theorem dX12_keep_45 : decode cX12_keep 45 = .ok (.iconst 0, 1) := by decide +kernel
theorem dX12_keep_46 : decode cX12_keep 46 = .ok (.istore 4, 2) := by decide +kernel
theorem dX12_keep_48 : decode cX12_keep 48 = .ok (.iconst 0, 1) := by decide +kernel
theorem dX12_keep_49 : decode cX12_keep 49 = .ok (.istore 5, 2) := by decide +kernel
theorem dX12_keep_51 : decode cX12_keep 51 = .ok (.iconst 0, 1) := by decide +kernel
theorem dX12_keep_52 : decode cX12_keep 52 = .ok (.istore 6, 2) := by decide +kernel
theorem dX12_keep_54 : decode cX12_keep 54 = .ok (.iload 6, 2) := by decide +kernel
theorem dX12_keep_56 : decode cX12_keep 56 = .ok (.aload_n 0, 1) := by decide +kernel
theorem dX12_keep_57 : decode cX12_keep 57 = .ok (.getfield 9, 3) := by decide +kernel
theorem dX12_keep_60 : decode cX12_keep 60 = .ok (.iconst 2, 1) := by decide +kernel
theorem dX12_keep_61 : decode cX12_keep 61 = .ok (.iaload, 1) := by decide +kernel
theorem dX12_keep_62 : decode cX12_keep 62 = .ok (.if_icmp .ge 65, 3) := by decide +kernel
theorem dX12_keep_65 : decode cX12_keep 65 = .ok (.aload_n 0, 1) := by decide +kernel
theorem dX12_keep_66 : decode cX12_keep 66 = .ok (.iload 6, 2) := by decide +kernel
theorem dX12_keep_68 : decode cX12_keep 68 = .ok (.invokevirtual 158, 3) := by decide +kernel
theorem dX12_keep_71 : decode cX12_keep 71 = .ok (.ifCond .eq 14, 3) := by decide +kernel
theorem dX12_keep_74 : decode cX12_keep 74 = .ok (.iload 5, 2) := by decide +kernel
theorem dX12_keep_76 : decode cX12_keep 76 = .ok (.bipush 6, 2) := by decide +kernel
theorem dX12_keep_78 : decode cX12_keep 78 = .ok (.if_icmp .ge 7, 3) := by decide +kernel
theorem dX12_keep_81 : decode cX12_keep 81 = .ok (.iconst 1, 1) := by decide +kernel
theorem dX12_keep_82 : decode cX12_keep 82 = .ok (.goto 4, 3) := by decide +kernel
theorem dX12_keep_85 : decode cX12_keep 85 = .ok (.iconst 0, 1) := by decide +kernel
theorem dX12_keep_86 : decode cX12_keep 86 = .ok (.istore 7, 2) := by decide +kernel
theorem dX12_keep_88 : decode cX12_keep 88 = .ok (.iload 4, 2) := by decide +kernel
theorem dX12_keep_90 : decode cX12_keep 90 = .ok (.iload 7, 2) := by decide +kernel
theorem dX12_keep_92 : decode cX12_keep 92 = .ok (.ifCond .eq 10, 3) := by decide +kernel
theorem dX12_keep_95 : decode cX12_keep 95 = .ok (.iconst 1, 1) := by decide +kernel
theorem dX12_keep_96 : decode cX12_keep 96 = .ok (.iload 6, 2) := by decide +kernel
theorem dX12_keep_98 : decode cX12_keep 98 = .ok (.ishl, 1) := by decide +kernel
theorem dX12_keep_99 : decode cX12_keep 99 = .ok (.goto 4, 3) := by decide +kernel
theorem dX12_keep_102 : decode cX12_keep 102 = .ok (.iconst 0, 1) := by decide +kernel
theorem dX12_keep_103 : decode cX12_keep 103 = .ok (.ior, 1) := by decide +kernel
theorem dX12_keep_104 : decode cX12_keep 104 = .ok (.istore 4, 2) := by decide +kernel
theorem dX12_keep_106 : decode cX12_keep 106 = .ok (.iload 5, 2) := by decide +kernel
theorem dX12_keep_108 : decode cX12_keep 108 = .ok (.iload 7, 2) := by decide +kernel
theorem dX12_keep_110 : decode cX12_keep 110 = .ok (.ifCond .eq 7, 3) := by decide +kernel
theorem dX12_keep_113 : decode cX12_keep 113 = .ok (.iconst 1, 1) := by decide +kernel
theorem dX12_keep_114 : decode cX12_keep 114 = .ok (.goto 4, 3) := by decide +kernel
theorem dX12_keep_117 : decode cX12_keep 117 = .ok (.iconst 0, 1) := by decide +kernel
theorem dX12_keep_118 : decode cX12_keep 118 = .ok (.iadd, 1) := by decide +kernel
theorem dX12_keep_119 : decode cX12_keep 119 = .ok (.istore 5, 2) := by decide +kernel
theorem dX12_keep_121 : decode cX12_keep 121 = .ok (.iinc 6 1, 3) := by decide +kernel
theorem dX12_keep_124 : decode cX12_keep 124 = .ok (.goto (-70), 3) := by decide +kernel
theorem dX12_keep_127 : decode cX12_keep 127 = .ok (.iconst (-1), 1) := by decide +kernel
theorem dX12_keep_128 : decode cX12_keep 128 = .ok (.istore 6, 2) := by decide +kernel
theorem dX12_keep_130 : decode cX12_keep 130 = .ok (.iconst 0, 1) := by decide +kernel
theorem dX12_keep_131 : decode cX12_keep 131 = .ok (.istore 7, 2) := by decide +kernel
theorem dX12_keep_133 : decode cX12_keep 133 = .ok (.iconst 0, 1) := by decide +kernel
theorem dX12_keep_134 : decode cX12_keep 134 = .ok (.istore 8, 2) := by decide +kernel
theorem dX12_keep_136 : decode cX12_keep 136 = .ok (.iconst 0, 1) := by decide +kernel
theorem dX12_keep_137 : decode cX12_keep 137 = .ok (.istore 9, 2) := by decide +kernel
theorem dX12_keep_139 : decode cX12_keep 139 = .ok (.iload 9, 2) := by decide +kernel
theorem dX12_keep_141 : decode cX12_keep 141 = .ok (.iload 4, 2) := by decide +kernel
theorem dX12_keep_143 : decode cX12_keep 143 = .ok (.if_icmp .gt 182, 3) := by decide +kernel
theorem dX12_keep_146 : decode cX12_keep 146 = .ok (.iconst 0, 1) := by decide +kernel
theorem dX12_keep_147 : decode cX12_keep 147 = .ok (.istore 10, 2) := by decide +kernel
theorem dX12_keep_149 : decode cX12_keep 149 = .ok (.iconst 0, 1) := by decide +kernel
theorem dX12_keep_150 : decode cX12_keep 150 = .ok (.istore 11, 2) := by decide +kernel
theorem dX12_keep_152 : decode cX12_keep 152 = .ok (.iload 11, 2) := by decide +kernel
theorem dX12_keep_154 : decode cX12_keep 154 = .ok (.aload_n 0, 1) := by decide +kernel
theorem dX12_keep_155 : decode cX12_keep 155 = .ok (.getfield 9, 3) := by decide +kernel
theorem dX12_keep_158 : decode cX12_keep 158 = .ok (.iconst 2, 1) := by decide +kernel
theorem dX12_keep_159 : decode cX12_keep 159 = .ok (.iaload, 1) := by decide +kernel
theorem dX12_keep_160 : decode cX12_keep 160 = .ok (.if_icmp .ge 35, 3) := by decide +kernel
theorem dX12_keep_163 : decode cX12_keep 163 = .ok (.iload 10, 2) := by decide +kernel
theorem dX12_keep_165 : decode cX12_keep 165 = .ok (.iload 9, 2) := by decide +kernel
theorem dX12_keep_167 : decode cX12_keep 167 = .ok (.iload 11, 2) := by decide +kernel
theorem dX12_keep_169 : decode cX12_keep 169 = .ok (.invokestatic 161, 3) := by decide +kernel
theorem dX12_keep_172 : decode cX12_keep 172 = .ok (.ifCond .eq 13, 3) := by decide +kernel
theorem dX12_keep_175 : decode cX12_keep 175 = .ok (.aload_n 0, 1) := by decide +kernel
theorem dX12_keep_176 : decode cX12_keep 176 = .ok (.iload 11, 2) := by decide +kernel
theorem dX12_keep_178 : decode cX12_keep 178 = .ok (.iconst 2, 1) := by decide +kernel
theorem dX12_keep_179 : decode cX12_keep 179 = .ok (.invokevirtual 136, 3) := by decide +kernel
theorem dX12_keep_182 : decode cX12_keep 182 = .ok (.goto 4, 3) := by decide +kernel
theorem dX12_keep_185 : decode cX12_keep 185 = .ok (.iconst 0, 1) := by decide +kernel
theorem dX12_keep_186 : decode cX12_keep 186 = .ok (.iadd, 1) := by decide +kernel
theorem dX12_keep_187 : decode cX12_keep 187 = .ok (.istore 10, 2) := by decide +kernel
theorem dX12_keep_189 : decode cX12_keep 189 = .ok (.iinc 11 1, 3) := by decide +kernel
theorem dX12_keep_192 : decode cX12_keep 192 = .ok (.goto (-40), 3) := by decide +kernel
theorem dX12_keep_195 : decode cX12_keep 195 = .ok (.iload 9, 2) := by decide +kernel
theorem dX12_keep_197 : decode cX12_keep 197 = .ok (.iload 4, 2) := by decide +kernel
theorem dX12_keep_199 : decode cX12_keep 199 = .ok (.iconst (-1), 1) := by decide +kernel
theorem dX12_keep_200 : decode cX12_keep 200 = .ok (.ixor, 1) := by decide +kernel
theorem dX12_keep_201 : decode cX12_keep 201 = .ok (.iand, 1) := by decide +kernel
theorem dX12_keep_202 : decode cX12_keep 202 = .ok (.ifCond .ne 117, 3) := by decide +kernel
theorem dX12_keep_205 : decode cX12_keep 205 = .ok (.iload 10, 2) := by decide +kernel
theorem dX12_keep_207 : decode cX12_keep 207 = .ok (.iload_n 1, 1) := by decide +kernel
theorem dX12_keep_208 : decode cX12_keep 208 = .ok (.if_icmp .gt 111, 3) := by decide +kernel
theorem dX12_keep_211 : decode cX12_keep 211 = .ok (.iconst 0, 1) := by decide +kernel
theorem dX12_keep_212 : decode cX12_keep 212 = .ok (.istore 11, 2) := by decide +kernel
theorem dX12_keep_214 : decode cX12_keep 214 = .ok (.iload 11, 2) := by decide +kernel
theorem dX12_keep_216 : decode cX12_keep 216 = .ok (.aload_n 0, 1) := by decide +kernel
theorem dX12_keep_217 : decode cX12_keep 217 = .ok (.getfield 9, 3) := by decide +kernel
theorem dX12_keep_220 : decode cX12_keep 220 = .ok (.iconst 2, 1) := by decide +kernel
theorem dX12_keep_221 : decode cX12_keep 221 = .ok (.iaload, 1) := by decide +kernel
theorem dX12_keep_222 : decode cX12_keep 222 = .ok (.if_icmp .ge 41, 3) := by decide +kernel
theorem dX12_keep_225 : decode cX12_keep 225 = .ok (.aload_n 0, 1) := by decide +kernel
theorem dX12_keep_226 : decode cX12_keep 226 = .ok (.iload 11, 2) := by decide +kernel
theorem dX12_keep_228 : decode cX12_keep 228 = .ok (.iload 4, 2) := by decide +kernel
theorem dX12_keep_230 : decode cX12_keep 230 = .ok (.iload 11, 2) := by decide +kernel
theorem dX12_keep_232 : decode cX12_keep 232 = .ok (.invokestatic 161, 3) := by decide +kernel
theorem dX12_keep_235 : decode cX12_keep 235 = .ok (.ifCond .eq 13, 3) := by decide +kernel
theorem dX12_keep_238 : decode cX12_keep 238 = .ok (.iload 9, 2) := by decide +kernel
theorem dX12_keep_240 : decode cX12_keep 240 = .ok (.iload 11, 2) := by decide +kernel
theorem dX12_keep_242 : decode cX12_keep 242 = .ok (.invokestatic 161, 3) := by decide +kernel
theorem dX12_keep_245 : decode cX12_keep 245 = .ok (.goto 9, 3) := by decide +kernel
theorem dX12_keep_248 : decode cX12_keep 248 = .ok (.aload_n 0, 1) := by decide +kernel
theorem dX12_keep_249 : decode cX12_keep 249 = .ok (.iload 11, 2) := by decide +kernel
theorem dX12_keep_251 : decode cX12_keep 251 = .ok (.invokevirtual 158, 3) := by decide +kernel
theorem dX12_keep_254 : decode cX12_keep 254 = .ok (.invokevirtual 246, 3) := by decide +kernel
theorem dX12_keep_257 : decode cX12_keep 257 = .ok (.iinc 11 1, 3) := by decide +kernel
theorem dX12_keep_260 : decode cX12_keep 260 = .ok (.goto (-46), 3) := by decide +kernel
theorem dX12_keep_263 : decode cX12_keep 263 = .ok (.aload_n 0, 1) := by decide +kernel
theorem dX12_keep_264 : decode cX12_keep 264 = .ok (.iload_n 2, 1) := by decide +kernel
theorem dX12_keep_265 : decode cX12_keep 265 = .ok (.invokevirtual 284, 3) := by decide +kernel
theorem dX12_keep_268 : decode cX12_keep 268 = .ok (.istore 11, 2) := by decide +kernel
theorem dX12_keep_270 : decode cX12_keep 270 = .ok (.aload_n 0, 1) := by decide +kernel
theorem dX12_keep_271 : decode cX12_keep 271 = .ok (.getfield 16, 3) := by decide +kernel
theorem dX12_keep_274 : decode cX12_keep 274 = .ok (.aload_n 0, 1) := by decide +kernel
theorem dX12_keep_275 : decode cX12_keep 275 = .ok (.getfield 9, 3) := by decide +kernel
theorem dX12_keep_278 : decode cX12_keep 278 = .ok (.invokestatic 277, 3) := by decide +kernel
theorem dX12_keep_281 : decode cX12_keep 281 = .ok (.iload 6, 2) := by decide +kernel
theorem dX12_keep_283 : decode cX12_keep 283 = .ok (.ifCond .lt 24, 3) := by decide +kernel
theorem dX12_keep_286 : decode cX12_keep 286 = .ok (.iload 11, 2) := by decide +kernel
theorem dX12_keep_288 : decode cX12_keep 288 = .ok (.iload 7, 2) := by decide +kernel
theorem dX12_keep_290 : decode cX12_keep 290 = .ok (.if_icmp .gt 17, 3) := by decide +kernel
theorem dX12_keep_293 : decode cX12_keep 293 = .ok (.iload 11, 2) := by decide +kernel
theorem dX12_keep_295 : decode cX12_keep 295 = .ok (.iload 7, 2) := by decide +kernel
theorem dX12_keep_297 : decode cX12_keep 297 = .ok (.if_icmp .ne 22, 3) := by decide +kernel
theorem dX12_keep_300 : decode cX12_keep 300 = .ok (.iload 10, 2) := by decide +kernel
theorem dX12_keep_302 : decode cX12_keep 302 = .ok (.iload 8, 2) := by decide +kernel
theorem dX12_keep_304 : decode cX12_keep 304 = .ok (.if_icmp .ge 15, 3) := by decide +kernel
theorem dX12_keep_307 : decode cX12_keep 307 = .ok (.iload 9, 2) := by decide +kernel
theorem dX12_keep_309 : decode cX12_keep 309 = .ok (.istore 6, 2) := by decide +kernel
theorem dX12_keep_311 : decode cX12_keep 311 = .ok (.iload 11, 2) := by decide +kernel
theorem dX12_keep_313 : decode cX12_keep 313 = .ok (.istore 7, 2) := by decide +kernel
theorem dX12_keep_315 : decode cX12_keep 315 = .ok (.iload 10, 2) := by decide +kernel
theorem dX12_keep_317 : decode cX12_keep 317 = .ok (.istore 8, 2) := by decide +kernel
theorem dX12_keep_319 : decode cX12_keep 319 = .ok (.iinc 9 1, 3) := by decide +kernel
theorem dX12_keep_322 : decode cX12_keep 322 = .ok (.goto (-183), 3) := by decide +kernel
theorem dX12_keep_325 : decode cX12_keep 325 = .ok (.iload_n 3, 1) := by decide +kernel
theorem dX12_keep_326 : decode cX12_keep 326 = .ok (.ifCond .ne 8, 3) := by decide +kernel
theorem dX12_keep_329 : decode cX12_keep 329 = .ok (.iload 6, 2) := by decide +kernel
theorem dX12_keep_331 : decode cX12_keep 331 = .ok (.goto 5, 3) := by decide +kernel
theorem dX12_keep_334 : decode cX12_keep 334 = .ok (.iload 7, 2) := by decide +kernel
theorem dX12_keep_336 : decode cX12_keep 336 = .ok (.ireturn, 1) := by decide +kernel
theorem dX12_when_0 : decode cX12_when 0 = .ok (.aload_n 0, 1) := by decide +kernel
theorem dX12_when_1 : decode cX12_when 1 = .ok (.iload_n 1, 1) := by decide +kernel
theorem dX12_when_2 : decode cX12_when 2 = .ok (.iconst 2, 1) := by decide +kernel
theorem dX12_when_3 : decode cX12_when 3 = .ok (.invokevirtual 103, 3) := by decide +kernel
theorem dX12_when_6 : decode cX12_when 6 = .ok (.ifCond .eq 10, 3) := by decide +kernel
theorem dX12_when_9 : decode cX12_when 9 = .ok (.iload_n 2, 1) := by decide +kernel
theorem dX12_when_10 : decode cX12_when 10 = .ok (.invokestatic 281, 3) := by decide +kernel
theorem dX12_when_13 : decode cX12_when 13 = .ok (.ifCond .ne 10, 3) := by decide +kernel
theorem dX12_when_16 : decode cX12_when 16 = .ok (.aload_n 0, 1) := by decide +kernel
theorem dX12_when_17 : decode cX12_when 17 = .ok (.ldc 89, 2) := by decide +kernel
theorem dX12_when_19 : decode cX12_when 19 = .ok (.invokevirtual 90, 3) := by decide +kernel
theorem dX12_when_22 : decode cX12_when 22 = .ok (.ireturn, 1) := by decide +kernel
theorem dX12_when_23 : decode cX12_when 23 = .ok (.aload_n 0, 1) := by decide +kernel
theorem dX12_when_24 : decode cX12_when 24 = .ok (.iload_n 1, 1) := by decide +kernel
theorem dX12_when_25 : decode cX12_when 25 = .ok (.invokevirtual 158, 3) := by decide +kernel
theorem dX12_when_28 : decode cX12_when 28 = .ok (.ifCond .ne 11, 3) := by decide +kernel
theorem dX12_when_31 : decode cX12_when 31 = .ok (.aload_n 0, 1) := by decide +kernel
theorem dX12_when_32 : decode cX12_when 32 = .ok (.ldc_w 270, 3) := by decide +kernel
theorem dX12_when_35 : decode cX12_when 35 = .ok (.invokevirtual 90, 3) := by decide +kernel
theorem dX12_when_38 : decode cX12_when 38 = .ok (.ireturn, 1) := by decide +kernel
theorem dX12_when_39 : decode cX12_when 39 = .ok (.aload_n 0, 1) := by decide +kernel
theorem dX12_when_40 : decode cX12_when 40 = .ok (.getfield 9, 3) := by decide +kernel
theorem dX12_when_43 : decode cX12_when 43 = .ok (.aload_n 0, 1) := by decide +kernel
theorem dX12_when_44 : decode cX12_when 44 = .ok (.getfield 16, 3) := by decide +kernel
theorem dX12_when_47 : decode cX12_when 47 = .ok (.invokestatic 277, 3) := by decide +kernel
theorem dX12_when_50 : decode cX12_when 50 = .ok (.iconst (-1), 1) := by decide +kernel
theorem dX12_when_51 : decode cX12_when 51 = .ok (.istore_n 3, 1) := by decide +kernel
theorem dX12_when_52 : decode cX12_when 52 = .ok (.iconst 0, 1) := by decide +kernel
theorem dX12_when_53 : decode cX12_when 53 = .ok (.istore 4, 2) := by decide +kernel
theorem dX12_when_55 : decode cX12_when 55 = .ok (.iconst 0, 1) := by decide +kernel
theorem dX12_when_56 : decode cX12_when 56 = .ok (.istore 5, 2) := by decide +kernel
theorem dX12_when_58 : decode cX12_when 58 = .ok (.iload 5, 2) := by decide +kernel
theorem dX12_when_60 : decode cX12_when 60 = .ok (.iload_n 2, 1) := by decide +kernel
theorem dX12_when_61 : decode cX12_when 61 = .ok (.if_icmp .gt 80, 3) := by decide +kernel
theorem dX12_when_64 : decode cX12_when 64 = .ok (.aload_n 0, 1) := by decide +kernel
theorem dX12_when_65 : decode cX12_when 65 = .ok (.iload 5, 2) := by decide +kernel
theorem dX12_when_67 : decode cX12_when 67 = .ok (.invokevirtual 284, 3) := by decide +kernel
theorem dX12_when_70 : decode cX12_when 70 = .ok (.istore 6, 2) := by decide +kernel
theorem dX12_when_72 : decode cX12_when 72 = .ok (.aload_n 0, 1) := by decide +kernel
theorem dX12_when_73 : decode cX12_when 73 = .ok (.iload_n 1, 1) := by decide +kernel
theorem dX12_when_74 : decode cX12_when 74 = .ok (.iload 5, 2) := by decide +kernel
theorem dX12_when_76 : decode cX12_when 76 = .ok (.iload_n 2, 1) := by decide +kernel
theorem dX12_when_77 : decode cX12_when 77 = .ok (.if_icmp .ne 15, 3) := by decide +kernel
theorem dX12_when_80 : decode cX12_when 80 = .ok (.aload_n 0, 1) := by decide +kernel
theorem dX12_when_81 : decode cX12_when 81 = .ok (.iload_n 1, 1) := by decide +kernel
theorem dX12_when_82 : decode cX12_when 82 = .ok (.invokevirtual 158, 3) := by decide +kernel
theorem dX12_when_85 : decode cX12_when 85 = .ok (.ifCond .eq 7, 3) := by decide +kernel
theorem dX12_when_88 : decode cX12_when 88 = .ok (.iconst 1, 1) := by decide +kernel
theorem dX12_when_89 : decode cX12_when 89 = .ok (.goto 4, 3) := by decide +kernel
theorem dX12_when_92 : decode cX12_when 92 = .ok (.iconst 0, 1) := by decide +kernel
theorem dX12_when_93 : decode cX12_when 93 = .ok (.invokevirtual 246, 3) := by decide +kernel
theorem dX12_when_96 : decode cX12_when 96 = .ok (.aload_n 0, 1) := by decide +kernel
theorem dX12_when_97 : decode cX12_when 97 = .ok (.iload_n 2, 1) := by decide +kernel
theorem dX12_when_98 : decode cX12_when 98 = .ok (.iload 5, 2) := by decide +kernel
theorem dX12_when_100 : decode cX12_when 100 = .ok (.isub, 1) := by decide +kernel
theorem dX12_when_101 : decode cX12_when 101 = .ok (.invokevirtual 284, 3) := by decide +kernel
theorem dX12_when_104 : decode cX12_when 104 = .ok (.istore 6, 2) := by decide +kernel
theorem dX12_when_106 : decode cX12_when 106 = .ok (.aload_n 0, 1) := by decide +kernel
theorem dX12_when_107 : decode cX12_when 107 = .ok (.getfield 16, 3) := by decide +kernel
theorem dX12_when_110 : decode cX12_when 110 = .ok (.aload_n 0, 1) := by decide +kernel
theorem dX12_when_111 : decode cX12_when 111 = .ok (.getfield 9, 3) := by decide +kernel
theorem dX12_when_114 : decode cX12_when 114 = .ok (.invokestatic 277, 3) := by decide +kernel
theorem dX12_when_117 : decode cX12_when 117 = .ok (.iload_n 3, 1) := by decide +kernel
theorem dX12_when_118 : decode cX12_when 118 = .ok (.ifCond .lt 10, 3) := by decide +kernel
theorem dX12_when_121 : decode cX12_when 121 = .ok (.iload 6, 2) := by decide +kernel
theorem dX12_when_123 : decode cX12_when 123 = .ok (.iload 4, 2) := by decide +kernel
theorem dX12_when_125 : decode cX12_when 125 = .ok (.if_icmp .le 10, 3) := by decide +kernel
theorem dX12_when_128 : decode cX12_when 128 = .ok (.iload 5, 2) := by decide +kernel
theorem dX12_when_130 : decode cX12_when 130 = .ok (.istore_n 3, 1) := by decide +kernel
theorem dX12_when_131 : decode cX12_when 131 = .ok (.iload 6, 2) := by decide +kernel
theorem dX12_when_133 : decode cX12_when 133 = .ok (.istore 4, 2) := by decide +kernel
theorem dX12_when_135 : decode cX12_when 135 = .ok (.iinc 5 1, 3) := by decide +kernel
theorem dX12_when_138 : decode cX12_when 138 = .ok (.goto (-80), 3) := by decide +kernel
theorem dX12_when_141 : decode cX12_when 141 = .ok (.iload_n 3, 1) := by decide +kernel
theorem dX12_when_142 : decode cX12_when 142 = .ok (.ireturn, 1) := by decide +kernel
theorem dX12_worth_0 : decode cX12_worth 0 = .ok (.aload_n 0, 1) := by decide +kernel
theorem dX12_worth_1 : decode cX12_worth 1 = .ok (.iload_n 1, 1) := by decide +kernel
theorem dX12_worth_2 : decode cX12_worth 2 = .ok (.iconst 2, 1) := by decide +kernel
theorem dX12_worth_3 : decode cX12_worth 3 = .ok (.invokevirtual 103, 3) := by decide +kernel
theorem dX12_worth_6 : decode cX12_worth 6 = .ok (.ifCond .eq 10, 3) := by decide +kernel
theorem dX12_worth_9 : decode cX12_worth 9 = .ok (.iload_n 2, 1) := by decide +kernel
theorem dX12_worth_10 : decode cX12_worth 10 = .ok (.invokestatic 281, 3) := by decide +kernel
theorem dX12_worth_13 : decode cX12_worth 13 = .ok (.ifCond .ne 10, 3) := by decide +kernel
theorem dX12_worth_16 : decode cX12_worth 16 = .ok (.aload_n 0, 1) := by decide +kernel
theorem dX12_worth_17 : decode cX12_worth 17 = .ok (.ldc 89, 2) := by decide +kernel
theorem dX12_worth_19 : decode cX12_worth 19 = .ok (.invokevirtual 90, 3) := by decide +kernel
theorem dX12_worth_22 : decode cX12_worth 22 = .ok (.ireturn, 1) := by decide +kernel
theorem dX12_worth_23 : decode cX12_worth 23 = .ok (.aload_n 0, 1) := by decide +kernel
theorem dX12_worth_24 : decode cX12_worth 24 = .ok (.getfield 9, 3) := by decide +kernel
theorem dX12_worth_27 : decode cX12_worth 27 = .ok (.aload_n 0, 1) := by decide +kernel
theorem dX12_worth_28 : decode cX12_worth 28 = .ok (.getfield 16, 3) := by decide +kernel
theorem dX12_worth_31 : decode cX12_worth 31 = .ok (.invokestatic 277, 3) := by decide +kernel
theorem dX12_worth_34 : decode cX12_worth 34 = .ok (.aload_n 0, 1) := by decide +kernel
theorem dX12_worth_35 : decode cX12_worth 35 = .ok (.iload_n 1, 1) := by decide +kernel
theorem dX12_worth_36 : decode cX12_worth 36 = .ok (.iconst 1, 1) := by decide +kernel
theorem dX12_worth_37 : decode cX12_worth 37 = .ok (.invokevirtual 246, 3) := by decide +kernel
theorem dX12_worth_40 : decode cX12_worth 40 = .ok (.aload_n 0, 1) := by decide +kernel
theorem dX12_worth_41 : decode cX12_worth 41 = .ok (.aload_n 0, 1) := by decide +kernel
theorem dX12_worth_42 : decode cX12_worth 42 = .ok (.iload_n 2, 1) := by decide +kernel
theorem dX12_worth_43 : decode cX12_worth 43 = .ok (.invokevirtual 284, 3) := by decide +kernel
theorem dX12_worth_46 : decode cX12_worth 46 = .ok (.invokevirtual 290, 3) := by decide +kernel
theorem dX12_worth_49 : decode cX12_worth 49 = .ok (.istore_n 3, 1) := by decide +kernel
theorem dX12_worth_50 : decode cX12_worth 50 = .ok (.aload_n 0, 1) := by decide +kernel
theorem dX12_worth_51 : decode cX12_worth 51 = .ok (.iload_n 1, 1) := by decide +kernel
theorem dX12_worth_52 : decode cX12_worth 52 = .ok (.iconst 0, 1) := by decide +kernel
theorem dX12_worth_53 : decode cX12_worth 53 = .ok (.invokevirtual 246, 3) := by decide +kernel
theorem dX12_worth_56 : decode cX12_worth 56 = .ok (.iload_n 3, 1) := by decide +kernel
theorem dX12_worth_57 : decode cX12_worth 57 = .ok (.aload_n 0, 1) := by decide +kernel
theorem dX12_worth_58 : decode cX12_worth 58 = .ok (.aload_n 0, 1) := by decide +kernel
theorem dX12_worth_59 : decode cX12_worth 59 = .ok (.iload_n 2, 1) := by decide +kernel
theorem dX12_worth_60 : decode cX12_worth 60 = .ok (.invokevirtual 284, 3) := by decide +kernel
theorem dX12_worth_63 : decode cX12_worth 63 = .ok (.invokevirtual 290, 3) := by decide +kernel
theorem dX12_worth_66 : decode cX12_worth 66 = .ok (.isub, 1) := by decide +kernel
theorem dX12_worth_67 : decode cX12_worth 67 = .ok (.ireturn, 1) := by decide +kernel
theorem dX12_promised_0 : decode cX12_promised 0 = .ok (.aload_n 0, 1) := by decide +kernel
theorem dX12_promised_1 : decode cX12_promised 1 = .ok (.iload_n 1, 1) := by decide +kernel
theorem dX12_promised_2 : decode cX12_promised 2 = .ok (.iconst 2, 1) := by decide +kernel
theorem dX12_promised_3 : decode cX12_promised 3 = .ok (.invokevirtual 103, 3) := by decide +kernel
theorem dX12_promised_6 : decode cX12_promised 6 = .ok (.ifCond .eq 21, 3) := by decide +kernel
theorem dX12_promised_9 : decode cX12_promised 9 = .ok (.iload_n 2, 1) := by decide +kernel
theorem dX12_promised_10 : decode cX12_promised 10 = .ok (.iconst 0, 1) := by decide +kernel
theorem dX12_promised_11 : decode cX12_promised 11 = .ok (.sipush 199, 3) := by decide +kernel
theorem dX12_promised_14 : decode cX12_promised 14 = .ok (.invokestatic 76, 3) := by decide +kernel
theorem dX12_promised_17 : decode cX12_promised 17 = .ok (.ifCond .eq 10, 3) := by decide +kernel
theorem dX12_promised_20 : decode cX12_promised 20 = .ok (.iload_n 3, 1) := by decide +kernel
theorem dX12_promised_21 : decode cX12_promised 21 = .ok (.invokestatic 281, 3) := by decide +kernel
theorem dX12_promised_24 : decode cX12_promised 24 = .ok (.ifCond .ne 10, 3) := by decide +kernel
theorem dX12_promised_27 : decode cX12_promised 27 = .ok (.aload_n 0, 1) := by decide +kernel
theorem dX12_promised_28 : decode cX12_promised 28 = .ok (.ldc 89, 2) := by decide +kernel
theorem dX12_promised_30 : decode cX12_promised 30 = .ok (.invokevirtual 90, 3) := by decide +kernel
theorem dX12_promised_33 : decode cX12_promised 33 = .ok (.ireturn, 1) := by decide +kernel
theorem dX12_promised_34 : decode cX12_promised 34 = .ok (.aload_n 0, 1) := by decide +kernel
theorem dX12_promised_35 : decode cX12_promised 35 = .ok (.getfield 9, 3) := by decide +kernel
theorem dX12_promised_38 : decode cX12_promised 38 = .ok (.aload_n 0, 1) := by decide +kernel
theorem dX12_promised_39 : decode cX12_promised 39 = .ok (.getfield 16, 3) := by decide +kernel
theorem dX12_promised_42 : decode cX12_promised 42 = .ok (.invokestatic 277, 3) := by decide +kernel
theorem dX12_promised_45 : decode cX12_promised 45 = .ok (.aload_n 0, 1) := by decide +kernel
theorem dX12_promised_46 : decode cX12_promised 46 = .ok (.getfield 9, 3) := by decide +kernel
theorem dX12_promised_49 : decode cX12_promised 49 = .ok (.bipush 112, 2) := by decide +kernel
theorem dX12_promised_51 : decode cX12_promised 51 = .ok (.bipush 7, 2) := by decide +kernel
theorem dX12_promised_53 : decode cX12_promised 53 = .ok (.iload_n 1, 1) := by decide +kernel
theorem dX12_promised_54 : decode cX12_promised 54 = .ok (.imul, 1) := by decide +kernel
theorem dX12_promised_55 : decode cX12_promised 55 = .ok (.iadd, 1) := by decide +kernel
theorem dX12_promised_56 : decode cX12_promised 56 = .ok (.bipush 6, 2) := by decide +kernel
theorem dX12_promised_58 : decode cX12_promised 58 = .ok (.iadd, 1) := by decide +kernel
theorem dX12_promised_59 : decode cX12_promised 59 = .ok (.iload_n 2, 1) := by decide +kernel
theorem dX12_promised_60 : decode cX12_promised 60 = .ok (.iastore, 1) := by decide +kernel
theorem dX12_promised_61 : decode cX12_promised 61 = .ok (.aload_n 0, 1) := by decide +kernel
theorem dX12_promised_62 : decode cX12_promised 62 = .ok (.aload_n 0, 1) := by decide +kernel
theorem dX12_promised_63 : decode cX12_promised 63 = .ok (.iload_n 3, 1) := by decide +kernel
theorem dX12_promised_64 : decode cX12_promised 64 = .ok (.invokevirtual 284, 3) := by decide +kernel
theorem dX12_promised_67 : decode cX12_promised 67 = .ok (.invokevirtual 290, 3) := by decide +kernel
theorem dX12_promised_70 : decode cX12_promised 70 = .ok (.istore 4, 2) := by decide +kernel
theorem dX12_promised_72 : decode cX12_promised 72 = .ok (.aload_n 0, 1) := by decide +kernel
theorem dX12_promised_73 : decode cX12_promised 73 = .ok (.getfield 9, 3) := by decide +kernel
theorem dX12_promised_76 : decode cX12_promised 76 = .ok (.bipush 112, 2) := by decide +kernel
theorem dX12_promised_78 : decode cX12_promised 78 = .ok (.bipush 7, 2) := by decide +kernel
theorem dX12_promised_80 : decode cX12_promised 80 = .ok (.iload_n 1, 1) := by decide +kernel
theorem dX12_promised_81 : decode cX12_promised 81 = .ok (.imul, 1) := by decide +kernel
theorem dX12_promised_82 : decode cX12_promised 82 = .ok (.iadd, 1) := by decide +kernel
theorem dX12_promised_83 : decode cX12_promised 83 = .ok (.bipush 6, 2) := by decide +kernel
theorem dX12_promised_85 : decode cX12_promised 85 = .ok (.iadd, 1) := by decide +kernel
theorem dX12_promised_86 : decode cX12_promised 86 = .ok (.iconst (-1), 1) := by decide +kernel
theorem dX12_promised_87 : decode cX12_promised 87 = .ok (.iastore, 1) := by decide +kernel
theorem dX12_promised_88 : decode cX12_promised 88 = .ok (.iload 4, 2) := by decide +kernel
theorem dX12_promised_90 : decode cX12_promised 90 = .ok (.aload_n 0, 1) := by decide +kernel
theorem dX12_promised_91 : decode cX12_promised 91 = .ok (.aload_n 0, 1) := by decide +kernel
theorem dX12_promised_92 : decode cX12_promised 92 = .ok (.iload_n 3, 1) := by decide +kernel
theorem dX12_promised_93 : decode cX12_promised 93 = .ok (.invokevirtual 284, 3) := by decide +kernel
theorem dX12_promised_96 : decode cX12_promised 96 = .ok (.invokevirtual 290, 3) := by decide +kernel
theorem dX12_promised_99 : decode cX12_promised 99 = .ok (.isub, 1) := by decide +kernel
theorem dX12_promised_100 : decode cX12_promised 100 = .ok (.ireturn, 1) := by decide +kernel
theorem dX12_edge_0 : decode cX12_edge 0 = .ok (.aload_n 0, 1) := by decide +kernel
theorem dX12_edge_1 : decode cX12_edge 1 = .ok (.iload_n 1, 1) := by decide +kernel
theorem dX12_edge_2 : decode cX12_edge 2 = .ok (.iconst 2, 1) := by decide +kernel
theorem dX12_edge_3 : decode cX12_edge 3 = .ok (.invokevirtual 103, 3) := by decide +kernel
theorem dX12_edge_6 : decode cX12_edge 6 = .ok (.ifCond .eq 10, 3) := by decide +kernel
theorem dX12_edge_9 : decode cX12_edge 9 = .ok (.iload_n 2, 1) := by decide +kernel
theorem dX12_edge_10 : decode cX12_edge 10 = .ok (.invokestatic 281, 3) := by decide +kernel
theorem dX12_edge_13 : decode cX12_edge 13 = .ok (.ifCond .ne 10, 3) := by decide +kernel
theorem dX12_edge_16 : decode cX12_edge 16 = .ok (.aload_n 0, 1) := by decide +kernel
theorem dX12_edge_17 : decode cX12_edge 17 = .ok (.ldc 89, 2) := by decide +kernel
theorem dX12_edge_19 : decode cX12_edge 19 = .ok (.invokevirtual 90, 3) := by decide +kernel
theorem dX12_edge_22 : decode cX12_edge 22 = .ok (.ireturn, 1) := by decide +kernel
theorem dX12_edge_23 : decode cX12_edge 23 = .ok (.aload_n 0, 1) := by decide +kernel
theorem dX12_edge_24 : decode cX12_edge 24 = .ok (.getfield 9, 3) := by decide +kernel
theorem dX12_edge_27 : decode cX12_edge 27 = .ok (.aload_n 0, 1) := by decide +kernel
theorem dX12_edge_28 : decode cX12_edge 28 = .ok (.getfield 16, 3) := by decide +kernel
theorem dX12_edge_31 : decode cX12_edge 31 = .ok (.invokestatic 277, 3) := by decide +kernel
theorem dX12_edge_34 : decode cX12_edge 34 = .ok (.iconst 0, 1) := by decide +kernel
theorem dX12_edge_35 : decode cX12_edge 35 = .ok (.istore_n 3, 1) := by decide +kernel
theorem dX12_edge_36 : decode cX12_edge 36 = .ok (.iload_n 3, 1) := by decide +kernel
theorem dX12_edge_37 : decode cX12_edge 37 = .ok (.sipush 400, 3) := by decide +kernel
theorem dX12_edge_40 : decode cX12_edge 40 = .ok (.if_icmp .gt 70, 3) := by decide +kernel
theorem dX12_edge_43 : decode cX12_edge 43 = .ok (.aload_n 0, 1) := by decide +kernel
theorem dX12_edge_44 : decode cX12_edge 44 = .ok (.iload_n 1, 1) := by decide +kernel
theorem dX12_edge_45 : decode cX12_edge 45 = .ok (.invokevirtual 158, 3) := by decide +kernel
theorem dX12_edge_48 : decode cX12_edge 48 = .ok (.ifCond .eq 62, 3) := by decide +kernel
theorem dX12_edge_51 : decode cX12_edge 51 = .ok (.aload_n 0, 1) := by decide +kernel
theorem dX12_edge_52 : decode cX12_edge 52 = .ok (.getfield 9, 3) := by decide +kernel
theorem dX12_edge_55 : decode cX12_edge 55 = .ok (.bipush 16, 2) := by decide +kernel
theorem dX12_edge_57 : decode cX12_edge 57 = .ok (.iconst 4, 1) := by decide +kernel
theorem dX12_edge_58 : decode cX12_edge 58 = .ok (.aload_n 0, 1) := by decide +kernel
theorem dX12_edge_59 : decode cX12_edge 59 = .ok (.iload_n 1, 1) := by decide +kernel
theorem dX12_edge_60 : decode cX12_edge 60 = .ok (.iconst 1, 1) := by decide +kernel
theorem dX12_edge_61 : decode cX12_edge 61 = .ok (.invokevirtual 136, 3) := by decide +kernel
theorem dX12_edge_64 : decode cX12_edge 64 = .ok (.imul, 1) := by decide +kernel
theorem dX12_edge_65 : decode cX12_edge 65 = .ok (.iadd, 1) := by decide +kernel
theorem dX12_edge_66 : decode cX12_edge 66 = .ok (.iconst 1, 1) := by decide +kernel
theorem dX12_edge_67 : decode cX12_edge 67 = .ok (.iadd, 1) := by decide +kernel
theorem dX12_edge_68 : decode cX12_edge 68 = .ok (.iconst 0, 1) := by decide +kernel
theorem dX12_edge_69 : decode cX12_edge 69 = .ok (.iadd, 1) := by decide +kernel
theorem dX12_edge_70 : decode cX12_edge 70 = .ok (.iload_n 3, 1) := by decide +kernel
theorem dX12_edge_71 : decode cX12_edge 71 = .ok (.iastore, 1) := by decide +kernel
theorem dX12_edge_72 : decode cX12_edge 72 = .ok (.aload_n 0, 1) := by decide +kernel
theorem dX12_edge_73 : decode cX12_edge 73 = .ok (.iload_n 2, 1) := by decide +kernel
theorem dX12_edge_74 : decode cX12_edge 74 = .ok (.invokevirtual 284, 3) := by decide +kernel
theorem dX12_edge_77 : decode cX12_edge 77 = .ok (.istore 4, 2) := by decide +kernel
theorem dX12_edge_79 : decode cX12_edge 79 = .ok (.aload_n 0, 1) := by decide +kernel
theorem dX12_edge_80 : decode cX12_edge 80 = .ok (.iload_n 1, 1) := by decide +kernel
theorem dX12_edge_81 : decode cX12_edge 81 = .ok (.invokevirtual 158, 3) := by decide +kernel
theorem dX12_edge_84 : decode cX12_edge 84 = .ok (.istore 5, 2) := by decide +kernel
theorem dX12_edge_86 : decode cX12_edge 86 = .ok (.aload_n 0, 1) := by decide +kernel
theorem dX12_edge_87 : decode cX12_edge 87 = .ok (.getfield 16, 3) := by decide +kernel
theorem dX12_edge_90 : decode cX12_edge 90 = .ok (.aload_n 0, 1) := by decide +kernel
theorem dX12_edge_91 : decode cX12_edge 91 = .ok (.getfield 9, 3) := by decide +kernel
theorem dX12_edge_94 : decode cX12_edge 94 = .ok (.invokestatic 277, 3) := by decide +kernel
theorem dX12_edge_97 : decode cX12_edge 97 = .ok (.iload 5, 2) := by decide +kernel
theorem dX12_edge_99 : decode cX12_edge 99 = .ok (.ifCond .eq 5, 3) := by decide +kernel
theorem dX12_edge_102 : decode cX12_edge 102 = .ok (.iload_n 3, 1) := by decide +kernel
theorem dX12_edge_103 : decode cX12_edge 103 = .ok (.ireturn, 1) := by decide +kernel
theorem dX12_edge_104 : decode cX12_edge 104 = .ok (.iinc 3 1, 3) := by decide +kernel
theorem dX12_edge_107 : decode cX12_edge 107 = .ok (.goto (-71), 3) := by decide +kernel
theorem dX12_edge_110 : decode cX12_edge 110 = .ok (.aload_n 0, 1) := by decide +kernel
theorem dX12_edge_111 : decode cX12_edge 111 = .ok (.ldc 119, 2) := by decide +kernel
theorem dX12_edge_113 : decode cX12_edge 113 = .ok (.invokevirtual 90, 3) := by decide +kernel
theorem dX12_edge_116 : decode cX12_edge 116 = .ok (.ireturn, 1) := by decide +kernel
theorem dX12_siteOf_0 : decode cX12_siteOf 0 = .ok (.iconst 0, 1) := by decide +kernel
theorem dX12_siteOf_1 : decode cX12_siteOf 1 = .ok (.istore_n 2, 1) := by decide +kernel
theorem dX12_siteOf_2 : decode cX12_siteOf 2 = .ok (.iconst (-1), 1) := by decide +kernel
theorem dX12_siteOf_3 : decode cX12_siteOf 3 = .ok (.istore_n 3, 1) := by decide +kernel
theorem dX12_siteOf_4 : decode cX12_siteOf 4 = .ok (.iconst 0, 1) := by decide +kernel
theorem dX12_siteOf_5 : decode cX12_siteOf 5 = .ok (.istore 4, 2) := by decide +kernel
theorem dX12_siteOf_7 : decode cX12_siteOf 7 = .ok (.iload 4, 2) := by decide +kernel
theorem dX12_siteOf_9 : decode cX12_siteOf 9 = .ok (.aload_n 0, 1) := by decide +kernel
theorem dX12_siteOf_10 : decode cX12_siteOf 10 = .ok (.getfield 9, 3) := by decide +kernel
theorem dX12_siteOf_13 : decode cX12_siteOf 13 = .ok (.iconst 1, 1) := by decide +kernel
theorem dX12_siteOf_14 : decode cX12_siteOf 14 = .ok (.iaload, 1) := by decide +kernel
theorem dX12_siteOf_15 : decode cX12_siteOf 15 = .ok (.if_icmp .ge 41, 3) := by decide +kernel
theorem dX12_siteOf_18 : decode cX12_siteOf 18 = .ok (.aload_n 0, 1) := by decide +kernel
theorem dX12_siteOf_19 : decode cX12_siteOf 19 = .ok (.aload_n 0, 1) := by decide +kernel
theorem dX12_siteOf_20 : decode cX12_siteOf 20 = .ok (.iload_n 1, 1) := by decide +kernel
theorem dX12_siteOf_21 : decode cX12_siteOf 21 = .ok (.iconst 0, 1) := by decide +kernel
theorem dX12_siteOf_22 : decode cX12_siteOf 22 = .ok (.invokevirtual 136, 3) := by decide +kernel
theorem dX12_siteOf_25 : decode cX12_siteOf 25 = .ok (.aload_n 0, 1) := by decide +kernel
theorem dX12_siteOf_26 : decode cX12_siteOf 26 = .ok (.iload_n 1, 1) := by decide +kernel
theorem dX12_siteOf_27 : decode cX12_siteOf 27 = .ok (.iconst 4, 1) := by decide +kernel
theorem dX12_siteOf_28 : decode cX12_siteOf 28 = .ok (.invokevirtual 136, 3) := by decide +kernel
theorem dX12_siteOf_31 : decode cX12_siteOf 31 = .ok (.iload 4, 2) := by decide +kernel
theorem dX12_siteOf_33 : decode cX12_siteOf 33 = .ok (.invokevirtual 146, 3) := by decide +kernel
theorem dX12_siteOf_36 : decode cX12_siteOf 36 = .ok (.istore 5, 2) := by decide +kernel
theorem dX12_siteOf_38 : decode cX12_siteOf 38 = .ok (.iload 5, 2) := by decide +kernel
theorem dX12_siteOf_40 : decode cX12_siteOf 40 = .ok (.iload_n 3, 1) := by decide +kernel
theorem dX12_siteOf_41 : decode cX12_siteOf 41 = .ok (.if_icmp .le 9, 3) := by decide +kernel
theorem dX12_siteOf_44 : decode cX12_siteOf 44 = .ok (.iload 4, 2) := by decide +kernel
theorem dX12_siteOf_46 : decode cX12_siteOf 46 = .ok (.istore_n 2, 1) := by decide +kernel
theorem dX12_siteOf_47 : decode cX12_siteOf 47 = .ok (.iload 5, 2) := by decide +kernel
theorem dX12_siteOf_49 : decode cX12_siteOf 49 = .ok (.istore_n 3, 1) := by decide +kernel
theorem dX12_siteOf_50 : decode cX12_siteOf 50 = .ok (.iinc 4 1, 3) := by decide +kernel
theorem dX12_siteOf_53 : decode cX12_siteOf 53 = .ok (.goto (-46), 3) := by decide +kernel
theorem dX12_siteOf_56 : decode cX12_siteOf 56 = .ok (.iload_n 2, 1) := by decide +kernel
theorem dX12_siteOf_57 : decode cX12_siteOf 57 = .ok (.ireturn, 1) := by decide +kernel
theorem dX12_areTwo_0 : decode cX12_areTwo 0 = .ok (.aload_n 0, 1) := by decide +kernel
theorem dX12_areTwo_1 : decode cX12_areTwo 1 = .ok (.iload_n 1, 1) := by decide +kernel
theorem dX12_areTwo_2 : decode cX12_areTwo 2 = .ok (.iconst 2, 1) := by decide +kernel
theorem dX12_areTwo_3 : decode cX12_areTwo 3 = .ok (.invokevirtual 103, 3) := by decide +kernel
theorem dX12_areTwo_6 : decode cX12_areTwo 6 = .ok (.ifCond .eq 21, 3) := by decide +kernel
theorem dX12_areTwo_9 : decode cX12_areTwo 9 = .ok (.aload_n 0, 1) := by decide +kernel
theorem dX12_areTwo_10 : decode cX12_areTwo 10 = .ok (.iload_n 2, 1) := by decide +kernel
theorem dX12_areTwo_11 : decode cX12_areTwo 11 = .ok (.iconst 2, 1) := by decide +kernel
theorem dX12_areTwo_12 : decode cX12_areTwo 12 = .ok (.invokevirtual 103, 3) := by decide +kernel
theorem dX12_areTwo_15 : decode cX12_areTwo 15 = .ok (.ifCond .eq 12, 3) := by decide +kernel
theorem dX12_areTwo_18 : decode cX12_areTwo 18 = .ok (.iload_n 1, 1) := by decide +kernel
theorem dX12_areTwo_19 : decode cX12_areTwo 19 = .ok (.iload_n 2, 1) := by decide +kernel
theorem dX12_areTwo_20 : decode cX12_areTwo 20 = .ok (.if_icmp .eq 7, 3) := by decide +kernel
theorem dX12_areTwo_23 : decode cX12_areTwo 23 = .ok (.iconst 1, 1) := by decide +kernel
theorem dX12_areTwo_24 : decode cX12_areTwo 24 = .ok (.goto 4, 3) := by decide +kernel
theorem dX12_areTwo_27 : decode cX12_areTwo 27 = .ok (.iconst 0, 1) := by decide +kernel
theorem dX12_areTwo_28 : decode cX12_areTwo 28 = .ok (.ireturn, 1) := by decide +kernel
theorem dX12_site_0 : decode cX12_site 0 = .ok (.aload_n 0, 1) := by decide +kernel
theorem dX12_site_1 : decode cX12_site 1 = .ok (.iload_n 1, 1) := by decide +kernel
theorem dX12_site_2 : decode cX12_site 2 = .ok (.iload_n 2, 1) := by decide +kernel
theorem dX12_site_3 : decode cX12_site 3 = .ok (.invokevirtual 293, 3) := by decide +kernel
theorem dX12_site_6 : decode cX12_site 6 = .ok (.ifCond .ne 10, 3) := by decide +kernel
theorem dX12_site_9 : decode cX12_site 9 = .ok (.aload_n 0, 1) := by decide +kernel
theorem dX12_site_10 : decode cX12_site 10 = .ok (.ldc 89, 2) := by decide +kernel
theorem dX12_site_12 : decode cX12_site 12 = .ok (.invokevirtual 90, 3) := by decide +kernel
theorem dX12_site_15 : decode cX12_site 15 = .ok (.ireturn, 1) := by decide +kernel
theorem dX12_site_16 : decode cX12_site 16 = .ok (.aload_n 0, 1) := by decide +kernel
theorem dX12_site_17 : decode cX12_site 17 = .ok (.iload_n 1, 1) := by decide +kernel
theorem dX12_site_18 : decode cX12_site 18 = .ok (.iconst 0, 1) := by decide +kernel
theorem dX12_site_19 : decode cX12_site 19 = .ok (.invokevirtual 136, 3) := by decide +kernel
theorem dX12_site_22 : decode cX12_site 22 = .ok (.aload_n 0, 1) := by decide +kernel
theorem dX12_site_23 : decode cX12_site 23 = .ok (.iload_n 2, 1) := by decide +kernel
theorem dX12_site_24 : decode cX12_site 24 = .ok (.iconst 0, 1) := by decide +kernel
theorem dX12_site_25 : decode cX12_site 25 = .ok (.invokevirtual 136, 3) := by decide +kernel
theorem dX12_site_28 : decode cX12_site 28 = .ok (.if_icmp .ne 11, 3) := by decide +kernel
theorem dX12_site_31 : decode cX12_site 31 = .ok (.aload_n 0, 1) := by decide +kernel
theorem dX12_site_32 : decode cX12_site 32 = .ok (.iload_n 1, 1) := by decide +kernel
theorem dX12_site_33 : decode cX12_site 33 = .ok (.invokevirtual 296, 3) := by decide +kernel
theorem dX12_site_36 : decode cX12_site 36 = .ok (.goto 9, 3) := by decide +kernel
theorem dX12_site_39 : decode cX12_site 39 = .ok (.aload_n 0, 1) := by decide +kernel
theorem dX12_site_40 : decode cX12_site 40 = .ok (.ldc 157, 2) := by decide +kernel
theorem dX12_site_42 : decode cX12_site 42 = .ok (.invokevirtual 90, 3) := by decide +kernel
theorem dX12_site_45 : decode cX12_site 45 = .ok (.ireturn, 1) := by decide +kernel
theorem dX12_join_0 : decode cX12_join 0 = .ok (.aload_n 0, 1) := by decide +kernel
theorem dX12_join_1 : decode cX12_join 1 = .ok (.iload_n 1, 1) := by decide +kernel
theorem dX12_join_2 : decode cX12_join 2 = .ok (.iload_n 2, 1) := by decide +kernel
theorem dX12_join_3 : decode cX12_join 3 = .ok (.invokevirtual 293, 3) := by decide +kernel
theorem dX12_join_6 : decode cX12_join 6 = .ok (.ifCond .ne 10, 3) := by decide +kernel
theorem dX12_join_9 : decode cX12_join 9 = .ok (.aload_n 0, 1) := by decide +kernel
theorem dX12_join_10 : decode cX12_join 10 = .ok (.ldc 89, 2) := by decide +kernel
theorem dX12_join_12 : decode cX12_join 12 = .ok (.invokevirtual 90, 3) := by decide +kernel
theorem dX12_join_15 : decode cX12_join 15 = .ok (.ireturn, 1) := by decide +kernel
theorem dX12_join_16 : decode cX12_join 16 = .ok (.aload_n 0, 1) := by decide +kernel
theorem dX12_join_17 : decode cX12_join 17 = .ok (.iload_n 1, 1) := by decide +kernel
theorem dX12_join_18 : decode cX12_join 18 = .ok (.iconst 0, 1) := by decide +kernel
theorem dX12_join_19 : decode cX12_join 19 = .ok (.invokevirtual 136, 3) := by decide +kernel
theorem dX12_join_22 : decode cX12_join 22 = .ok (.aload_n 0, 1) := by decide +kernel
theorem dX12_join_23 : decode cX12_join 23 = .ok (.iload_n 2, 1) := by decide +kernel
theorem dX12_join_24 : decode cX12_join 24 = .ok (.iconst 0, 1) := by decide +kernel
theorem dX12_join_25 : decode cX12_join 25 = .ok (.invokevirtual 136, 3) := by decide +kernel
theorem dX12_join_28 : decode cX12_join 28 = .ok (.if_icmp .eq 10, 3) := by decide +kernel
theorem dX12_join_31 : decode cX12_join 31 = .ok (.aload_n 0, 1) := by decide +kernel
theorem dX12_join_32 : decode cX12_join 32 = .ok (.ldc 157, 2) := by decide +kernel
theorem dX12_join_34 : decode cX12_join 34 = .ok (.invokevirtual 90, 3) := by decide +kernel
theorem dX12_join_37 : decode cX12_join 37 = .ok (.ireturn, 1) := by decide +kernel
theorem dX12_join_38 : decode cX12_join 38 = .ok (.aload_n 0, 1) := by decide +kernel
theorem dX12_join_39 : decode cX12_join 39 = .ok (.getfield 9, 3) := by decide +kernel
theorem dX12_join_42 : decode cX12_join 42 = .ok (.iconst 2, 1) := by decide +kernel
theorem dX12_join_43 : decode cX12_join 43 = .ok (.iaload, 1) := by decide +kernel
theorem dX12_join_44 : decode cX12_join 44 = .ok (.bipush 10, 2) := by decide +kernel
theorem dX12_join_46 : decode cX12_join 46 = .ok (.if_icmp .ne 10, 3) := by decide +kernel
theorem dX12_join_49 : decode cX12_join 49 = .ok (.aload_n 0, 1) := by decide +kernel
theorem dX12_join_50 : decode cX12_join 50 = .ok (.ldc 94, 2) := by decide +kernel
theorem dX12_join_52 : decode cX12_join 52 = .ok (.invokevirtual 90, 3) := by decide +kernel
theorem dX12_join_55 : decode cX12_join 55 = .ok (.ireturn, 1) := by decide +kernel
theorem dX12_join_56 : decode cX12_join 56 = .ok (.aload_n 0, 1) := by decide +kernel
theorem dX12_join_57 : decode cX12_join 57 = .ok (.iload_n 1, 1) := by decide +kernel
theorem dX12_join_58 : decode cX12_join 58 = .ok (.iconst 0, 1) := by decide +kernel
theorem dX12_join_59 : decode cX12_join 59 = .ok (.invokevirtual 246, 3) := by decide +kernel
theorem dX12_join_62 : decode cX12_join 62 = .ok (.aload_n 0, 1) := by decide +kernel
theorem dX12_join_63 : decode cX12_join 63 = .ok (.iload_n 2, 1) := by decide +kernel
theorem dX12_join_64 : decode cX12_join 64 = .ok (.iconst 0, 1) := by decide +kernel
theorem dX12_join_65 : decode cX12_join 65 = .ok (.invokevirtual 246, 3) := by decide +kernel
theorem dX12_join_68 : decode cX12_join 68 = .ok (.sipush 999, 3) := by decide +kernel
theorem dX12_join_71 : decode cX12_join 71 = .ok (.aload_n 0, 1) := by decide +kernel
theorem dX12_join_72 : decode cX12_join 72 = .ok (.iload_n 1, 1) := by decide +kernel
theorem dX12_join_73 : decode cX12_join 73 = .ok (.iconst 2, 1) := by decide +kernel
theorem dX12_join_74 : decode cX12_join 74 = .ok (.invokevirtual 136, 3) := by decide +kernel
theorem dX12_join_77 : decode cX12_join 77 = .ok (.aload_n 0, 1) := by decide +kernel
theorem dX12_join_78 : decode cX12_join 78 = .ok (.iload_n 2, 1) := by decide +kernel
theorem dX12_join_79 : decode cX12_join 79 = .ok (.iconst 2, 1) := by decide +kernel
theorem dX12_join_80 : decode cX12_join 80 = .ok (.invokevirtual 136, 3) := by decide +kernel
theorem dX12_join_83 : decode cX12_join 83 = .ok (.iadd, 1) := by decide +kernel
theorem dX12_join_84 : decode cX12_join 84 = .ok (.invokestatic 231, 3) := by decide +kernel
theorem dX12_join_87 : decode cX12_join 87 = .ok (.istore_n 3, 1) := by decide +kernel
theorem dX12_join_88 : decode cX12_join 88 = .ok (.aload_n 0, 1) := by decide +kernel
theorem dX12_join_89 : decode cX12_join 89 = .ok (.aload_n 0, 1) := by decide +kernel
theorem dX12_join_90 : decode cX12_join 90 = .ok (.iload_n 1, 1) := by decide +kernel
theorem dX12_join_91 : decode cX12_join 91 = .ok (.iconst 0, 1) := by decide +kernel
theorem dX12_join_92 : decode cX12_join 92 = .ok (.invokevirtual 136, 3) := by decide +kernel
theorem dX12_join_95 : decode cX12_join 95 = .ok (.aload_n 0, 1) := by decide +kernel
theorem dX12_join_96 : decode cX12_join 96 = .ok (.iload_n 1, 1) := by decide +kernel
theorem dX12_join_97 : decode cX12_join 97 = .ok (.invokevirtual 296, 3) := by decide +kernel
theorem dX12_join_100 : decode cX12_join 100 = .ok (.iload_n 3, 1) := by decide +kernel
theorem dX12_join_101 : decode cX12_join 101 = .ok (.aload_n 0, 1) := by decide +kernel
theorem dX12_join_102 : decode cX12_join 102 = .ok (.iload_n 1, 1) := by decide +kernel
theorem dX12_join_103 : decode cX12_join 103 = .ok (.iconst 3, 1) := by decide +kernel
theorem dX12_join_104 : decode cX12_join 104 = .ok (.invokevirtual 136, 3) := by decide +kernel
theorem dX12_join_107 : decode cX12_join 107 = .ok (.aload_n 0, 1) := by decide +kernel
theorem dX12_join_108 : decode cX12_join 108 = .ok (.iload_n 1, 1) := by decide +kernel
theorem dX12_join_109 : decode cX12_join 109 = .ok (.iconst 4, 1) := by decide +kernel
theorem dX12_join_110 : decode cX12_join 110 = .ok (.invokevirtual 136, 3) := by decide +kernel
theorem dX12_join_113 : decode cX12_join 113 = .ok (.invokevirtual 139, 3) := by decide +kernel
theorem dX12_join_116 : decode cX12_join 116 = .ok (.ireturn, 1) := by decide +kernel
theorem dX12_road_0 : decode cX12_road 0 = .ok (.iload_n 1, 1) := by decide +kernel
theorem dX12_road_1 : decode cX12_road 1 = .ok (.invokestatic 281, 3) := by decide +kernel
theorem dX12_road_4 : decode cX12_road 4 = .ok (.ifCond .ne 10, 3) := by decide +kernel
theorem dX12_road_7 : decode cX12_road 7 = .ok (.aload_n 0, 1) := by decide +kernel
theorem dX12_road_8 : decode cX12_road 8 = .ok (.ldc 89, 2) := by decide +kernel
theorem dX12_road_10 : decode cX12_road 10 = .ok (.invokevirtual 90, 3) := by decide +kernel
theorem dX12_road_13 : decode cX12_road 13 = .ok (.ireturn, 1) := by decide +kernel
theorem dX12_road_14 : decode cX12_road 14 = .ok (.aload_n 0, 1) := by decide +kernel
theorem dX12_road_15 : decode cX12_road 15 = .ok (.getfield 9, 3) := by decide +kernel
theorem dX12_road_18 : decode cX12_road 18 = .ok (.aload_n 0, 1) := by decide +kernel
theorem dX12_road_19 : decode cX12_road 19 = .ok (.getfield 16, 3) := by decide +kernel
theorem dX12_road_22 : decode cX12_road 22 = .ok (.invokestatic 277, 3) := by decide +kernel
theorem dX12_road_25 : decode cX12_road 25 = .ok (.iconst (-1), 1) := by decide +kernel
theorem dX12_road_26 : decode cX12_road 26 = .ok (.istore_n 2, 1) := by decide +kernel
theorem dX12_road_27 : decode cX12_road 27 = .ok (.iconst 0, 1) := by decide +kernel
theorem dX12_road_28 : decode cX12_road 28 = .ok (.istore_n 3, 1) := by decide +kernel
theorem dX12_road_29 : decode cX12_road 29 = .ok (.iconst 0, 1) := by decide +kernel
theorem dX12_road_30 : decode cX12_road 30 = .ok (.istore 4, 2) := by decide +kernel
theorem dX12_road_32 : decode cX12_road 32 = .ok (.iload 4, 2) := by decide +kernel
theorem dX12_road_34 : decode cX12_road 34 = .ok (.aload_n 0, 1) := by decide +kernel
theorem dX12_road_35 : decode cX12_road 35 = .ok (.getfield 9, 3) := by decide +kernel
theorem dX12_road_38 : decode cX12_road 38 = .ok (.iconst 1, 1) := by decide +kernel
theorem dX12_road_39 : decode cX12_road 39 = .ok (.iaload, 1) := by decide +kernel
theorem dX12_road_40 : decode cX12_road 40 = .ok (.if_icmp .ge 95, 3) := by decide +kernel
theorem dX12_road_43 : decode cX12_road 43 = .ok (.iload 4, 2) := by decide +kernel
theorem dX12_road_45 : decode cX12_road 45 = .ok (.iconst 1, 1) := by decide +kernel
theorem dX12_road_46 : decode cX12_road 46 = .ok (.iadd, 1) := by decide +kernel
theorem dX12_road_47 : decode cX12_road 47 = .ok (.istore 5, 2) := by decide +kernel
theorem dX12_road_49 : decode cX12_road 49 = .ok (.iload 5, 2) := by decide +kernel
theorem dX12_road_51 : decode cX12_road 51 = .ok (.aload_n 0, 1) := by decide +kernel
theorem dX12_road_52 : decode cX12_road 52 = .ok (.getfield 9, 3) := by decide +kernel
theorem dX12_road_55 : decode cX12_road 55 = .ok (.iconst 1, 1) := by decide +kernel
theorem dX12_road_56 : decode cX12_road 56 = .ok (.iaload, 1) := by decide +kernel
theorem dX12_road_57 : decode cX12_road 57 = .ok (.if_icmp .ge 72, 3) := by decide +kernel
theorem dX12_road_60 : decode cX12_road 60 = .ok (.aload_n 0, 1) := by decide +kernel
theorem dX12_road_61 : decode cX12_road 61 = .ok (.getfield 9, 3) := by decide +kernel
theorem dX12_road_64 : decode cX12_road 64 = .ok (.bipush 48, 2) := by decide +kernel
theorem dX12_road_66 : decode cX12_road 66 = .ok (.bipush 8, 2) := by decide +kernel
theorem dX12_road_68 : decode cX12_road 68 = .ok (.iload 4, 2) := by decide +kernel
theorem dX12_road_70 : decode cX12_road 70 = .ok (.imul, 1) := by decide +kernel
theorem dX12_road_71 : decode cX12_road 71 = .ok (.iadd, 1) := by decide +kernel
theorem dX12_road_72 : decode cX12_road 72 = .ok (.iload 5, 2) := by decide +kernel
theorem dX12_road_74 : decode cX12_road 74 = .ok (.iadd, 1) := by decide +kernel
theorem dX12_road_75 : decode cX12_road 75 = .ok (.iaload, 1) := by decide +kernel
theorem dX12_road_76 : decode cX12_road 76 = .ok (.ifCond .ne 47, 3) := by decide +kernel
theorem dX12_road_79 : decode cX12_road 79 = .ok (.aload_n 0, 1) := by decide +kernel
theorem dX12_road_80 : decode cX12_road 80 = .ok (.iload 4, 2) := by decide +kernel
theorem dX12_road_82 : decode cX12_road 82 = .ok (.iload 5, 2) := by decide +kernel
theorem dX12_road_84 : decode cX12_road 84 = .ok (.iconst 1, 1) := by decide +kernel
theorem dX12_road_85 : decode cX12_road 85 = .ok (.invokevirtual 132, 3) := by decide +kernel
theorem dX12_road_88 : decode cX12_road 88 = .ok (.istore 6, 2) := by decide +kernel
theorem dX12_road_90 : decode cX12_road 90 = .ok (.aload_n 0, 1) := by decide +kernel
theorem dX12_road_91 : decode cX12_road 91 = .ok (.aload_n 0, 1) := by decide +kernel
theorem dX12_road_92 : decode cX12_road 92 = .ok (.iload_n 1, 1) := by decide +kernel
theorem dX12_road_93 : decode cX12_road 93 = .ok (.invokevirtual 284, 3) := by decide +kernel
theorem dX12_road_96 : decode cX12_road 96 = .ok (.invokevirtual 290, 3) := by decide +kernel
theorem dX12_road_99 : decode cX12_road 99 = .ok (.istore 7, 2) := by decide +kernel
theorem dX12_road_101 : decode cX12_road 101 = .ok (.iload_n 2, 1) := by decide +kernel
theorem dX12_road_102 : decode cX12_road 102 = .ok (.ifCond .lt 9, 3) := by decide +kernel
theorem dX12_road_105 : decode cX12_road 105 = .ok (.iload 7, 2) := by decide +kernel
theorem dX12_road_107 : decode cX12_road 107 = .ok (.iload_n 3, 1) := by decide +kernel
theorem dX12_road_108 : decode cX12_road 108 = .ok (.if_icmp .le 15, 3) := by decide +kernel
theorem dX12_road_111 : decode cX12_road 111 = .ok (.bipush 10, 2) := by decide +kernel
theorem dX12_road_113 : decode cX12_road 113 = .ok (.iload 4, 2) := by decide +kernel
theorem dX12_road_115 : decode cX12_road 115 = .ok (.imul, 1) := by decide +kernel
theorem dX12_road_116 : decode cX12_road 116 = .ok (.iload 5, 2) := by decide +kernel
theorem dX12_road_118 : decode cX12_road 118 = .ok (.iadd, 1) := by decide +kernel
theorem dX12_road_119 : decode cX12_road 119 = .ok (.istore_n 2, 1) := by decide +kernel
theorem dX12_road_120 : decode cX12_road 120 = .ok (.iload 7, 2) := by decide +kernel
theorem dX12_road_122 : decode cX12_road 122 = .ok (.istore_n 3, 1) := by decide +kernel
theorem dX12_road_123 : decode cX12_road 123 = .ok (.iinc 5 1, 3) := by decide +kernel
theorem dX12_road_126 : decode cX12_road 126 = .ok (.goto (-77), 3) := by decide +kernel
theorem dX12_road_129 : decode cX12_road 129 = .ok (.iinc 4 1, 3) := by decide +kernel
theorem dX12_road_132 : decode cX12_road 132 = .ok (.goto (-100), 3) := by decide +kernel
theorem dX12_road_135 : decode cX12_road 135 = .ok (.iload_n 2, 1) := by decide +kernel
theorem dX12_road_136 : decode cX12_road 136 = .ok (.ifCond .ge 12, 3) := by decide +kernel
theorem dX12_road_139 : decode cX12_road 139 = .ok (.aload_n 0, 1) := by decide +kernel
theorem dX12_road_140 : decode cX12_road 140 = .ok (.ldc 119, 2) := by decide +kernel
theorem dX12_road_142 : decode cX12_road 142 = .ok (.invokevirtual 90, 3) := by decide +kernel
theorem dX12_road_145 : decode cX12_road 145 = .ok (.goto 4, 3) := by decide +kernel
theorem dX12_road_148 : decode cX12_road 148 = .ok (.iload_n 2, 1) := by decide +kernel
theorem dX12_road_149 : decode cX12_road 149 = .ok (.ireturn, 1) := by decide +kernel
theorem dX12_seed_0 : decode cX12_seed 0 = .ok (.aload_n 0, 1) := by decide +kernel
theorem dX12_seed_1 : decode cX12_seed 1 = .ok (.iconst 5, 1) := by decide +kernel
theorem dX12_seed_2 : decode cX12_seed 2 = .ok (.iload_n 1, 1) := by decide +kernel
theorem dX12_seed_3 : decode cX12_seed 3 = .ok (.invokevirtual 113, 3) := by decide +kernel
theorem dX12_seed_6 : decode cX12_seed 6 = .ok (.ireturn, 1) := by decide +kernel
theorem dX12_began_0 : decode cX12_began 0 = .ok (.aload_n 0, 1) := by decide +kernel
theorem dX12_began_1 : decode cX12_began 1 = .ok (.getfield 299, 3) := by decide +kernel
theorem dX12_began_4 : decode cX12_began 4 = .ok (.bipush 40, 2) := by decide +kernel
theorem dX12_began_6 : decode cX12_began 6 = .ok (.if_icmp .ge 23, 3) := by decide +kernel
theorem dX12_began_9 : decode cX12_began 9 = .ok (.aload_n 0, 1) := by decide +kernel
theorem dX12_began_10 : decode cX12_began 10 = .ok (.getfield 60, 3) := by decide +kernel
theorem dX12_began_13 : decode cX12_began 13 = .ok (.aload_n 0, 1) := by decide +kernel
theorem dX12_began_14 : decode cX12_began 14 = .ok (.getfield 299, 3) := by decide +kernel
theorem dX12_began_17 : decode cX12_began 17 = .ok (.iload_n 1, 1) := by decide +kernel
theorem dX12_began_18 : decode cX12_began 18 = .ok (.iastore, 1) := by decide +kernel
theorem dX12_began_19 : decode cX12_began 19 = .ok (.aload_n 0, 1) := by decide +kernel
theorem dX12_began_20 : decode cX12_began 20 = .ok (.dup, 1) := by decide +kernel
theorem dX12_began_21 : decode cX12_began 21 = .ok (.getfield 299, 3) := by decide +kernel
theorem dX12_began_24 : decode cX12_began 24 = .ok (.iconst 1, 1) := by decide +kernel
theorem dX12_began_25 : decode cX12_began 25 = .ok (.iadd, 1) := by decide +kernel
theorem dX12_began_26 : decode cX12_began 26 = .ok (.putfield 299, 3) := by decide +kernel
theorem dX12_began_29 : decode cX12_began 29 = .ok (.return_, 1) := by decide +kernel
theorem dX12_hasOwn_0 : decode cX12_hasOwn 0 = .ok (.iload_n 0, 1) := by decide +kernel
theorem dX12_hasOwn_1 : decode cX12_hasOwn 1 = .ok (.tableswitch 88 0 5 #[39, 41, 52, 62, 88, 77], 39) := by decide +kernel
theorem dX12_hasOwn_40 : decode cX12_hasOwn 40 = .ok (.iconst 1, 1) := by decide +kernel
theorem dX12_hasOwn_41 : decode cX12_hasOwn 41 = .ok (.ireturn, 1) := by decide +kernel
theorem dX12_hasOwn_42 : decode cX12_hasOwn 42 = .ok (.iload_n 1, 1) := by decide +kernel
theorem dX12_hasOwn_43 : decode cX12_hasOwn 43 = .ok (.iconst 1, 1) := by decide +kernel
theorem dX12_hasOwn_44 : decode cX12_hasOwn 44 = .ok (.if_icmp .ne 7, 3) := by decide +kernel
theorem dX12_hasOwn_47 : decode cX12_hasOwn 47 = .ok (.iconst 1, 1) := by decide +kernel
theorem dX12_hasOwn_48 : decode cX12_hasOwn 48 = .ok (.goto 4, 3) := by decide +kernel
theorem dX12_hasOwn_51 : decode cX12_hasOwn 51 = .ok (.iconst 0, 1) := by decide +kernel
theorem dX12_hasOwn_52 : decode cX12_hasOwn 52 = .ok (.ireturn, 1) := by decide +kernel
theorem dX12_hasOwn_53 : decode cX12_hasOwn 53 = .ok (.iload_n 1, 1) := by decide +kernel
theorem dX12_hasOwn_54 : decode cX12_hasOwn 54 = .ok (.ifCond .ne 7, 3) := by decide +kernel
theorem dX12_hasOwn_57 : decode cX12_hasOwn 57 = .ok (.iconst 1, 1) := by decide +kernel
theorem dX12_hasOwn_58 : decode cX12_hasOwn 58 = .ok (.goto 4, 3) := by decide +kernel
theorem dX12_hasOwn_61 : decode cX12_hasOwn 61 = .ok (.iconst 0, 1) := by decide +kernel
theorem dX12_hasOwn_62 : decode cX12_hasOwn 62 = .ok (.ireturn, 1) := by decide +kernel
theorem dX12_hasOwn_63 : decode cX12_hasOwn 63 = .ok (.iload_n 1, 1) := by decide +kernel
theorem dX12_hasOwn_64 : decode cX12_hasOwn 64 = .ok (.ifCond .eq 8, 3) := by decide +kernel
theorem dX12_hasOwn_67 : decode cX12_hasOwn 67 = .ok (.iload_n 1, 1) := by decide +kernel
theorem dX12_hasOwn_68 : decode cX12_hasOwn 68 = .ok (.iconst 2, 1) := by decide +kernel
theorem dX12_hasOwn_69 : decode cX12_hasOwn 69 = .ok (.if_icmp .ne 7, 3) := by decide +kernel
theorem dX12_hasOwn_72 : decode cX12_hasOwn 72 = .ok (.iconst 1, 1) := by decide +kernel
theorem dX12_hasOwn_73 : decode cX12_hasOwn 73 = .ok (.goto 4, 3) := by decide +kernel
theorem dX12_hasOwn_76 : decode cX12_hasOwn 76 = .ok (.iconst 0, 1) := by decide +kernel
theorem dX12_hasOwn_77 : decode cX12_hasOwn 77 = .ok (.ireturn, 1) := by decide +kernel
theorem dX12_hasOwn_78 : decode cX12_hasOwn 78 = .ok (.iload_n 1, 1) := by decide +kernel
theorem dX12_hasOwn_79 : decode cX12_hasOwn 79 = .ok (.iconst 2, 1) := by decide +kernel
theorem dX12_hasOwn_80 : decode cX12_hasOwn 80 = .ok (.if_icmp .ge 7, 3) := by decide +kernel
theorem dX12_hasOwn_83 : decode cX12_hasOwn 83 = .ok (.iconst 1, 1) := by decide +kernel
theorem dX12_hasOwn_84 : decode cX12_hasOwn 84 = .ok (.goto 4, 3) := by decide +kernel
theorem dX12_hasOwn_87 : decode cX12_hasOwn 87 = .ok (.iconst 0, 1) := by decide +kernel
theorem dX12_hasOwn_88 : decode cX12_hasOwn 88 = .ok (.ireturn, 1) := by decide +kernel
theorem dX12_hasOwn_89 : decode cX12_hasOwn 89 = .ok (.iload_n 1, 1) := by decide +kernel
theorem dX12_hasOwn_90 : decode cX12_hasOwn 90 = .ok (.iconst 3, 1) := by decide +kernel
theorem dX12_hasOwn_91 : decode cX12_hasOwn 91 = .ok (.if_icmp .ne 7, 3) := by decide +kernel
theorem dX12_hasOwn_94 : decode cX12_hasOwn 94 = .ok (.iconst 1, 1) := by decide +kernel
theorem dX12_hasOwn_95 : decode cX12_hasOwn 95 = .ok (.goto 4, 3) := by decide +kernel
theorem dX12_hasOwn_98 : decode cX12_hasOwn 98 = .ok (.iconst 0, 1) := by decide +kernel
theorem dX12_hasOwn_99 : decode cX12_hasOwn 99 = .ok (.ireturn, 1) := by decide +kernel
theorem dX12_voiced_0 : decode cX12_voiced 0 = .ok (.aload_n 0, 1) := by decide +kernel
theorem dX12_voiced_1 : decode cX12_voiced 1 = .ok (.aload_n 0, 1) := by decide +kernel
theorem dX12_voiced_2 : decode cX12_voiced 2 = .ok (.aload_n 0, 1) := by decide +kernel
theorem dX12_voiced_3 : decode cX12_voiced 3 = .ok (.getfield 302, 3) := by decide +kernel
theorem dX12_voiced_6 : decode cX12_voiced 6 = .ok (.iconst 0, 1) := by decide +kernel
theorem dX12_voiced_7 : decode cX12_voiced 7 = .ok (.invokevirtual 136, 3) := by decide +kernel
theorem dX12_voiced_10 : decode cX12_voiced 10 = .ok (.iload_n 1, 1) := by decide +kernel
theorem dX12_voiced_11 : decode cX12_voiced 11 = .ok (.iload_n 2, 1) := by decide +kernel
theorem dX12_voiced_12 : decode cX12_voiced 12 = .ok (.invokevirtual 305, 3) := by decide +kernel
theorem dX12_voiced_15 : decode cX12_voiced 15 = .ok (.ireturn, 1) := by decide +kernel
theorem dX12_bodyFrom_0 : decode cX12_bodyFrom 0 = .ok (.iload_n 1, 1) := by decide +kernel
theorem dX12_bodyFrom_1 : decode cX12_bodyFrom 1 = .ok (.istore 4, 2) := by decide +kernel
theorem dX12_bodyFrom_3 : decode cX12_bodyFrom 3 = .ok (.iload 4, 2) := by decide +kernel
theorem dX12_bodyFrom_5 : decode cX12_bodyFrom 5 = .ok (.iload_n 2, 1) := by decide +kernel
theorem dX12_bodyFrom_6 : decode cX12_bodyFrom 6 = .ok (.invokestatic 308, 3) := by decide +kernel
theorem dX12_bodyFrom_9 : decode cX12_bodyFrom 9 = .ok (.ifCond .ne 13, 3) := by decide +kernel
theorem dX12_bodyFrom_12 : decode cX12_bodyFrom 12 = .ok (.iload 4, 2) := by decide +kernel
theorem dX12_bodyFrom_14 : decode cX12_bodyFrom 14 = .ok (.invokestatic 154, 3) := by decide +kernel
theorem dX12_bodyFrom_17 : decode cX12_bodyFrom 17 = .ok (.istore 4, 2) := by decide +kernel
theorem dX12_bodyFrom_19 : decode cX12_bodyFrom 19 = .ok (.goto (-16), 3) := by decide +kernel
theorem dX12_bodyFrom_22 : decode cX12_bodyFrom 22 = .ok (.aload_n 0, 1) := by decide +kernel
theorem dX12_bodyFrom_23 : decode cX12_bodyFrom 23 = .ok (.iload 4, 2) := by decide +kernel
theorem dX12_bodyFrom_25 : decode cX12_bodyFrom 25 = .ok (.iload_n 2, 1) := by decide +kernel
theorem dX12_bodyFrom_26 : decode cX12_bodyFrom 26 = .ok (.iload_n 3, 1) := by decide +kernel
theorem dX12_bodyFrom_27 : decode cX12_bodyFrom 27 = .ok (.invokevirtual 311, 3) := by decide +kernel
theorem dX12_bodyFrom_30 : decode cX12_bodyFrom 30 = .ok (.ireturn, 1) := by decide +kernel
theorem dX12_body_0 : decode cX12_body 0 = .ok (.iconst 4, 1) := by decide +kernel
theorem dX12_body_1 : decode cX12_body 1 = .ok (.iload_n 1, 1) := by decide +kernel
theorem dX12_body_2 : decode cX12_body 2 = .ok (.imul, 1) := by decide +kernel
theorem dX12_body_3 : decode cX12_body 3 = .ok (.iload_n 2, 1) := by decide +kernel
theorem dX12_body_4 : decode cX12_body 4 = .ok (.iadd, 1) := by decide +kernel
theorem dX12_body_5 : decode cX12_body 5 = .ok (.tableswitch 305 0 21 #[103, 116, 131, 149, 305, 173, 305, 305, 198, 305, 305, 305, 229, 305, 214, 305, 305, 305, 305, 245, 270, 289], 103) := by decide +kernel
theorem dX12_body_108 : decode cX12_body 108 = .ok (.aload_n 0, 1) := by decide +kernel
theorem dX12_body_109 : decode cX12_body 109 = .ok (.bipush 10, 2) := by decide +kernel
theorem dX12_body_111 : decode cX12_body 111 = .ok (.invokevirtual 314, 3) := by decide +kernel
theorem dX12_body_114 : decode cX12_body 114 = .ok (.iload_n 3, 1) := by decide +kernel
theorem dX12_body_115 : decode cX12_body 115 = .ok (.aload_n 0, 1) := by decide +kernel
theorem dX12_body_116 : decode cX12_body 116 = .ok (.getfield 302, 3) := by decide +kernel
theorem dX12_body_119 : decode cX12_body 119 = .ok (.iadd, 1) := by decide +kernel
theorem dX12_body_120 : decode cX12_body 120 = .ok (.ireturn, 1) := by decide +kernel
theorem dX12_body_121 : decode cX12_body 121 = .ok (.aload_n 0, 1) := by decide +kernel
theorem dX12_body_122 : decode cX12_body 122 = .ok (.bipush 11, 2) := by decide +kernel
theorem dX12_body_124 : decode cX12_body 124 = .ok (.invokevirtual 314, 3) := by decide +kernel
theorem dX12_body_127 : decode cX12_body 127 = .ok (.aload_n 0, 1) := by decide +kernel
theorem dX12_body_128 : decode cX12_body 128 = .ok (.iconst 0, 1) := by decide +kernel
theorem dX12_body_129 : decode cX12_body 129 = .ok (.iload_n 3, 1) := by decide +kernel
theorem dX12_body_130 : decode cX12_body 130 = .ok (.invokevirtual 317, 3) := by decide +kernel
theorem dX12_body_133 : decode cX12_body 133 = .ok (.iconst 2, 1) := by decide +kernel
theorem dX12_body_134 : decode cX12_body 134 = .ok (.imul, 1) := by decide +kernel
theorem dX12_body_135 : decode cX12_body 135 = .ok (.ireturn, 1) := by decide +kernel
theorem dX12_body_136 : decode cX12_body 136 = .ok (.aload_n 0, 1) := by decide +kernel
theorem dX12_body_137 : decode cX12_body 137 = .ok (.bipush 12, 2) := by decide +kernel
theorem dX12_body_139 : decode cX12_body 139 = .ok (.invokevirtual 314, 3) := by decide +kernel
theorem dX12_body_142 : decode cX12_body 142 = .ok (.iload_n 3, 1) := by decide +kernel
theorem dX12_body_143 : decode cX12_body 143 = .ok (.aload_n 0, 1) := by decide +kernel
theorem dX12_body_144 : decode cX12_body 144 = .ok (.aload_n 0, 1) := by decide +kernel
theorem dX12_body_145 : decode cX12_body 145 = .ok (.getfield 302, 3) := by decide +kernel
theorem dX12_body_148 : decode cX12_body 148 = .ok (.iconst 3, 1) := by decide +kernel
theorem dX12_body_149 : decode cX12_body 149 = .ok (.invokevirtual 136, 3) := by decide +kernel
theorem dX12_body_152 : decode cX12_body 152 = .ok (.isub, 1) := by decide +kernel
theorem dX12_body_153 : decode cX12_body 153 = .ok (.ireturn, 1) := by decide +kernel
theorem dX12_body_154 : decode cX12_body 154 = .ok (.aload_n 0, 1) := by decide +kernel
theorem dX12_body_155 : decode cX12_body 155 = .ok (.bipush 13, 2) := by decide +kernel
theorem dX12_body_157 : decode cX12_body 157 = .ok (.invokevirtual 314, 3) := by decide +kernel
theorem dX12_body_160 : decode cX12_body 160 = .ok (.aload_n 0, 1) := by decide +kernel
theorem dX12_body_161 : decode cX12_body 161 = .ok (.iconst 1, 1) := by decide +kernel
theorem dX12_body_162 : decode cX12_body 162 = .ok (.iload_n 3, 1) := by decide +kernel
theorem dX12_body_163 : decode cX12_body 163 = .ok (.invokevirtual 317, 3) := by decide +kernel
theorem dX12_body_166 : decode cX12_body 166 = .ok (.istore 4, 2) := by decide +kernel
theorem dX12_body_168 : decode cX12_body 168 = .ok (.iload 4, 2) := by decide +kernel
theorem dX12_body_170 : decode cX12_body 170 = .ok (.aload_n 0, 1) := by decide +kernel
theorem dX12_body_171 : decode cX12_body 171 = .ok (.iconst 2, 1) := by decide +kernel
theorem dX12_body_172 : decode cX12_body 172 = .ok (.iload_n 3, 1) := by decide +kernel
theorem dX12_body_173 : decode cX12_body 173 = .ok (.invokevirtual 317, 3) := by decide +kernel
theorem dX12_body_176 : decode cX12_body 176 = .ok (.ixor, 1) := by decide +kernel
theorem dX12_body_177 : decode cX12_body 177 = .ok (.ireturn, 1) := by decide +kernel
theorem dX12_body_178 : decode cX12_body 178 = .ok (.aload_n 0, 1) := by decide +kernel
theorem dX12_body_179 : decode cX12_body 179 = .ok (.bipush 20, 2) := by decide +kernel
theorem dX12_body_181 : decode cX12_body 181 = .ok (.invokevirtual 314, 3) := by decide +kernel
theorem dX12_body_184 : decode cX12_body 184 = .ok (.aload_n 0, 1) := by decide +kernel
theorem dX12_body_185 : decode cX12_body 185 = .ok (.iconst 0, 1) := by decide +kernel
theorem dX12_body_186 : decode cX12_body 186 = .ok (.iconst 1, 1) := by decide +kernel
theorem dX12_body_187 : decode cX12_body 187 = .ok (.iload_n 3, 1) := by decide +kernel
theorem dX12_body_188 : decode cX12_body 188 = .ok (.invokevirtual 305, 3) := by decide +kernel
theorem dX12_body_191 : decode cX12_body 191 = .ok (.istore 4, 2) := by decide +kernel
theorem dX12_body_193 : decode cX12_body 193 = .ok (.iload 4, 2) := by decide +kernel
theorem dX12_body_195 : decode cX12_body 195 = .ok (.aload_n 0, 1) := by decide +kernel
theorem dX12_body_196 : decode cX12_body 196 = .ok (.iconst 2, 1) := by decide +kernel
theorem dX12_body_197 : decode cX12_body 197 = .ok (.iconst 1, 1) := by decide +kernel
theorem dX12_body_198 : decode cX12_body 198 = .ok (.invokevirtual 317, 3) := by decide +kernel
theorem dX12_body_201 : decode cX12_body 201 = .ok (.isub, 1) := by decide +kernel
theorem dX12_body_202 : decode cX12_body 202 = .ok (.ireturn, 1) := by decide +kernel
theorem dX12_body_203 : decode cX12_body 203 = .ok (.aload_n 0, 1) := by decide +kernel
theorem dX12_body_204 : decode cX12_body 204 = .ok (.bipush 30, 2) := by decide +kernel
theorem dX12_body_206 : decode cX12_body 206 = .ok (.invokevirtual 314, 3) := by decide +kernel
theorem dX12_body_209 : decode cX12_body 209 = .ok (.aload_n 0, 1) := by decide +kernel
theorem dX12_body_210 : decode cX12_body 210 = .ok (.iconst 0, 1) := by decide +kernel
theorem dX12_body_211 : decode cX12_body 211 = .ok (.iconst 0, 1) := by decide +kernel
theorem dX12_body_212 : decode cX12_body 212 = .ok (.iload_n 3, 1) := by decide +kernel
theorem dX12_body_213 : decode cX12_body 213 = .ok (.invokevirtual 305, 3) := by decide +kernel
theorem dX12_body_216 : decode cX12_body 216 = .ok (.iconst 3, 1) := by decide +kernel
theorem dX12_body_217 : decode cX12_body 217 = .ok (.imul, 1) := by decide +kernel
theorem dX12_body_218 : decode cX12_body 218 = .ok (.ireturn, 1) := by decide +kernel
theorem dX12_body_219 : decode cX12_body 219 = .ok (.aload_n 0, 1) := by decide +kernel
theorem dX12_body_220 : decode cX12_body 220 = .ok (.bipush 40, 2) := by decide +kernel
theorem dX12_body_222 : decode cX12_body 222 = .ok (.invokevirtual 314, 3) := by decide +kernel
theorem dX12_body_225 : decode cX12_body 225 = .ok (.aload_n 0, 1) := by decide +kernel
theorem dX12_body_226 : decode cX12_body 226 = .ok (.iconst 2, 1) := by decide +kernel
theorem dX12_body_227 : decode cX12_body 227 = .ok (.iconst 2, 1) := by decide +kernel
theorem dX12_body_228 : decode cX12_body 228 = .ok (.iload_n 3, 1) := by decide +kernel
theorem dX12_body_229 : decode cX12_body 229 = .ok (.invokevirtual 305, 3) := by decide +kernel
theorem dX12_body_232 : decode cX12_body 232 = .ok (.ineg, 1) := by decide +kernel
theorem dX12_body_233 : decode cX12_body 233 = .ok (.ireturn, 1) := by decide +kernel
theorem dX12_body_234 : decode cX12_body 234 = .ok (.aload_n 0, 1) := by decide +kernel
theorem dX12_body_235 : decode cX12_body 235 = .ok (.bipush 41, 2) := by decide +kernel
theorem dX12_body_237 : decode cX12_body 237 = .ok (.invokevirtual 314, 3) := by decide +kernel
theorem dX12_body_240 : decode cX12_body 240 = .ok (.aload_n 0, 1) := by decide +kernel
theorem dX12_body_241 : decode cX12_body 241 = .ok (.iconst 2, 1) := by decide +kernel
theorem dX12_body_242 : decode cX12_body 242 = .ok (.iconst 0, 1) := by decide +kernel
theorem dX12_body_243 : decode cX12_body 243 = .ok (.iload_n 3, 1) := by decide +kernel
theorem dX12_body_244 : decode cX12_body 244 = .ok (.iconst 1, 1) := by decide +kernel
theorem dX12_body_245 : decode cX12_body 245 = .ok (.iadd, 1) := by decide +kernel
theorem dX12_body_246 : decode cX12_body 246 = .ok (.invokevirtual 305, 3) := by decide +kernel
theorem dX12_body_249 : decode cX12_body 249 = .ok (.ireturn, 1) := by decide +kernel
theorem dX12_body_250 : decode cX12_body 250 = .ok (.aload_n 0, 1) := by decide +kernel
theorem dX12_body_251 : decode cX12_body 251 = .ok (.bipush 50, 2) := by decide +kernel
theorem dX12_body_253 : decode cX12_body 253 = .ok (.invokevirtual 314, 3) := by decide +kernel
theorem dX12_body_256 : decode cX12_body 256 = .ok (.aload_n 0, 1) := by decide +kernel
theorem dX12_body_257 : decode cX12_body 257 = .ok (.iconst 0, 1) := by decide +kernel
theorem dX12_body_258 : decode cX12_body 258 = .ok (.iconst 3, 1) := by decide +kernel
theorem dX12_body_259 : decode cX12_body 259 = .ok (.iload_n 3, 1) := by decide +kernel
theorem dX12_body_260 : decode cX12_body 260 = .ok (.invokevirtual 305, 3) := by decide +kernel
theorem dX12_body_263 : decode cX12_body 263 = .ok (.istore 4, 2) := by decide +kernel
theorem dX12_body_265 : decode cX12_body 265 = .ok (.iload 4, 2) := by decide +kernel
theorem dX12_body_267 : decode cX12_body 267 = .ok (.aload_n 0, 1) := by decide +kernel
theorem dX12_body_268 : decode cX12_body 268 = .ok (.iconst 0, 1) := by decide +kernel
theorem dX12_body_269 : decode cX12_body 269 = .ok (.iconst 2, 1) := by decide +kernel
theorem dX12_body_270 : decode cX12_body 270 = .ok (.invokevirtual 317, 3) := by decide +kernel
theorem dX12_body_273 : decode cX12_body 273 = .ok (.isub, 1) := by decide +kernel
theorem dX12_body_274 : decode cX12_body 274 = .ok (.ireturn, 1) := by decide +kernel
theorem dX12_body_275 : decode cX12_body 275 = .ok (.aload_n 0, 1) := by decide +kernel
theorem dX12_body_276 : decode cX12_body 276 = .ok (.bipush 60, 2) := by decide +kernel
theorem dX12_body_278 : decode cX12_body 278 = .ok (.invokevirtual 314, 3) := by decide +kernel
theorem dX12_body_281 : decode cX12_body 281 = .ok (.aload_n 0, 1) := by decide +kernel
theorem dX12_body_282 : decode cX12_body 282 = .ok (.iconst 1, 1) := by decide +kernel
theorem dX12_body_283 : decode cX12_body 283 = .ok (.iconst 0, 1) := by decide +kernel
theorem dX12_body_284 : decode cX12_body 284 = .ok (.iload_n 3, 1) := by decide +kernel
theorem dX12_body_285 : decode cX12_body 285 = .ok (.invokevirtual 305, 3) := by decide +kernel
theorem dX12_body_288 : decode cX12_body 288 = .ok (.aload_n 0, 1) := by decide +kernel
theorem dX12_body_289 : decode cX12_body 289 = .ok (.getfield 302, 3) := by decide +kernel
theorem dX12_body_292 : decode cX12_body 292 = .ok (.ixor, 1) := by decide +kernel
theorem dX12_body_293 : decode cX12_body 293 = .ok (.ireturn, 1) := by decide +kernel
theorem dX12_body_294 : decode cX12_body 294 = .ok (.aload_n 0, 1) := by decide +kernel
theorem dX12_body_295 : decode cX12_body 295 = .ok (.bipush 61, 2) := by decide +kernel
theorem dX12_body_297 : decode cX12_body 297 = .ok (.invokevirtual 314, 3) := by decide +kernel
theorem dX12_body_300 : decode cX12_body 300 = .ok (.aload_n 0, 1) := by decide +kernel
theorem dX12_body_301 : decode cX12_body 301 = .ok (.iconst 1, 1) := by decide +kernel
theorem dX12_body_302 : decode cX12_body 302 = .ok (.iconst 1, 1) := by decide +kernel
theorem dX12_body_303 : decode cX12_body 303 = .ok (.iload_n 3, 1) := by decide +kernel
theorem dX12_body_304 : decode cX12_body 304 = .ok (.invokevirtual 305, 3) := by decide +kernel
theorem dX12_body_307 : decode cX12_body 307 = .ok (.iconst 5, 1) := by decide +kernel
theorem dX12_body_308 : decode cX12_body 308 = .ok (.iadd, 1) := by decide +kernel
theorem dX12_body_309 : decode cX12_body 309 = .ok (.ireturn, 1) := by decide +kernel
theorem dX12_body_310 : decode cX12_body 310 = .ok (.aload_n 0, 1) := by decide +kernel
theorem dX12_body_311 : decode cX12_body 311 = .ok (.bipush 70, 2) := by decide +kernel
theorem dX12_body_313 : decode cX12_body 313 = .ok (.invokevirtual 314, 3) := by decide +kernel
theorem dX12_body_316 : decode cX12_body 316 = .ok (.aload_n 0, 1) := by decide +kernel
theorem dX12_body_317 : decode cX12_body 317 = .ok (.iconst 1, 1) := by decide +kernel
theorem dX12_body_318 : decode cX12_body 318 = .ok (.iload_n 3, 1) := by decide +kernel
theorem dX12_body_319 : decode cX12_body 319 = .ok (.invokevirtual 317, 3) := by decide +kernel
theorem dX12_body_322 : decode cX12_body 322 = .ok (.istore 4, 2) := by decide +kernel
theorem dX12_body_324 : decode cX12_body 324 = .ok (.iload 4, 2) := by decide +kernel
theorem dX12_body_326 : decode cX12_body 326 = .ok (.aload_n 0, 1) := by decide +kernel
theorem dX12_body_327 : decode cX12_body 327 = .ok (.iconst 4, 1) := by decide +kernel
theorem dX12_body_328 : decode cX12_body 328 = .ok (.iconst 3, 1) := by decide +kernel
theorem dX12_body_329 : decode cX12_body 329 = .ok (.iload_n 3, 1) := by decide +kernel
theorem dX12_body_330 : decode cX12_body 330 = .ok (.invokevirtual 305, 3) := by decide +kernel
theorem dX12_body_333 : decode cX12_body 333 = .ok (.isub, 1) := by decide +kernel
theorem dX12_body_334 : decode cX12_body 334 = .ok (.ireturn, 1) := by decide +kernel
theorem dX12_voice_0 : decode cX12_voice 0 = .ok (.aload_n 0, 1) := by decide +kernel
theorem dX12_voice_1 : decode cX12_voice 1 = .ok (.iload_n 1, 1) := by decide +kernel
theorem dX12_voice_2 : decode cX12_voice 2 = .ok (.iconst 2, 1) := by decide +kernel
theorem dX12_voice_3 : decode cX12_voice 3 = .ok (.invokevirtual 103, 3) := by decide +kernel
theorem dX12_voice_6 : decode cX12_voice 6 = .ok (.ifCond .eq 12, 3) := by decide +kernel
theorem dX12_voice_9 : decode cX12_voice 9 = .ok (.iload_n 2, 1) := by decide +kernel
theorem dX12_voice_10 : decode cX12_voice 10 = .ok (.iconst 0, 1) := by decide +kernel
theorem dX12_voice_11 : decode cX12_voice 11 = .ok (.iconst 3, 1) := by decide +kernel
theorem dX12_voice_12 : decode cX12_voice 12 = .ok (.invokestatic 76, 3) := by decide +kernel
theorem dX12_voice_15 : decode cX12_voice 15 = .ok (.ifCond .ne 10, 3) := by decide +kernel
theorem dX12_voice_18 : decode cX12_voice 18 = .ok (.aload_n 0, 1) := by decide +kernel
theorem dX12_voice_19 : decode cX12_voice 19 = .ok (.ldc 89, 2) := by decide +kernel
theorem dX12_voice_21 : decode cX12_voice 21 = .ok (.invokevirtual 90, 3) := by decide +kernel
theorem dX12_voice_24 : decode cX12_voice 24 = .ok (.ireturn, 1) := by decide +kernel
theorem dX12_voice_25 : decode cX12_voice 25 = .ok (.aload_n 0, 1) := by decide +kernel
theorem dX12_voice_26 : decode cX12_voice 26 = .ok (.iconst 0, 1) := by decide +kernel
theorem dX12_voice_27 : decode cX12_voice 27 = .ok (.putfield 299, 3) := by decide +kernel
theorem dX12_voice_30 : decode cX12_voice 30 = .ok (.aload_n 0, 1) := by decide +kernel
theorem dX12_voice_31 : decode cX12_voice 31 = .ok (.iload_n 1, 1) := by decide +kernel
theorem dX12_voice_32 : decode cX12_voice 32 = .ok (.putfield 302, 3) := by decide +kernel
theorem dX12_voice_35 : decode cX12_voice 35 = .ok (.aload_n 0, 1) := by decide +kernel
theorem dX12_voice_36 : decode cX12_voice 36 = .ok (.iload_n 2, 1) := by decide +kernel
theorem dX12_voice_37 : decode cX12_voice 37 = .ok (.iload_n 3, 1) := by decide +kernel
theorem dX12_voice_38 : decode cX12_voice 38 = .ok (.invokevirtual 317, 3) := by decide +kernel
theorem dX12_voice_41 : decode cX12_voice 41 = .ok (.ireturn, 1) := by decide +kernel
theorem dX12_trace_0 : decode cX12_trace 0 = .ok (.iload_n 1, 1) := by decide +kernel
theorem dX12_trace_1 : decode cX12_trace 1 = .ok (.iconst 0, 1) := by decide +kernel
theorem dX12_trace_2 : decode cX12_trace 2 = .ok (.aload_n 0, 1) := by decide +kernel
theorem dX12_trace_3 : decode cX12_trace 3 = .ok (.getfield 299, 3) := by decide +kernel
theorem dX12_trace_6 : decode cX12_trace 6 = .ok (.iconst 1, 1) := by decide +kernel
theorem dX12_trace_7 : decode cX12_trace 7 = .ok (.isub, 1) := by decide +kernel
theorem dX12_trace_8 : decode cX12_trace 8 = .ok (.invokestatic 76, 3) := by decide +kernel
theorem dX12_trace_11 : decode cX12_trace 11 = .ok (.ifCond .eq 12, 3) := by decide +kernel
theorem dX12_trace_14 : decode cX12_trace 14 = .ok (.aload_n 0, 1) := by decide +kernel
theorem dX12_trace_15 : decode cX12_trace 15 = .ok (.getfield 60, 3) := by decide +kernel
theorem dX12_trace_18 : decode cX12_trace 18 = .ok (.iload_n 1, 1) := by decide +kernel
theorem dX12_trace_19 : decode cX12_trace 19 = .ok (.iaload, 1) := by decide +kernel
theorem dX12_trace_20 : decode cX12_trace 20 = .ok (.goto 9, 3) := by decide +kernel
theorem dX12_trace_23 : decode cX12_trace 23 = .ok (.aload_n 0, 1) := by decide +kernel
theorem dX12_trace_24 : decode cX12_trace 24 = .ok (.ldc 119, 2) := by decide +kernel
theorem dX12_trace_26 : decode cX12_trace 26 = .ok (.invokevirtual 90, 3) := by decide +kernel
theorem dX12_trace_29 : decode cX12_trace 29 = .ok (.ireturn, 1) := by decide +kernel
theorem dX12_isSheet_0 : decode cX12_isSheet 0 = .ok (.iload_n 0, 1) := by decide +kernel
theorem dX12_isSheet_1 : decode cX12_isSheet 1 = .ok (.iconst 0, 1) := by decide +kernel
theorem dX12_isSheet_2 : decode cX12_isSheet 2 = .ok (.iconst 3, 1) := by decide +kernel
theorem dX12_isSheet_3 : decode cX12_isSheet 3 = .ok (.invokestatic 76, 3) := by decide +kernel
theorem dX12_isSheet_6 : decode cX12_isSheet 6 = .ok (.ireturn, 1) := by decide +kernel
theorem dX12_sheet_0 : decode cX12_sheet 0 = .ok (.iload_n 1, 1) := by decide +kernel
theorem dX12_sheet_1 : decode cX12_sheet 1 = .ok (.invokestatic 116, 3) := by decide +kernel
theorem dX12_sheet_4 : decode cX12_sheet 4 = .ok (.ifCond .eq 25, 3) := by decide +kernel
theorem dX12_sheet_7 : decode cX12_sheet 7 = .ok (.iload_n 2, 1) := by decide +kernel
theorem dX12_sheet_8 : decode cX12_sheet 8 = .ok (.ifCond .eq 28, 3) := by decide +kernel
theorem dX12_sheet_11 : decode cX12_sheet 11 = .ok (.iload_n 2, 1) := by decide +kernel
theorem dX12_sheet_12 : decode cX12_sheet 12 = .ok (.bipush 8, 2) := by decide +kernel
theorem dX12_sheet_14 : decode cX12_sheet 14 = .ok (.if_icmp .eq 22, 3) := by decide +kernel
theorem dX12_sheet_17 : decode cX12_sheet 17 = .ok (.iload_n 2, 1) := by decide +kernel
theorem dX12_sheet_18 : decode cX12_sheet 18 = .ok (.bipush 16, 2) := by decide +kernel
theorem dX12_sheet_20 : decode cX12_sheet 20 = .ok (.if_icmp .eq 16, 3) := by decide +kernel
theorem dX12_sheet_23 : decode cX12_sheet 23 = .ok (.iload_n 2, 1) := by decide +kernel
theorem dX12_sheet_24 : decode cX12_sheet 24 = .ok (.bipush 32, 2) := by decide +kernel
theorem dX12_sheet_26 : decode cX12_sheet 26 = .ok (.if_icmp .eq 10, 3) := by decide +kernel
theorem dX12_sheet_29 : decode cX12_sheet 29 = .ok (.aload_n 0, 1) := by decide +kernel
theorem dX12_sheet_30 : decode cX12_sheet 30 = .ok (.ldc 89, 2) := by decide +kernel
theorem dX12_sheet_32 : decode cX12_sheet 32 = .ok (.invokevirtual 90, 3) := by decide +kernel
theorem dX12_sheet_35 : decode cX12_sheet 35 = .ok (.ireturn, 1) := by decide +kernel
theorem dX12_sheet_36 : decode cX12_sheet 36 = .ok (.iload_n 2, 1) := by decide +kernel
theorem dX12_sheet_37 : decode cX12_sheet 37 = .ok (.ifCond .eq 15, 3) := by decide +kernel
theorem dX12_sheet_40 : decode cX12_sheet 40 = .ok (.iload_n 3, 1) := by decide +kernel
theorem dX12_sheet_41 : decode cX12_sheet 41 = .ok (.ifCond .ge 11, 3) := by decide +kernel
theorem dX12_sheet_44 : decode cX12_sheet 44 = .ok (.aload_n 0, 1) := by decide +kernel
theorem dX12_sheet_45 : decode cX12_sheet 45 = .ok (.ldc_w 270, 3) := by decide +kernel
theorem dX12_sheet_48 : decode cX12_sheet 48 = .ok (.invokevirtual 90, 3) := by decide +kernel
theorem dX12_sheet_51 : decode cX12_sheet 51 = .ok (.ireturn, 1) := by decide +kernel
theorem dX12_sheet_52 : decode cX12_sheet 52 = .ok (.iload_n 2, 1) := by decide +kernel
theorem dX12_sheet_53 : decode cX12_sheet 53 = .ok (.ifCond .eq 16, 3) := by decide +kernel
theorem dX12_sheet_56 : decode cX12_sheet 56 = .ok (.iload_n 3, 1) := by decide +kernel
theorem dX12_sheet_57 : decode cX12_sheet 57 = .ok (.bipush 40, 2) := by decide +kernel
theorem dX12_sheet_59 : decode cX12_sheet 59 = .ok (.if_icmp .le 10, 3) := by decide +kernel
theorem dX12_sheet_62 : decode cX12_sheet 62 = .ok (.aload_n 0, 1) := by decide +kernel
theorem dX12_sheet_63 : decode cX12_sheet 63 = .ok (.ldc 89, 2) := by decide +kernel
theorem dX12_sheet_65 : decode cX12_sheet 65 = .ok (.invokevirtual 90, 3) := by decide +kernel
theorem dX12_sheet_68 : decode cX12_sheet 68 = .ok (.ireturn, 1) := by decide +kernel
theorem dX12_sheet_69 : decode cX12_sheet 69 = .ok (.aload_n 0, 1) := by decide +kernel
theorem dX12_sheet_70 : decode cX12_sheet 70 = .ok (.getfield 63, 3) := by decide +kernel
theorem dX12_sheet_73 : decode cX12_sheet 73 = .ok (.iload_n 1, 1) := by decide +kernel
theorem dX12_sheet_74 : decode cX12_sheet 74 = .ok (.iload_n 2, 1) := by decide +kernel
theorem dX12_sheet_75 : decode cX12_sheet 75 = .ok (.iastore, 1) := by decide +kernel
theorem dX12_sheet_76 : decode cX12_sheet 76 = .ok (.aload_n 0, 1) := by decide +kernel
theorem dX12_sheet_77 : decode cX12_sheet 77 = .ok (.getfield 66, 3) := by decide +kernel
theorem dX12_sheet_80 : decode cX12_sheet 80 = .ok (.iload_n 1, 1) := by decide +kernel
theorem dX12_sheet_81 : decode cX12_sheet 81 = .ok (.iload_n 2, 1) := by decide +kernel
theorem dX12_sheet_82 : decode cX12_sheet 82 = .ok (.ifCond .ne 7, 3) := by decide +kernel
theorem dX12_sheet_85 : decode cX12_sheet 85 = .ok (.iconst 0, 1) := by decide +kernel
theorem dX12_sheet_86 : decode cX12_sheet 86 = .ok (.goto 4, 3) := by decide +kernel
theorem dX12_sheet_89 : decode cX12_sheet 89 = .ok (.iload_n 3, 1) := by decide +kernel
theorem dX12_sheet_90 : decode cX12_sheet 90 = .ok (.iastore, 1) := by decide +kernel
theorem dX12_sheet_91 : decode cX12_sheet 91 = .ok (.iconst 0, 1) := by decide +kernel
theorem dX12_sheet_92 : decode cX12_sheet 92 = .ok (.istore 4, 2) := by decide +kernel
theorem dX12_sheet_94 : decode cX12_sheet 94 = .ok (.iload 4, 2) := by decide +kernel
theorem dX12_sheet_96 : decode cX12_sheet 96 = .ok (.bipush 40, 2) := by decide +kernel
theorem dX12_sheet_98 : decode cX12_sheet 98 = .ok (.if_icmp .ge 22, 3) := by decide +kernel
theorem dX12_sheet_101 : decode cX12_sheet 101 = .ok (.aload_n 0, 1) := by decide +kernel
theorem dX12_sheet_102 : decode cX12_sheet 102 = .ok (.getfield 69, 3) := by decide +kernel
theorem dX12_sheet_105 : decode cX12_sheet 105 = .ok (.bipush 40, 2) := by decide +kernel
theorem dX12_sheet_107 : decode cX12_sheet 107 = .ok (.iload_n 1, 1) := by decide +kernel
theorem dX12_sheet_108 : decode cX12_sheet 108 = .ok (.imul, 1) := by decide +kernel
theorem dX12_sheet_109 : decode cX12_sheet 109 = .ok (.iload 4, 2) := by decide +kernel
theorem dX12_sheet_111 : decode cX12_sheet 111 = .ok (.iadd, 1) := by decide +kernel
theorem dX12_sheet_112 : decode cX12_sheet 112 = .ok (.iconst 0, 1) := by decide +kernel
theorem dX12_sheet_113 : decode cX12_sheet 113 = .ok (.iastore, 1) := by decide +kernel
theorem dX12_sheet_114 : decode cX12_sheet 114 = .ok (.iinc 4 1, 3) := by decide +kernel
theorem dX12_sheet_117 : decode cX12_sheet 117 = .ok (.goto (-23), 3) := by decide +kernel
theorem dX12_sheet_120 : decode cX12_sheet 120 = .ok (.iconst 1, 1) := by decide +kernel
theorem dX12_sheet_121 : decode cX12_sheet 121 = .ok (.ireturn, 1) := by decide +kernel
theorem dX12_put__0 : decode cX12_put_ 0 = .ok (.iload_n 1, 1) := by decide +kernel
theorem dX12_put__1 : decode cX12_put_ 1 = .ok (.invokestatic 116, 3) := by decide +kernel
theorem dX12_put__4 : decode cX12_put_ 4 = .ok (.ifCond .ne 10, 3) := by decide +kernel
theorem dX12_put__7 : decode cX12_put_ 7 = .ok (.aload_n 0, 1) := by decide +kernel
theorem dX12_put__8 : decode cX12_put_ 8 = .ok (.ldc 89, 2) := by decide +kernel
theorem dX12_put__10 : decode cX12_put_ 10 = .ok (.invokevirtual 90, 3) := by decide +kernel
theorem dX12_put__13 : decode cX12_put_ 13 = .ok (.ireturn, 1) := by decide +kernel
theorem dX12_put__14 : decode cX12_put_ 14 = .ok (.aload_n 0, 1) := by decide +kernel
theorem dX12_put__15 : decode cX12_put_ 15 = .ok (.getfield 63, 3) := by decide +kernel
theorem dX12_put__18 : decode cX12_put_ 18 = .ok (.iload_n 1, 1) := by decide +kernel
theorem dX12_put__19 : decode cX12_put_ 19 = .ok (.iaload, 1) := by decide +kernel
theorem dX12_put__20 : decode cX12_put_ 20 = .ok (.ifCond .ne 10, 3) := by decide +kernel
theorem dX12_put__23 : decode cX12_put_ 23 = .ok (.aload_n 0, 1) := by decide +kernel
theorem dX12_put__24 : decode cX12_put_ 24 = .ok (.ldc 119, 2) := by decide +kernel
theorem dX12_put__26 : decode cX12_put_ 26 = .ok (.invokevirtual 90, 3) := by decide +kernel
theorem dX12_put__29 : decode cX12_put_ 29 = .ok (.ireturn, 1) := by decide +kernel
theorem dX12_put__30 : decode cX12_put_ 30 = .ok (.iload_n 2, 1) := by decide +kernel
theorem dX12_put__31 : decode cX12_put_ 31 = .ok (.iconst 0, 1) := by decide +kernel
theorem dX12_put__32 : decode cX12_put_ 32 = .ok (.aload_n 0, 1) := by decide +kernel
theorem dX12_put__33 : decode cX12_put_ 33 = .ok (.getfield 66, 3) := by decide +kernel
theorem dX12_put__36 : decode cX12_put_ 36 = .ok (.iload_n 1, 1) := by decide +kernel
theorem dX12_put__37 : decode cX12_put_ 37 = .ok (.iaload, 1) := by decide +kernel
theorem dX12_put__38 : decode cX12_put_ 38 = .ok (.iconst 1, 1) := by decide +kernel
theorem dX12_put__39 : decode cX12_put_ 39 = .ok (.isub, 1) := by decide +kernel
theorem dX12_put__40 : decode cX12_put_ 40 = .ok (.invokestatic 76, 3) := by decide +kernel
theorem dX12_put__43 : decode cX12_put_ 43 = .ok (.ifCond .ne 10, 3) := by decide +kernel
theorem dX12_put__46 : decode cX12_put_ 46 = .ok (.aload_n 0, 1) := by decide +kernel
theorem dX12_put__47 : decode cX12_put_ 47 = .ok (.ldc 89, 2) := by decide +kernel
theorem dX12_put__49 : decode cX12_put_ 49 = .ok (.invokevirtual 90, 3) := by decide +kernel
theorem dX12_put__52 : decode cX12_put_ 52 = .ok (.ireturn, 1) := by decide +kernel
theorem dX12_put__53 : decode cX12_put_ 53 = .ok (.aload_n 0, 1) := by decide +kernel
theorem dX12_put__54 : decode cX12_put_ 54 = .ok (.getfield 69, 3) := by decide +kernel
theorem dX12_put__57 : decode cX12_put_ 57 = .ok (.bipush 40, 2) := by decide +kernel
theorem dX12_put__59 : decode cX12_put_ 59 = .ok (.iload_n 1, 1) := by decide +kernel
theorem dX12_put__60 : decode cX12_put_ 60 = .ok (.imul, 1) := by decide +kernel
theorem dX12_put__61 : decode cX12_put_ 61 = .ok (.iload_n 2, 1) := by decide +kernel
theorem dX12_put__62 : decode cX12_put_ 62 = .ok (.iadd, 1) := by decide +kernel
theorem dX12_put__63 : decode cX12_put_ 63 = .ok (.aload_n 0, 1) := by decide +kernel
theorem dX12_put__64 : decode cX12_put_ 64 = .ok (.getfield 63, 3) := by decide +kernel
theorem dX12_put__67 : decode cX12_put_ 67 = .ok (.iload_n 1, 1) := by decide +kernel
theorem dX12_put__68 : decode cX12_put_ 68 = .ok (.iaload, 1) := by decide +kernel
theorem dX12_put__69 : decode cX12_put_ 69 = .ok (.bipush 8, 2) := by decide +kernel
theorem dX12_put__71 : decode cX12_put_ 71 = .ok (.if_icmp .ne 8, 3) := by decide +kernel
theorem dX12_put__74 : decode cX12_put_ 74 = .ok (.iload_n 3, 1) := by decide +kernel
theorem dX12_put__75 : decode cX12_put_ 75 = .ok (.i2b, 1) := by decide +kernel
theorem dX12_put__76 : decode cX12_put_ 76 = .ok (.goto 20, 3) := by decide +kernel
theorem dX12_put__79 : decode cX12_put_ 79 = .ok (.aload_n 0, 1) := by decide +kernel
theorem dX12_put__80 : decode cX12_put_ 80 = .ok (.getfield 63, 3) := by decide +kernel
theorem dX12_put__83 : decode cX12_put_ 83 = .ok (.iload_n 1, 1) := by decide +kernel
theorem dX12_put__84 : decode cX12_put_ 84 = .ok (.iaload, 1) := by decide +kernel
theorem dX12_put__85 : decode cX12_put_ 85 = .ok (.bipush 16, 2) := by decide +kernel
theorem dX12_put__87 : decode cX12_put_ 87 = .ok (.if_icmp .ne 8, 3) := by decide +kernel
theorem dX12_put__90 : decode cX12_put_ 90 = .ok (.iload_n 3, 1) := by decide +kernel
theorem dX12_put__91 : decode cX12_put_ 91 = .ok (.i2s, 1) := by decide +kernel
theorem dX12_put__92 : decode cX12_put_ 92 = .ok (.goto 4, 3) := by decide +kernel
theorem dX12_put__95 : decode cX12_put_ 95 = .ok (.iload_n 3, 1) := by decide +kernel
theorem dX12_put__96 : decode cX12_put_ 96 = .ok (.iastore, 1) := by decide +kernel
theorem dX12_put__97 : decode cX12_put_ 97 = .ok (.iconst 1, 1) := by decide +kernel
theorem dX12_put__98 : decode cX12_put_ 98 = .ok (.ireturn, 1) := by decide +kernel
theorem dX12_move_0 : decode cX12_move 0 = .ok (.iload_n 1, 1) := by decide +kernel
theorem dX12_move_1 : decode cX12_move 1 = .ok (.invokestatic 116, 3) := by decide +kernel
theorem dX12_move_4 : decode cX12_move 4 = .ok (.ifCond .eq 10, 3) := by decide +kernel
theorem dX12_move_7 : decode cX12_move 7 = .ok (.iload_n 3, 1) := by decide +kernel
theorem dX12_move_8 : decode cX12_move 8 = .ok (.invokestatic 116, 3) := by decide +kernel
theorem dX12_move_11 : decode cX12_move 11 = .ok (.ifCond .ne 10, 3) := by decide +kernel
theorem dX12_move_14 : decode cX12_move 14 = .ok (.aload_n 0, 1) := by decide +kernel
theorem dX12_move_15 : decode cX12_move 15 = .ok (.ldc 89, 2) := by decide +kernel
theorem dX12_move_17 : decode cX12_move 17 = .ok (.invokevirtual 90, 3) := by decide +kernel
theorem dX12_move_20 : decode cX12_move 20 = .ok (.ireturn, 1) := by decide +kernel
theorem dX12_move_21 : decode cX12_move 21 = .ok (.aload_n 0, 1) := by decide +kernel
theorem dX12_move_22 : decode cX12_move 22 = .ok (.getfield 63, 3) := by decide +kernel
theorem dX12_move_25 : decode cX12_move 25 = .ok (.iload_n 1, 1) := by decide +kernel
theorem dX12_move_26 : decode cX12_move 26 = .ok (.iaload, 1) := by decide +kernel
theorem dX12_move_27 : decode cX12_move 27 = .ok (.ifCond .eq 12, 3) := by decide +kernel
theorem dX12_move_30 : decode cX12_move 30 = .ok (.aload_n 0, 1) := by decide +kernel
theorem dX12_move_31 : decode cX12_move 31 = .ok (.getfield 63, 3) := by decide +kernel
theorem dX12_move_34 : decode cX12_move 34 = .ok (.iload_n 3, 1) := by decide +kernel
theorem dX12_move_35 : decode cX12_move 35 = .ok (.iaload, 1) := by decide +kernel
theorem dX12_move_36 : decode cX12_move 36 = .ok (.ifCond .ne 10, 3) := by decide +kernel
theorem dX12_move_39 : decode cX12_move 39 = .ok (.aload_n 0, 1) := by decide +kernel
theorem dX12_move_40 : decode cX12_move 40 = .ok (.ldc 119, 2) := by decide +kernel
theorem dX12_move_42 : decode cX12_move 42 = .ok (.invokevirtual 90, 3) := by decide +kernel
theorem dX12_move_45 : decode cX12_move 45 = .ok (.ireturn, 1) := by decide +kernel
theorem dX12_move_46 : decode cX12_move 46 = .ok (.aload_n 0, 1) := by decide +kernel
theorem dX12_move_47 : decode cX12_move 47 = .ok (.getfield 63, 3) := by decide +kernel
theorem dX12_move_50 : decode cX12_move 50 = .ok (.iload_n 1, 1) := by decide +kernel
theorem dX12_move_51 : decode cX12_move 51 = .ok (.iaload, 1) := by decide +kernel
theorem dX12_move_52 : decode cX12_move 52 = .ok (.aload_n 0, 1) := by decide +kernel
theorem dX12_move_53 : decode cX12_move 53 = .ok (.getfield 63, 3) := by decide +kernel
theorem dX12_move_56 : decode cX12_move 56 = .ok (.iload_n 3, 1) := by decide +kernel
theorem dX12_move_57 : decode cX12_move 57 = .ok (.iaload, 1) := by decide +kernel
theorem dX12_move_58 : decode cX12_move 58 = .ok (.if_icmp .eq 10, 3) := by decide +kernel
theorem dX12_move_61 : decode cX12_move 61 = .ok (.aload_n 0, 1) := by decide +kernel
theorem dX12_move_62 : decode cX12_move 62 = .ok (.ldc 157, 2) := by decide +kernel
theorem dX12_move_64 : decode cX12_move 64 = .ok (.invokevirtual 90, 3) := by decide +kernel
theorem dX12_move_67 : decode cX12_move 67 = .ok (.ireturn, 1) := by decide +kernel
theorem dX12_move_68 : decode cX12_move 68 = .ok (.iload 5, 2) := by decide +kernel
theorem dX12_move_70 : decode cX12_move 70 = .ok (.ifCond .lt 47, 3) := by decide +kernel
theorem dX12_move_73 : decode cX12_move 73 = .ok (.iload_n 2, 1) := by decide +kernel
theorem dX12_move_74 : decode cX12_move 74 = .ok (.ifCond .lt 43, 3) := by decide +kernel
theorem dX12_move_77 : decode cX12_move 77 = .ok (.iload 4, 2) := by decide +kernel
theorem dX12_move_79 : decode cX12_move 79 = .ok (.ifCond .lt 38, 3) := by decide +kernel
theorem dX12_move_82 : decode cX12_move 82 = .ok (.iload_n 2, 1) := by decide +kernel
theorem dX12_move_83 : decode cX12_move 83 = .ok (.i2l, 1) := by decide +kernel
theorem dX12_move_84 : decode cX12_move 84 = .ok (.iload 5, 2) := by decide +kernel
theorem dX12_move_86 : decode cX12_move 86 = .ok (.i2l, 1) := by decide +kernel
theorem dX12_move_87 : decode cX12_move 87 = .ok (.ladd, 1) := by decide +kernel
theorem dX12_move_88 : decode cX12_move 88 = .ok (.aload_n 0, 1) := by decide +kernel
theorem dX12_move_89 : decode cX12_move 89 = .ok (.getfield 66, 3) := by decide +kernel
theorem dX12_move_92 : decode cX12_move 92 = .ok (.iload_n 1, 1) := by decide +kernel
theorem dX12_move_93 : decode cX12_move 93 = .ok (.iaload, 1) := by decide +kernel
theorem dX12_move_94 : decode cX12_move 94 = .ok (.i2l, 1) := by decide +kernel
theorem dX12_move_95 : decode cX12_move 95 = .ok (.lcmp, 1) := by decide +kernel
theorem dX12_move_96 : decode cX12_move 96 = .ok (.ifCond .gt 21, 3) := by decide +kernel
theorem dX12_move_99 : decode cX12_move 99 = .ok (.iload 4, 2) := by decide +kernel
theorem dX12_move_101 : decode cX12_move 101 = .ok (.i2l, 1) := by decide +kernel
theorem dX12_move_102 : decode cX12_move 102 = .ok (.iload 5, 2) := by decide +kernel
theorem dX12_move_104 : decode cX12_move 104 = .ok (.i2l, 1) := by decide +kernel
theorem dX12_move_105 : decode cX12_move 105 = .ok (.ladd, 1) := by decide +kernel
theorem dX12_move_106 : decode cX12_move 106 = .ok (.aload_n 0, 1) := by decide +kernel
theorem dX12_move_107 : decode cX12_move 107 = .ok (.getfield 66, 3) := by decide +kernel
theorem dX12_move_110 : decode cX12_move 110 = .ok (.iload_n 3, 1) := by decide +kernel
theorem dX12_move_111 : decode cX12_move 111 = .ok (.iaload, 1) := by decide +kernel
theorem dX12_move_112 : decode cX12_move 112 = .ok (.i2l, 1) := by decide +kernel
theorem dX12_move_113 : decode cX12_move 113 = .ok (.lcmp, 1) := by decide +kernel
theorem dX12_move_114 : decode cX12_move 114 = .ok (.ifCond .le 10, 3) := by decide +kernel
theorem dX12_move_117 : decode cX12_move 117 = .ok (.aload_n 0, 1) := by decide +kernel
theorem dX12_move_118 : decode cX12_move 118 = .ok (.ldc 89, 2) := by decide +kernel
theorem dX12_move_120 : decode cX12_move 120 = .ok (.invokevirtual 90, 3) := by decide +kernel
theorem dX12_move_123 : decode cX12_move 123 = .ok (.ireturn, 1) := by decide +kernel
theorem dX12_move_124 : decode cX12_move 124 = .ok (.iconst 0, 1) := by decide +kernel
theorem dX12_move_125 : decode cX12_move 125 = .ok (.istore 6, 2) := by decide +kernel
theorem dX12_move_127 : decode cX12_move 127 = .ok (.iload 6, 2) := by decide +kernel
theorem dX12_move_129 : decode cX12_move 129 = .ok (.iload 5, 2) := by decide +kernel
theorem dX12_move_131 : decode cX12_move 131 = .ok (.if_icmp .ge 30, 3) := by decide +kernel
theorem dX12_move_134 : decode cX12_move 134 = .ok (.aload_n 0, 1) := by decide +kernel
theorem dX12_move_135 : decode cX12_move 135 = .ok (.getfield 72, 3) := by decide +kernel
theorem dX12_move_138 : decode cX12_move 138 = .ok (.iload 6, 2) := by decide +kernel
theorem dX12_move_140 : decode cX12_move 140 = .ok (.aload_n 0, 1) := by decide +kernel
theorem dX12_move_141 : decode cX12_move 141 = .ok (.getfield 69, 3) := by decide +kernel
theorem dX12_move_144 : decode cX12_move 144 = .ok (.bipush 40, 2) := by decide +kernel
theorem dX12_move_146 : decode cX12_move 146 = .ok (.iload_n 1, 1) := by decide +kernel
theorem dX12_move_147 : decode cX12_move 147 = .ok (.imul, 1) := by decide +kernel
theorem dX12_move_148 : decode cX12_move 148 = .ok (.iload_n 2, 1) := by decide +kernel
theorem dX12_move_149 : decode cX12_move 149 = .ok (.iadd, 1) := by decide +kernel
theorem dX12_move_150 : decode cX12_move 150 = .ok (.iload 6, 2) := by decide +kernel
theorem dX12_move_152 : decode cX12_move 152 = .ok (.iadd, 1) := by decide +kernel
theorem dX12_move_153 : decode cX12_move 153 = .ok (.iaload, 1) := by decide +kernel
theorem dX12_move_154 : decode cX12_move 154 = .ok (.iastore, 1) := by decide +kernel
theorem dX12_move_155 : decode cX12_move 155 = .ok (.iinc 6 1, 3) := by decide +kernel
theorem dX12_move_158 : decode cX12_move 158 = .ok (.goto (-31), 3) := by decide +kernel
theorem dX12_move_161 : decode cX12_move 161 = .ok (.iconst 0, 1) := by decide +kernel
theorem dX12_move_162 : decode cX12_move 162 = .ok (.istore 6, 2) := by decide +kernel
theorem dX12_move_164 : decode cX12_move 164 = .ok (.iload 6, 2) := by decide +kernel
theorem dX12_move_166 : decode cX12_move 166 = .ok (.iload 5, 2) := by decide +kernel
theorem dX12_move_168 : decode cX12_move 168 = .ok (.if_icmp .ge 31, 3) := by decide +kernel
theorem dX12_move_171 : decode cX12_move 171 = .ok (.aload_n 0, 1) := by decide +kernel
theorem dX12_move_172 : decode cX12_move 172 = .ok (.getfield 69, 3) := by decide +kernel
theorem dX12_move_175 : decode cX12_move 175 = .ok (.bipush 40, 2) := by decide +kernel
theorem dX12_move_177 : decode cX12_move 177 = .ok (.iload_n 3, 1) := by decide +kernel
theorem dX12_move_178 : decode cX12_move 178 = .ok (.imul, 1) := by decide +kernel
theorem dX12_move_179 : decode cX12_move 179 = .ok (.iload 4, 2) := by decide +kernel
theorem dX12_move_181 : decode cX12_move 181 = .ok (.iadd, 1) := by decide +kernel
theorem dX12_move_182 : decode cX12_move 182 = .ok (.iload 6, 2) := by decide +kernel
theorem dX12_move_184 : decode cX12_move 184 = .ok (.iadd, 1) := by decide +kernel
theorem dX12_move_185 : decode cX12_move 185 = .ok (.aload_n 0, 1) := by decide +kernel
theorem dX12_move_186 : decode cX12_move 186 = .ok (.getfield 72, 3) := by decide +kernel
theorem dX12_move_189 : decode cX12_move 189 = .ok (.iload 6, 2) := by decide +kernel
theorem dX12_move_191 : decode cX12_move 191 = .ok (.iaload, 1) := by decide +kernel
theorem dX12_move_192 : decode cX12_move 192 = .ok (.iastore, 1) := by decide +kernel
theorem dX12_move_193 : decode cX12_move 193 = .ok (.iinc 6 1, 3) := by decide +kernel
theorem dX12_move_196 : decode cX12_move 196 = .ok (.goto (-32), 3) := by decide +kernel
theorem dX12_move_199 : decode cX12_move 199 = .ok (.iload 5, 2) := by decide +kernel
theorem dX12_move_201 : decode cX12_move 201 = .ok (.ireturn, 1) := by decide +kernel
theorem dX12_image_0 : decode cX12_image 0 = .ok (.aload_n 0, 1) := by decide +kernel
theorem dX12_image_1 : decode cX12_image 1 = .ok (.getfield 9, 3) := by decide +kernel
theorem dX12_image_4 : decode cX12_image 4 = .ok (.aload_n 0, 1) := by decide +kernel
theorem dX12_image_5 : decode cX12_image 5 = .ok (.getfield 13, 3) := by decide +kernel
theorem dX12_image_8 : decode cX12_image 8 = .ok (.invokestatic 277, 3) := by decide +kernel
theorem dX12_image_11 : decode cX12_image 11 = .ok (.aload_n 0, 1) := by decide +kernel
theorem dX12_image_12 : decode cX12_image 12 = .ok (.dup, 1) := by decide +kernel
theorem dX12_image_13 : decode cX12_image 13 = .ok (.getfield 320, 3) := by decide +kernel
theorem dX12_image_16 : decode cX12_image 16 = .ok (.iconst 1, 1) := by decide +kernel
theorem dX12_image_17 : decode cX12_image 17 = .ok (.iadd, 1) := by decide +kernel
theorem dX12_image_18 : decode cX12_image 18 = .ok (.putfield 320, 3) := by decide +kernel
theorem dX12_image_21 : decode cX12_image 21 = .ok (.aload_n 0, 1) := by decide +kernel
theorem dX12_image_22 : decode cX12_image 22 = .ok (.getfield 320, 3) := by decide +kernel
theorem dX12_image_25 : decode cX12_image 25 = .ok (.ireturn, 1) := by decide +kernel
theorem dX12_restore_0 : decode cX12_restore 0 = .ok (.aload_n 0, 1) := by decide +kernel
theorem dX12_restore_1 : decode cX12_restore 1 = .ok (.getfield 320, 3) := by decide +kernel
theorem dX12_restore_4 : decode cX12_restore 4 = .ok (.ifCond .ne 10, 3) := by decide +kernel
theorem dX12_restore_7 : decode cX12_restore 7 = .ok (.aload_n 0, 1) := by decide +kernel
theorem dX12_restore_8 : decode cX12_restore 8 = .ok (.ldc 119, 2) := by decide +kernel
theorem dX12_restore_10 : decode cX12_restore 10 = .ok (.invokevirtual 90, 3) := by decide +kernel
theorem dX12_restore_13 : decode cX12_restore 13 = .ok (.ireturn, 1) := by decide +kernel
theorem dX12_restore_14 : decode cX12_restore 14 = .ok (.aload_n 0, 1) := by decide +kernel
theorem dX12_restore_15 : decode cX12_restore 15 = .ok (.getfield 13, 3) := by decide +kernel
theorem dX12_restore_18 : decode cX12_restore 18 = .ok (.aload_n 0, 1) := by decide +kernel
theorem dX12_restore_19 : decode cX12_restore 19 = .ok (.getfield 9, 3) := by decide +kernel
theorem dX12_restore_22 : decode cX12_restore 22 = .ok (.invokestatic 277, 3) := by decide +kernel
theorem dX12_restore_25 : decode cX12_restore 25 = .ok (.aload_n 0, 1) := by decide +kernel
theorem dX12_restore_26 : decode cX12_restore 26 = .ok (.getfield 9, 3) := by decide +kernel
theorem dX12_restore_29 : decode cX12_restore 29 = .ok (.iconst 0, 1) := by decide +kernel
theorem dX12_restore_30 : decode cX12_restore 30 = .ok (.iaload, 1) := by decide +kernel
theorem dX12_restore_31 : decode cX12_restore 31 = .ok (.ireturn, 1) := by decide +kernel
theorem dX12_tell_0 : decode cX12_tell 0 = .ok (.aload_n 0, 1) := by decide +kernel
theorem dX12_tell_1 : decode cX12_tell 1 = .ok (.getfield 9, 3) := by decide +kernel
theorem dX12_tell_4 : decode cX12_tell 4 = .ok (.iconst 4, 1) := by decide +kernel
theorem dX12_tell_5 : decode cX12_tell 5 = .ok (.iaload, 1) := by decide +kernel
theorem dX12_tell_6 : decode cX12_tell 6 = .ok (.bipush 20, 2) := by decide +kernel
theorem dX12_tell_8 : decode cX12_tell 8 = .ok (.if_icmp .ne 10, 3) := by decide +kernel
theorem dX12_tell_11 : decode cX12_tell 11 = .ok (.aload_n 0, 1) := by decide +kernel
theorem dX12_tell_12 : decode cX12_tell 12 = .ok (.ldc 94, 2) := by decide +kernel
theorem dX12_tell_14 : decode cX12_tell 14 = .ok (.invokevirtual 90, 3) := by decide +kernel
theorem dX12_tell_17 : decode cX12_tell 17 = .ok (.ireturn, 1) := by decide +kernel
theorem dX12_tell_18 : decode cX12_tell 18 = .ok (.aload_n 0, 1) := by decide +kernel
theorem dX12_tell_19 : decode cX12_tell 19 = .ok (.getfield 9, 3) := by decide +kernel
theorem dX12_tell_22 : decode cX12_tell 22 = .ok (.sipush 232, 3) := by decide +kernel
theorem dX12_tell_25 : decode cX12_tell 25 = .ok (.aload_n 0, 1) := by decide +kernel
theorem dX12_tell_26 : decode cX12_tell 26 = .ok (.getfield 9, 3) := by decide +kernel
theorem dX12_tell_29 : decode cX12_tell 29 = .ok (.iconst 4, 1) := by decide +kernel
theorem dX12_tell_30 : decode cX12_tell 30 = .ok (.iaload, 1) := by decide +kernel
theorem dX12_tell_31 : decode cX12_tell 31 = .ok (.iadd, 1) := by decide +kernel
theorem dX12_tell_32 : decode cX12_tell 32 = .ok (.iload_n 1, 1) := by decide +kernel
theorem dX12_tell_33 : decode cX12_tell 33 = .ok (.iastore, 1) := by decide +kernel
theorem dX12_tell_34 : decode cX12_tell 34 = .ok (.aload_n 0, 1) := by decide +kernel
theorem dX12_tell_35 : decode cX12_tell 35 = .ok (.getfield 9, 3) := by decide +kernel
theorem dX12_tell_38 : decode cX12_tell 38 = .ok (.iconst 4, 1) := by decide +kernel
theorem dX12_tell_39 : decode cX12_tell 39 = .ok (.dup2, 1) := by decide +kernel
theorem dX12_tell_40 : decode cX12_tell 40 = .ok (.iaload, 1) := by decide +kernel
theorem dX12_tell_41 : decode cX12_tell 41 = .ok (.iconst 1, 1) := by decide +kernel
theorem dX12_tell_42 : decode cX12_tell 42 = .ok (.iadd, 1) := by decide +kernel
theorem dX12_tell_43 : decode cX12_tell 43 = .ok (.iastore, 1) := by decide +kernel
theorem dX12_tell_44 : decode cX12_tell 44 = .ok (.aload_n 0, 1) := by decide +kernel
theorem dX12_tell_45 : decode cX12_tell 45 = .ok (.getfield 9, 3) := by decide +kernel
theorem dX12_tell_48 : decode cX12_tell 48 = .ok (.iconst 4, 1) := by decide +kernel
theorem dX12_tell_49 : decode cX12_tell 49 = .ok (.iaload, 1) := by decide +kernel
theorem dX12_tell_50 : decode cX12_tell 50 = .ok (.ireturn, 1) := by decide +kernel
theorem dX12_check_0 : decode cX12_check 0 = .ok (.aload_n 0, 1) := by decide +kernel
theorem dX12_check_1 : decode cX12_check 1 = .ok (.getfield 9, 3) := by decide +kernel
theorem dX12_check_4 : decode cX12_check 4 = .ok (.iconst 4, 1) := by decide +kernel
theorem dX12_check_5 : decode cX12_check 5 = .ok (.iaload, 1) := by decide +kernel
theorem dX12_check_6 : decode cX12_check 6 = .ok (.istore_n 2, 1) := by decide +kernel
theorem dX12_check_7 : decode cX12_check 7 = .ok (.aload_n 0, 1) := by decide +kernel
theorem dX12_check_8 : decode cX12_check 8 = .ok (.getfield 9, 3) := by decide +kernel
theorem dX12_check_11 : decode cX12_check 11 = .ok (.iconst 4, 1) := by decide +kernel
theorem dX12_check_12 : decode cX12_check 12 = .ok (.iconst 0, 1) := by decide +kernel
theorem dX12_check_13 : decode cX12_check 13 = .ok (.iastore, 1) := by decide +kernel
theorem dX12_check_14 : decode cX12_check 14 = .ok (.iload_n 1, 1) := by decide +kernel
theorem dX12_check_15 : decode cX12_check 15 = .ok (.invokestatic 281, 3) := by decide +kernel
theorem dX12_check_18 : decode cX12_check 18 = .ok (.ifCond .ne 10, 3) := by decide +kernel
theorem dX12_check_21 : decode cX12_check 21 = .ok (.aload_n 0, 1) := by decide +kernel
theorem dX12_check_22 : decode cX12_check 22 = .ok (.ldc 89, 2) := by decide +kernel
theorem dX12_check_24 : decode cX12_check 24 = .ok (.invokevirtual 90, 3) := by decide +kernel
theorem dX12_check_27 : decode cX12_check 27 = .ok (.ireturn, 1) := by decide +kernel
theorem dX12_check_28 : decode cX12_check 28 = .ok (.aload_n 0, 1) := by decide +kernel
theorem dX12_check_29 : decode cX12_check 29 = .ok (.getfield 9, 3) := by decide +kernel
theorem dX12_check_32 : decode cX12_check 32 = .ok (.aload_n 0, 1) := by decide +kernel
theorem dX12_check_33 : decode cX12_check 33 = .ok (.getfield 16, 3) := by decide +kernel
theorem dX12_check_36 : decode cX12_check 36 = .ok (.invokestatic 277, 3) := by decide +kernel
theorem dX12_check_39 : decode cX12_check 39 = .ok (.aload_n 0, 1) := by decide +kernel
theorem dX12_check_40 : decode cX12_check 40 = .ok (.iload_n 1, 1) := by decide +kernel
theorem dX12_check_41 : decode cX12_check 41 = .ok (.invokevirtual 284, 3) := by decide +kernel
theorem dX12_check_44 : decode cX12_check 44 = .ok (.istore_n 3, 1) := by decide +kernel
theorem dX12_check_45 : decode cX12_check 45 = .ok (.iconst 0, 1) := by decide +kernel
theorem dX12_check_46 : decode cX12_check 46 = .ok (.istore 4, 2) := by decide +kernel
theorem dX12_check_48 : decode cX12_check 48 = .ok (.iload_n 2, 1) := by decide +kernel
theorem dX12_check_49 : decode cX12_check 49 = .ok (.aload_n 0, 1) := by decide +kernel
theorem dX12_check_50 : decode cX12_check 50 = .ok (.getfield 9, 3) := by decide +kernel
theorem dX12_check_53 : decode cX12_check 53 = .ok (.iconst 1, 1) := by decide +kernel
theorem dX12_check_54 : decode cX12_check 54 = .ok (.iaload, 1) := by decide +kernel
theorem dX12_check_55 : decode cX12_check 55 = .ok (.if_icmp .le 14, 3) := by decide +kernel
theorem dX12_check_58 : decode cX12_check 58 = .ok (.iconst 1, 1) := by decide +kernel
theorem dX12_check_59 : decode cX12_check 59 = .ok (.aload_n 0, 1) := by decide +kernel
theorem dX12_check_60 : decode cX12_check 60 = .ok (.getfield 9, 3) := by decide +kernel
theorem dX12_check_63 : decode cX12_check 63 = .ok (.iconst 1, 1) := by decide +kernel
theorem dX12_check_64 : decode cX12_check 64 = .ok (.iaload, 1) := by decide +kernel
theorem dX12_check_65 : decode cX12_check 65 = .ok (.iadd, 1) := by decide +kernel
theorem dX12_check_66 : decode cX12_check 66 = .ok (.goto 4, 3) := by decide +kernel
theorem dX12_check_69 : decode cX12_check 69 = .ok (.iconst 0, 1) := by decide +kernel
theorem dX12_check_70 : decode cX12_check 70 = .ok (.istore 5, 2) := by decide +kernel
theorem dX12_check_72 : decode cX12_check 72 = .ok (.iconst 0, 1) := by decide +kernel
theorem dX12_check_73 : decode cX12_check 73 = .ok (.istore 6, 2) := by decide +kernel
theorem dX12_check_75 : decode cX12_check 75 = .ok (.iload 6, 2) := by decide +kernel
theorem dX12_check_77 : decode cX12_check 77 = .ok (.aload_n 0, 1) := by decide +kernel
theorem dX12_check_78 : decode cX12_check 78 = .ok (.getfield 9, 3) := by decide +kernel
theorem dX12_check_81 : decode cX12_check 81 = .ok (.iconst 1, 1) := by decide +kernel
theorem dX12_check_82 : decode cX12_check 82 = .ok (.iaload, 1) := by decide +kernel
theorem dX12_check_83 : decode cX12_check 83 = .ok (.if_icmp .ge 129, 3) := by decide +kernel
theorem dX12_check_86 : decode cX12_check 86 = .ok (.iload 5, 2) := by decide +kernel
theorem dX12_check_88 : decode cX12_check 88 = .ok (.ifCond .eq 14, 3) := by decide +kernel
theorem dX12_check_91 : decode cX12_check 91 = .ok (.iload 5, 2) := by decide +kernel
theorem dX12_check_93 : decode cX12_check 93 = .ok (.aload_n 0, 1) := by decide +kernel
theorem dX12_check_94 : decode cX12_check 94 = .ok (.getfield 9, 3) := by decide +kernel
theorem dX12_check_97 : decode cX12_check 97 = .ok (.iconst 1, 1) := by decide +kernel
theorem dX12_check_98 : decode cX12_check 98 = .ok (.iaload, 1) := by decide +kernel
theorem dX12_check_99 : decode cX12_check 99 = .ok (.if_icmp .le 113, 3) := by decide +kernel
theorem dX12_check_102 : decode cX12_check 102 = .ok (.iconst (-1), 1) := by decide +kernel
theorem dX12_check_103 : decode cX12_check 103 = .ok (.istore 7, 2) := by decide +kernel
theorem dX12_check_105 : decode cX12_check 105 = .ok (.iconst 0, 1) := by decide +kernel
theorem dX12_check_106 : decode cX12_check 106 = .ok (.istore 8, 2) := by decide +kernel
theorem dX12_check_108 : decode cX12_check 108 = .ok (.iload 8, 2) := by decide +kernel
theorem dX12_check_110 : decode cX12_check 110 = .ok (.aload_n 0, 1) := by decide +kernel
theorem dX12_check_111 : decode cX12_check 111 = .ok (.getfield 9, 3) := by decide +kernel
theorem dX12_check_114 : decode cX12_check 114 = .ok (.iconst 1, 1) := by decide +kernel
theorem dX12_check_115 : decode cX12_check 115 = .ok (.iaload, 1) := by decide +kernel
theorem dX12_check_116 : decode cX12_check 116 = .ok (.if_icmp .ge 48, 3) := by decide +kernel
theorem dX12_check_119 : decode cX12_check 119 = .ok (.iload 4, 2) := by decide +kernel
theorem dX12_check_121 : decode cX12_check 121 = .ok (.iload 8, 2) := by decide +kernel
theorem dX12_check_123 : decode cX12_check 123 = .ok (.invokestatic 161, 3) := by decide +kernel
theorem dX12_check_126 : decode cX12_check 126 = .ok (.ifCond .ne 28, 3) := by decide +kernel
theorem dX12_check_129 : decode cX12_check 129 = .ok (.iload 7, 2) := by decide +kernel
theorem dX12_check_131 : decode cX12_check 131 = .ok (.ifCond .lt 18, 3) := by decide +kernel
theorem dX12_check_134 : decode cX12_check 134 = .ok (.aload_n 0, 1) := by decide +kernel
theorem dX12_check_135 : decode cX12_check 135 = .ok (.iload 8, 2) := by decide +kernel
theorem dX12_check_137 : decode cX12_check 137 = .ok (.invokevirtual 107, 3) := by decide +kernel
theorem dX12_check_140 : decode cX12_check 140 = .ok (.aload_n 0, 1) := by decide +kernel
theorem dX12_check_141 : decode cX12_check 141 = .ok (.iload 7, 2) := by decide +kernel
theorem dX12_check_143 : decode cX12_check 143 = .ok (.invokevirtual 107, 3) := by decide +kernel
theorem dX12_check_146 : decode cX12_check 146 = .ok (.if_icmp .le 8, 3) := by decide +kernel
theorem dX12_check_149 : decode cX12_check 149 = .ok (.iload 8, 2) := by decide +kernel
theorem dX12_check_151 : decode cX12_check 151 = .ok (.goto 5, 3) := by decide +kernel
theorem dX12_check_154 : decode cX12_check 154 = .ok (.iload 7, 2) := by decide +kernel
theorem dX12_check_156 : decode cX12_check 156 = .ok (.istore 7, 2) := by decide +kernel
theorem dX12_check_158 : decode cX12_check 158 = .ok (.iinc 8 1, 3) := by decide +kernel
theorem dX12_check_161 : decode cX12_check 161 = .ok (.goto (-53), 3) := by decide +kernel
theorem dX12_check_164 : decode cX12_check 164 = .ok (.iload 6, 2) := by decide +kernel
theorem dX12_check_166 : decode cX12_check 166 = .ok (.iload_n 2, 1) := by decide +kernel
theorem dX12_check_167 : decode cX12_check 167 = .ok (.if_icmp .ge 19, 3) := by decide +kernel
theorem dX12_check_170 : decode cX12_check 170 = .ok (.aload_n 0, 1) := by decide +kernel
theorem dX12_check_171 : decode cX12_check 171 = .ok (.getfield 16, 3) := by decide +kernel
theorem dX12_check_174 : decode cX12_check 174 = .ok (.sipush 232, 3) := by decide +kernel
theorem dX12_check_177 : decode cX12_check 177 = .ok (.iload 6, 2) := by decide +kernel
theorem dX12_check_179 : decode cX12_check 179 = .ok (.iadd, 1) := by decide +kernel
theorem dX12_check_180 : decode cX12_check 180 = .ok (.iaload, 1) := by decide +kernel
theorem dX12_check_181 : decode cX12_check 181 = .ok (.iload 7, 2) := by decide +kernel
theorem dX12_check_183 : decode cX12_check 183 = .ok (.if_icmp .eq 10, 3) := by decide +kernel
theorem dX12_check_186 : decode cX12_check 186 = .ok (.iconst 1, 1) := by decide +kernel
theorem dX12_check_187 : decode cX12_check 187 = .ok (.iload 6, 2) := by decide +kernel
theorem dX12_check_189 : decode cX12_check 189 = .ok (.iadd, 1) := by decide +kernel
theorem dX12_check_190 : decode cX12_check 190 = .ok (.goto 5, 3) := by decide +kernel
theorem dX12_check_193 : decode cX12_check 193 = .ok (.iload 5, 2) := by decide +kernel
theorem dX12_check_195 : decode cX12_check 195 = .ok (.istore 5, 2) := by decide +kernel
theorem dX12_check_197 : decode cX12_check 197 = .ok (.iload 4, 2) := by decide +kernel
theorem dX12_check_199 : decode cX12_check 199 = .ok (.iconst 1, 1) := by decide +kernel
theorem dX12_check_200 : decode cX12_check 200 = .ok (.iload 7, 2) := by decide +kernel
theorem dX12_check_202 : decode cX12_check 202 = .ok (.ishl, 1) := by decide +kernel
theorem dX12_check_203 : decode cX12_check 203 = .ok (.ior, 1) := by decide +kernel
theorem dX12_check_204 : decode cX12_check 204 = .ok (.istore 4, 2) := by decide +kernel
theorem dX12_check_206 : decode cX12_check 206 = .ok (.iinc 6 1, 3) := by decide +kernel
theorem dX12_check_209 : decode cX12_check 209 = .ok (.goto (-134), 3) := by decide +kernel
theorem dX12_check_212 : decode cX12_check 212 = .ok (.aload_n 0, 1) := by decide +kernel
theorem dX12_check_213 : decode cX12_check 213 = .ok (.iload 5, 2) := by decide +kernel
theorem dX12_check_215 : decode cX12_check 215 = .ok (.invokevirtual 290, 3) := by decide +kernel
theorem dX12_check_218 : decode cX12_check 218 = .ok (.ireturn, 1) := by decide +kernel
theorem dX12_count_0 : decode cX12_count 0 = .ok (.iconst 0, 1) := by decide +kernel
theorem dX12_count_1 : decode cX12_count 1 = .ok (.istore_n 2, 1) := by decide +kernel
theorem dX12_count_2 : decode cX12_count 2 = .ok (.iload_n 1, 1) := by decide +kernel
theorem dX12_count_3 : decode cX12_count 3 = .ok (.tableswitch 119 0 8 #[49, 49, 49, 56, 85, 93, 100, 107, 112], 49) := by decide +kernel
theorem dX12_count_52 : decode cX12_count 52 = .ok (.aload_n 0, 1) := by decide +kernel
theorem dX12_count_53 : decode cX12_count 53 = .ok (.getfield 9, 3) := by decide +kernel
theorem dX12_count_56 : decode cX12_count 56 = .ok (.iload_n 1, 1) := by decide +kernel
theorem dX12_count_57 : decode cX12_count 57 = .ok (.iaload, 1) := by decide +kernel
theorem dX12_count_58 : decode cX12_count 58 = .ok (.ireturn, 1) := by decide +kernel
theorem dX12_count_59 : decode cX12_count 59 = .ok (.iconst 0, 1) := by decide +kernel
theorem dX12_count_60 : decode cX12_count 60 = .ok (.istore_n 3, 1) := by decide +kernel
theorem dX12_count_61 : decode cX12_count 61 = .ok (.iload_n 3, 1) := by decide +kernel
theorem dX12_count_62 : decode cX12_count 62 = .ok (.aload_n 0, 1) := by decide +kernel
theorem dX12_count_63 : decode cX12_count 63 = .ok (.getfield 9, 3) := by decide +kernel
theorem dX12_count_66 : decode cX12_count 66 = .ok (.iconst 2, 1) := by decide +kernel
theorem dX12_count_67 : decode cX12_count 67 = .ok (.iaload, 1) := by decide +kernel
theorem dX12_count_68 : decode cX12_count 68 = .ok (.if_icmp .ge 18, 3) := by decide +kernel
theorem dX12_count_71 : decode cX12_count 71 = .ok (.iload_n 2, 1) := by decide +kernel
theorem dX12_count_72 : decode cX12_count 72 = .ok (.aload_n 0, 1) := by decide +kernel
theorem dX12_count_73 : decode cX12_count 73 = .ok (.iload_n 3, 1) := by decide +kernel
theorem dX12_count_74 : decode cX12_count 74 = .ok (.iconst 5, 1) := by decide +kernel
theorem dX12_count_75 : decode cX12_count 75 = .ok (.invokevirtual 136, 3) := by decide +kernel
theorem dX12_count_78 : decode cX12_count 78 = .ok (.iadd, 1) := by decide +kernel
theorem dX12_count_79 : decode cX12_count 79 = .ok (.istore_n 2, 1) := by decide +kernel
theorem dX12_count_80 : decode cX12_count 80 = .ok (.iinc 3 1, 3) := by decide +kernel
theorem dX12_count_83 : decode cX12_count 83 = .ok (.goto (-22), 3) := by decide +kernel
theorem dX12_count_86 : decode cX12_count 86 = .ok (.iload_n 2, 1) := by decide +kernel
theorem dX12_count_87 : decode cX12_count 87 = .ok (.ireturn, 1) := by decide +kernel
theorem dX12_count_88 : decode cX12_count 88 = .ok (.aload_n 0, 1) := by decide +kernel
theorem dX12_count_89 : decode cX12_count 89 = .ok (.getfield 9, 3) := by decide +kernel
theorem dX12_count_92 : decode cX12_count 92 = .ok (.bipush 12, 2) := by decide +kernel
theorem dX12_count_94 : decode cX12_count 94 = .ok (.iaload, 1) := by decide +kernel
theorem dX12_count_95 : decode cX12_count 95 = .ok (.ireturn, 1) := by decide +kernel
theorem dX12_count_96 : decode cX12_count 96 = .ok (.aload_n 0, 1) := by decide +kernel
theorem dX12_count_97 : decode cX12_count 97 = .ok (.getfield 9, 3) := by decide +kernel
theorem dX12_count_100 : decode cX12_count 100 = .ok (.iconst 3, 1) := by decide +kernel
theorem dX12_count_101 : decode cX12_count 101 = .ok (.iaload, 1) := by decide +kernel
theorem dX12_count_102 : decode cX12_count 102 = .ok (.ireturn, 1) := by decide +kernel
theorem dX12_count_103 : decode cX12_count 103 = .ok (.aload_n 0, 1) := by decide +kernel
theorem dX12_count_104 : decode cX12_count 104 = .ok (.getfield 9, 3) := by decide +kernel
theorem dX12_count_107 : decode cX12_count 107 = .ok (.iconst 4, 1) := by decide +kernel
theorem dX12_count_108 : decode cX12_count 108 = .ok (.iaload, 1) := by decide +kernel
theorem dX12_count_109 : decode cX12_count 109 = .ok (.ireturn, 1) := by decide +kernel
theorem dX12_count_110 : decode cX12_count 110 = .ok (.aload_n 0, 1) := by decide +kernel
theorem dX12_count_111 : decode cX12_count 111 = .ok (.getfield 299, 3) := by decide +kernel
theorem dX12_count_114 : decode cX12_count 114 = .ok (.ireturn, 1) := by decide +kernel
theorem dX12_count_115 : decode cX12_count 115 = .ok (.aload_n 0, 1) := by decide +kernel
theorem dX12_count_116 : decode cX12_count 116 = .ok (.getfield 9, 3) := by decide +kernel
theorem dX12_count_119 : decode cX12_count 119 = .ok (.iconst 5, 1) := by decide +kernel
theorem dX12_count_120 : decode cX12_count 120 = .ok (.iaload, 1) := by decide +kernel
theorem dX12_count_121 : decode cX12_count 121 = .ok (.ireturn, 1) := by decide +kernel
theorem dX12_count_122 : decode cX12_count 122 = .ok (.aload_n 0, 1) := by decide +kernel
theorem dX12_count_123 : decode cX12_count 123 = .ok (.ldc 89, 2) := by decide +kernel
theorem dX12_count_125 : decode cX12_count 125 = .ok (.invokevirtual 90, 3) := by decide +kernel
theorem dX12_count_128 : decode cX12_count 128 = .ok (.ireturn, 1) := by decide +kernel
theorem dX12_told_0 : decode cX12_told 0 = .ok (.iload_n 1, 1) := by decide +kernel
theorem dX12_told_1 : decode cX12_told 1 = .ok (.iconst 1, 1) := by decide +kernel
theorem dX12_told_2 : decode cX12_told 2 = .ok (.iconst 5, 1) := by decide +kernel
theorem dX12_told_3 : decode cX12_told 3 = .ok (.invokestatic 76, 3) := by decide +kernel
theorem dX12_told_6 : decode cX12_told 6 = .ok (.ifCond .eq 12, 3) := by decide +kernel
theorem dX12_told_9 : decode cX12_told 9 = .ok (.aload_n 0, 1) := by decide +kernel
theorem dX12_told_10 : decode cX12_told 10 = .ok (.getfield 19, 3) := by decide +kernel
theorem dX12_told_13 : decode cX12_told 13 = .ok (.iload_n 1, 1) := by decide +kernel
theorem dX12_told_14 : decode cX12_told 14 = .ok (.iaload, 1) := by decide +kernel
theorem dX12_told_15 : decode cX12_told 15 = .ok (.goto 9, 3) := by decide +kernel
theorem dX12_told_18 : decode cX12_told 18 = .ok (.aload_n 0, 1) := by decide +kernel
theorem dX12_told_19 : decode cX12_told 19 = .ok (.ldc 89, 2) := by decide +kernel
theorem dX12_told_21 : decode cX12_told 21 = .ok (.invokevirtual 90, 3) := by decide +kernel
theorem dX12_told_24 : decode cX12_told 24 = .ok (.ireturn, 1) := by decide +kernel
