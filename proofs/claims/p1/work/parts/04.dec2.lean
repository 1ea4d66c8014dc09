theorem dX13_init_0 : decode cX13_init 0 = .ok (.aload_n 0, 1) := by decide +kernel
theorem dX13_init_1 : decode cX13_init 1 = .ok (.invokespecial 1, 3) := by decide +kernel
theorem dX13_init_4 : decode cX13_init 4 = .ok (.aload_n 0, 1) := by decide +kernel
theorem dX13_init_5 : decode cX13_init 5 = .ok (.bipush 10, 2) := by decide +kernel
theorem dX13_init_7 : decode cX13_init 7 = .ok (.newarray .long, 2) := by decide +kernel
theorem dX13_init_9 : decode cX13_init 9 = .ok (.dup, 1) := by decide +kernel
theorem dX13_init_10 : decode cX13_init 10 = .ok (.iconst 0, 1) := by decide +kernel
theorem dX13_init_11 : decode cX13_init 11 = .ok (.ldc2_w 7, 3) := by decide +kernel
theorem dX13_init_14 : decode cX13_init 14 = .ok (.lastore, 1) := by decide +kernel
theorem dX13_init_15 : decode cX13_init 15 = .ok (.dup, 1) := by decide +kernel
theorem dX13_init_16 : decode cX13_init 16 = .ok (.iconst 1, 1) := by decide +kernel
theorem dX13_init_17 : decode cX13_init 17 = .ok (.ldc2_w 9, 3) := by decide +kernel
theorem dX13_init_20 : decode cX13_init 20 = .ok (.lastore, 1) := by decide +kernel
theorem dX13_init_21 : decode cX13_init 21 = .ok (.dup, 1) := by decide +kernel
theorem dX13_init_22 : decode cX13_init 22 = .ok (.iconst 2, 1) := by decide +kernel
theorem dX13_init_23 : decode cX13_init 23 = .ok (.ldc2_w 11, 3) := by decide +kernel
theorem dX13_init_26 : decode cX13_init 26 = .ok (.lastore, 1) := by decide +kernel
theorem dX13_init_27 : decode cX13_init 27 = .ok (.dup, 1) := by decide +kernel
theorem dX13_init_28 : decode cX13_init 28 = .ok (.iconst 3, 1) := by decide +kernel
theorem dX13_init_29 : decode cX13_init 29 = .ok (.ldc2_w 13, 3) := by decide +kernel
theorem dX13_init_32 : decode cX13_init 32 = .ok (.lastore, 1) := by decide +kernel
theorem dX13_init_33 : decode cX13_init 33 = .ok (.dup, 1) := by decide +kernel
theorem dX13_init_34 : decode cX13_init 34 = .ok (.iconst 4, 1) := by decide +kernel
theorem dX13_init_35 : decode cX13_init 35 = .ok (.ldc2_w 15, 3) := by decide +kernel
theorem dX13_init_38 : decode cX13_init 38 = .ok (.lastore, 1) := by decide +kernel
theorem dX13_init_39 : decode cX13_init 39 = .ok (.dup, 1) := by decide +kernel
theorem dX13_init_40 : decode cX13_init 40 = .ok (.iconst 5, 1) := by decide +kernel
theorem dX13_init_41 : decode cX13_init 41 = .ok (.ldc2_w 17, 3) := by decide +kernel
theorem dX13_init_44 : decode cX13_init 44 = .ok (.lastore, 1) := by decide +kernel
theorem dX13_init_45 : decode cX13_init 45 = .ok (.dup, 1) := by decide +kernel
theorem dX13_init_46 : decode cX13_init 46 = .ok (.bipush 6, 2) := by decide +kernel
theorem dX13_init_48 : decode cX13_init 48 = .ok (.ldc2_w 19, 3) := by decide +kernel
theorem dX13_init_51 : decode cX13_init 51 = .ok (.lastore, 1) := by decide +kernel
theorem dX13_init_52 : decode cX13_init 52 = .ok (.dup, 1) := by decide +kernel
theorem dX13_init_53 : decode cX13_init 53 = .ok (.bipush 7, 2) := by decide +kernel
theorem dX13_init_55 : decode cX13_init 55 = .ok (.ldc2_w 21, 3) := by decide +kernel
theorem dX13_init_58 : decode cX13_init 58 = .ok (.lastore, 1) := by decide +kernel
theorem dX13_init_59 : decode cX13_init 59 = .ok (.dup, 1) := by decide +kernel
theorem dX13_init_60 : decode cX13_init 60 = .ok (.bipush 8, 2) := by decide +kernel
theorem dX13_init_62 : decode cX13_init 62 = .ok (.ldc2_w 23, 3) := by decide +kernel
theorem dX13_init_65 : decode cX13_init 65 = .ok (.lastore, 1) := by decide +kernel
theorem dX13_init_66 : decode cX13_init 66 = .ok (.dup, 1) := by decide +kernel
theorem dX13_init_67 : decode cX13_init 67 = .ok (.bipush 9, 2) := by decide +kernel
theorem dX13_init_69 : decode cX13_init 69 = .ok (.ldc2_w 25, 3) := by decide +kernel
theorem dX13_init_72 : decode cX13_init 72 = .ok (.lastore, 1) := by decide +kernel
theorem dX13_init_73 : decode cX13_init 73 = .ok (.putfield 27, 3) := by decide +kernel
theorem dX13_init_76 : decode cX13_init 76 = .ok (.aload_n 0, 1) := by decide +kernel
theorem dX13_init_77 : decode cX13_init 77 = .ok (.bipush 11, 2) := by decide +kernel
theorem dX13_init_79 : decode cX13_init 79 = .ok (.newarray .long, 2) := by decide +kernel
theorem dX13_init_81 : decode cX13_init 81 = .ok (.dup, 1) := by decide +kernel
theorem dX13_init_82 : decode cX13_init 82 = .ok (.iconst 0, 1) := by decide +kernel
theorem dX13_init_83 : decode cX13_init 83 = .ok (.ldc2_w 33, 3) := by decide +kernel
theorem dX13_init_86 : decode cX13_init 86 = .ok (.lastore, 1) := by decide +kernel
theorem dX13_init_87 : decode cX13_init 87 = .ok (.dup, 1) := by decide +kernel
theorem dX13_init_88 : decode cX13_init 88 = .ok (.iconst 1, 1) := by decide +kernel
theorem dX13_init_89 : decode cX13_init 89 = .ok (.ldc2_w 35, 3) := by decide +kernel
theorem dX13_init_92 : decode cX13_init 92 = .ok (.lastore, 1) := by decide +kernel
theorem dX13_init_93 : decode cX13_init 93 = .ok (.dup, 1) := by decide +kernel
theorem dX13_init_94 : decode cX13_init 94 = .ok (.iconst 2, 1) := by decide +kernel
theorem dX13_init_95 : decode cX13_init 95 = .ok (.ldc2_w 37, 3) := by decide +kernel
theorem dX13_init_98 : decode cX13_init 98 = .ok (.lastore, 1) := by decide +kernel
theorem dX13_init_99 : decode cX13_init 99 = .ok (.dup, 1) := by decide +kernel
theorem dX13_init_100 : decode cX13_init 100 = .ok (.iconst 3, 1) := by decide +kernel
theorem dX13_init_101 : decode cX13_init 101 = .ok (.ldc2_w 39, 3) := by decide +kernel
theorem dX13_init_104 : decode cX13_init 104 = .ok (.lastore, 1) := by decide +kernel
theorem dX13_init_105 : decode cX13_init 105 = .ok (.dup, 1) := by decide +kernel
theorem dX13_init_106 : decode cX13_init 106 = .ok (.iconst 4, 1) := by decide +kernel
theorem dX13_init_107 : decode cX13_init 107 = .ok (.ldc2_w 41, 3) := by decide +kernel
theorem dX13_init_110 : decode cX13_init 110 = .ok (.lastore, 1) := by decide +kernel
theorem dX13_init_111 : decode cX13_init 111 = .ok (.dup, 1) := by decide +kernel
theorem dX13_init_112 : decode cX13_init 112 = .ok (.iconst 5, 1) := by decide +kernel
theorem dX13_init_113 : decode cX13_init 113 = .ok (.ldc2_w 43, 3) := by decide +kernel
theorem dX13_init_116 : decode cX13_init 116 = .ok (.lastore, 1) := by decide +kernel
theorem dX13_init_117 : decode cX13_init 117 = .ok (.dup, 1) := by decide +kernel
theorem dX13_init_118 : decode cX13_init 118 = .ok (.bipush 6, 2) := by decide +kernel
theorem dX13_init_120 : decode cX13_init 120 = .ok (.ldc2_w 45, 3) := by decide +kernel
theorem dX13_init_123 : decode cX13_init 123 = .ok (.lastore, 1) := by decide +kernel
theorem dX13_init_124 : decode cX13_init 124 = .ok (.dup, 1) := by decide +kernel
theorem dX13_init_125 : decode cX13_init 125 = .ok (.bipush 7, 2) := by decide +kernel
theorem dX13_init_127 : decode cX13_init 127 = .ok (.ldc2_w 47, 3) := by decide +kernel
theorem dX13_init_130 : decode cX13_init 130 = .ok (.lastore, 1) := by decide +kernel
theorem dX13_init_131 : decode cX13_init 131 = .ok (.dup, 1) := by decide +kernel
theorem dX13_init_132 : decode cX13_init 132 = .ok (.bipush 8, 2) := by decide +kernel
theorem dX13_init_134 : decode cX13_init 134 = .ok (.ldc2_w 49, 3) := by decide +kernel
theorem dX13_init_137 : decode cX13_init 137 = .ok (.lastore, 1) := by decide +kernel
theorem dX13_init_138 : decode cX13_init 138 = .ok (.dup, 1) := by decide +kernel
theorem dX13_init_139 : decode cX13_init 139 = .ok (.bipush 9, 2) := by decide +kernel
theorem dX13_init_141 : decode cX13_init 141 = .ok (.ldc2_w 51, 3) := by decide +kernel
theorem dX13_init_144 : decode cX13_init 144 = .ok (.lastore, 1) := by decide +kernel
theorem dX13_init_145 : decode cX13_init 145 = .ok (.dup, 1) := by decide +kernel
theorem dX13_init_146 : decode cX13_init 146 = .ok (.bipush 10, 2) := by decide +kernel
theorem dX13_init_148 : decode cX13_init 148 = .ok (.ldc2_w 53, 3) := by decide +kernel
theorem dX13_init_151 : decode cX13_init 151 = .ok (.lastore, 1) := by decide +kernel
theorem dX13_init_152 : decode cX13_init 152 = .ok (.putfield 55, 3) := by decide +kernel
theorem dX13_init_155 : decode cX13_init 155 = .ok (.aload_n 0, 1) := by decide +kernel
theorem dX13_init_156 : decode cX13_init 156 = .ok (.iconst 5, 1) := by decide +kernel
theorem dX13_init_157 : decode cX13_init 157 = .ok (.newarray .long, 2) := by decide +kernel
theorem dX13_init_159 : decode cX13_init 159 = .ok (.dup, 1) := by decide +kernel
theorem dX13_init_160 : decode cX13_init 160 = .ok (.iconst 0, 1) := by decide +kernel
theorem dX13_init_161 : decode cX13_init 161 = .ok (.ldc2_w 58, 3) := by decide +kernel
theorem dX13_init_164 : decode cX13_init 164 = .ok (.lastore, 1) := by decide +kernel
theorem dX13_init_165 : decode cX13_init 165 = .ok (.dup, 1) := by decide +kernel
theorem dX13_init_166 : decode cX13_init 166 = .ok (.iconst 1, 1) := by decide +kernel
theorem dX13_init_167 : decode cX13_init 167 = .ok (.ldc2_w 60, 3) := by decide +kernel
theorem dX13_init_170 : decode cX13_init 170 = .ok (.lastore, 1) := by decide +kernel
theorem dX13_init_171 : decode cX13_init 171 = .ok (.dup, 1) := by decide +kernel
theorem dX13_init_172 : decode cX13_init 172 = .ok (.iconst 2, 1) := by decide +kernel
theorem dX13_init_173 : decode cX13_init 173 = .ok (.ldc2_w 62, 3) := by decide +kernel
theorem dX13_init_176 : decode cX13_init 176 = .ok (.lastore, 1) := by decide +kernel
theorem dX13_init_177 : decode cX13_init 177 = .ok (.dup, 1) := by decide +kernel
theorem dX13_init_178 : decode cX13_init 178 = .ok (.iconst 3, 1) := by decide +kernel
theorem dX13_init_179 : decode cX13_init 179 = .ok (.ldc2_w 64, 3) := by decide +kernel
theorem dX13_init_182 : decode cX13_init 182 = .ok (.lastore, 1) := by decide +kernel
theorem dX13_init_183 : decode cX13_init 183 = .ok (.dup, 1) := by decide +kernel
theorem dX13_init_184 : decode cX13_init 184 = .ok (.iconst 4, 1) := by decide +kernel
theorem dX13_init_185 : decode cX13_init 185 = .ok (.ldc2_w 66, 3) := by decide +kernel
theorem dX13_init_188 : decode cX13_init 188 = .ok (.lastore, 1) := by decide +kernel
theorem dX13_init_189 : decode cX13_init 189 = .ok (.putfield 68, 3) := by decide +kernel
theorem dX13_init_192 : decode cX13_init 192 = .ok (.aload_n 0, 1) := by decide +kernel
theorem dX13_init_193 : decode cX13_init 193 = .ok (.iconst 5, 1) := by decide +kernel
theorem dX13_init_194 : decode cX13_init 194 = .ok (.newarray .int, 2) := by decide +kernel
theorem dX13_init_196 : decode cX13_init 196 = .ok (.dup, 1) := by decide +kernel
theorem dX13_init_197 : decode cX13_init 197 = .ok (.iconst 0, 1) := by decide +kernel
theorem dX13_init_198 : decode cX13_init 198 = .ok (.iconst 3, 1) := by decide +kernel
theorem dX13_init_199 : decode cX13_init 199 = .ok (.iastore, 1) := by decide +kernel
theorem dX13_init_200 : decode cX13_init 200 = .ok (.dup, 1) := by decide +kernel
theorem dX13_init_201 : decode cX13_init 201 = .ok (.iconst 1, 1) := by decide +kernel
theorem dX13_init_202 : decode cX13_init 202 = .ok (.iconst 3, 1) := by decide +kernel
theorem dX13_init_203 : decode cX13_init 203 = .ok (.iastore, 1) := by decide +kernel
theorem dX13_init_204 : decode cX13_init 204 = .ok (.dup, 1) := by decide +kernel
theorem dX13_init_205 : decode cX13_init 205 = .ok (.iconst 2, 1) := by decide +kernel
theorem dX13_init_206 : decode cX13_init 206 = .ok (.iconst 4, 1) := by decide +kernel
theorem dX13_init_207 : decode cX13_init 207 = .ok (.iastore, 1) := by decide +kernel
theorem dX13_init_208 : decode cX13_init 208 = .ok (.dup, 1) := by decide +kernel
theorem dX13_init_209 : decode cX13_init 209 = .ok (.iconst 3, 1) := by decide +kernel
theorem dX13_init_210 : decode cX13_init 210 = .ok (.iconst 5, 1) := by decide +kernel
theorem dX13_init_211 : decode cX13_init 211 = .ok (.iastore, 1) := by decide +kernel
theorem dX13_init_212 : decode cX13_init 212 = .ok (.dup, 1) := by decide +kernel
theorem dX13_init_213 : decode cX13_init 213 = .ok (.iconst 4, 1) := by decide +kernel
theorem dX13_init_214 : decode cX13_init 214 = .ok (.iconst 5, 1) := by decide +kernel
theorem dX13_init_215 : decode cX13_init 215 = .ok (.iastore, 1) := by decide +kernel
theorem dX13_init_216 : decode cX13_init 216 = .ok (.putfield 71, 3) := by decide +kernel
theorem dX13_init_219 : decode cX13_init 219 = .ok (.aload_n 0, 1) := by decide +kernel
theorem dX13_init_220 : decode cX13_init 220 = .ok (.iconst 5, 1) := by decide +kernel
theorem dX13_init_221 : decode cX13_init 221 = .ok (.newarray .int, 2) := by decide +kernel
theorem dX13_init_223 : decode cX13_init 223 = .ok (.dup, 1) := by decide +kernel
theorem dX13_init_224 : decode cX13_init 224 = .ok (.iconst 0, 1) := by decide +kernel
theorem dX13_init_225 : decode cX13_init 225 = .ok (.bipush 60, 2) := by decide +kernel
theorem dX13_init_227 : decode cX13_init 227 = .ok (.iastore, 1) := by decide +kernel
theorem dX13_init_228 : decode cX13_init 228 = .ok (.dup, 1) := by decide +kernel
theorem dX13_init_229 : decode cX13_init 229 = .ok (.iconst 1, 1) := by decide +kernel
theorem dX13_init_230 : decode cX13_init 230 = .ok (.bipush 62, 2) := by decide +kernel
theorem dX13_init_232 : decode cX13_init 232 = .ok (.iastore, 1) := by decide +kernel
theorem dX13_init_233 : decode cX13_init 233 = .ok (.dup, 1) := by decide +kernel
theorem dX13_init_234 : decode cX13_init 234 = .ok (.iconst 2, 1) := by decide +kernel
theorem dX13_init_235 : decode cX13_init 235 = .ok (.bipush 38, 2) := by decide +kernel
theorem dX13_init_237 : decode cX13_init 237 = .ok (.iastore, 1) := by decide +kernel
theorem dX13_init_238 : decode cX13_init 238 = .ok (.dup, 1) := by decide +kernel
theorem dX13_init_239 : decode cX13_init 239 = .ok (.iconst 3, 1) := by decide +kernel
theorem dX13_init_240 : decode cX13_init 240 = .ok (.bipush 34, 2) := by decide +kernel
theorem dX13_init_242 : decode cX13_init 242 = .ok (.iastore, 1) := by decide +kernel
theorem dX13_init_243 : decode cX13_init 243 = .ok (.dup, 1) := by decide +kernel
theorem dX13_init_244 : decode cX13_init 244 = .ok (.iconst 4, 1) := by decide +kernel
theorem dX13_init_245 : decode cX13_init 245 = .ok (.bipush 39, 2) := by decide +kernel
theorem dX13_init_247 : decode cX13_init 247 = .ok (.iastore, 1) := by decide +kernel
theorem dX13_init_248 : decode cX13_init 248 = .ok (.putfield 75, 3) := by decide +kernel
theorem dX13_init_251 : decode cX13_init 251 = .ok (.aload_n 0, 1) := by decide +kernel
theorem dX13_init_252 : decode cX13_init 252 = .ok (.bipush 8, 2) := by decide +kernel
theorem dX13_init_254 : decode cX13_init 254 = .ok (.newarray .int, 2) := by decide +kernel
theorem dX13_init_256 : decode cX13_init 256 = .ok (.putfield 78, 3) := by decide +kernel
theorem dX13_init_259 : decode cX13_init 259 = .ok (.aload_n 0, 1) := by decide +kernel
theorem dX13_init_260 : decode cX13_init 260 = .ok (.bipush 8, 2) := by decide +kernel
theorem dX13_init_262 : decode cX13_init 262 = .ok (.newarray .int, 2) := by decide +kernel
theorem dX13_init_264 : decode cX13_init 264 = .ok (.putfield 81, 3) := by decide +kernel
theorem dX13_init_267 : decode cX13_init 267 = .ok (.aload_n 0, 1) := by decide +kernel
theorem dX13_init_268 : decode cX13_init 268 = .ok (.bipush 32, 2) := by decide +kernel
theorem dX13_init_270 : decode cX13_init 270 = .ok (.newarray .int, 2) := by decide +kernel
theorem dX13_init_272 : decode cX13_init 272 = .ok (.putfield 84, 3) := by decide +kernel
theorem dX13_init_275 : decode cX13_init 275 = .ok (.aload_n 0, 1) := by decide +kernel
theorem dX13_init_276 : decode cX13_init 276 = .ok (.bipush 96, 2) := by decide +kernel
theorem dX13_init_278 : decode cX13_init 278 = .ok (.newarray .int, 2) := by decide +kernel
theorem dX13_init_280 : decode cX13_init 280 = .ok (.putfield 87, 3) := by decide +kernel
theorem dX13_init_283 : decode cX13_init 283 = .ok (.aload_n 0, 1) := by decide +kernel
theorem dX13_init_284 : decode cX13_init 284 = .ok (.bipush 8, 2) := by decide +kernel
theorem dX13_init_286 : decode cX13_init 286 = .ok (.newarray .int, 2) := by decide +kernel
theorem dX13_init_288 : decode cX13_init 288 = .ok (.putfield 90, 3) := by decide +kernel
theorem dX13_init_291 : decode cX13_init 291 = .ok (.aload_n 0, 1) := by decide +kernel
theorem dX13_init_292 : decode cX13_init 292 = .ok (.bipush 64, 2) := by decide +kernel
theorem dX13_init_294 : decode cX13_init 294 = .ok (.newarray .int, 2) := by decide +kernel
theorem dX13_init_296 : decode cX13_init 296 = .ok (.putfield 93, 3) := by decide +kernel
theorem dX13_init_299 : decode cX13_init 299 = .ok (.aload_n 0, 1) := by decide +kernel
theorem dX13_init_300 : decode cX13_init 300 = .ok (.bipush 64, 2) := by decide +kernel
theorem dX13_init_302 : decode cX13_init 302 = .ok (.newarray .int, 2) := by decide +kernel
theorem dX13_init_304 : decode cX13_init 304 = .ok (.putfield 96, 3) := by decide +kernel
theorem dX13_init_307 : decode cX13_init 307 = .ok (.aload_n 0, 1) := by decide +kernel
theorem dX13_init_308 : decode cX13_init 308 = .ok (.bipush 8, 2) := by decide +kernel
theorem dX13_init_310 : decode cX13_init 310 = .ok (.newarray .int, 2) := by decide +kernel
theorem dX13_init_312 : decode cX13_init 312 = .ok (.putfield 99, 3) := by decide +kernel
theorem dX13_init_315 : decode cX13_init 315 = .ok (.aload_n 0, 1) := by decide +kernel
theorem dX13_init_316 : decode cX13_init 316 = .ok (.bipush 32, 2) := by decide +kernel
theorem dX13_init_318 : decode cX13_init 318 = .ok (.newarray .int, 2) := by decide +kernel
theorem dX13_init_320 : decode cX13_init 320 = .ok (.putfield 102, 3) := by decide +kernel
