theorem dL_sinks_0 : decode cL_sinks 0 = .ok (.new 8, 3) := by decide +kernel
theorem dL_sinks_3 : decode cL_sinks 3 = .ok (.dup, 1) := by decide +kernel
theorem dL_sinks_4 : decode cL_sinks 4 = .ok (.invokespecial 167, 3) := by decide +kernel
theorem dL_sinks_7 : decode cL_sinks 7 = .ok (.astore_n 0, 1) := by decide +kernel
theorem dL_sinks_8 : decode cL_sinks 8 = .ok (.aload_n 0, 1) := by decide +kernel
theorem dL_sinks_9 : decode cL_sinks 9 = .ok (.bipush 75, 2) := by decide +kernel
theorem dL_sinks_11 : decode cL_sinks 11 = .ok (.iconst 1, 1) := by decide +kernel
theorem dL_sinks_12 : decode cL_sinks 12 = .ok (.newarray .int, 2) := by decide +kernel
theorem dL_sinks_14 : decode cL_sinks 14 = .ok (.dup, 1) := by decide +kernel
theorem dL_sinks_15 : decode cL_sinks 15 = .ok (.iconst 0, 1) := by decide +kernel
theorem dL_sinks_16 : decode cL_sinks 16 = .ok (.bipush 102, 2) := by decide +kernel
theorem dL_sinks_18 : decode cL_sinks 18 = .ok (.iastore, 1) := by decide +kernel
theorem dL_sinks_19 : decode cL_sinks 19 = .ok (.invokestatic 185, 3) := by decide +kernel
theorem dL_sinks_22 : decode cL_sinks 22 = .ok (.lconst 0, 1) := by decide +kernel
theorem dL_sinks_23 : decode cL_sinks 23 = .ok (.lcmp, 1) := by decide +kernel
theorem dL_sinks_24 : decode cL_sinks 24 = .ok (.ifCond .ne 294, 3) := by decide +kernel
theorem dL_sinks_27 : decode cL_sinks 27 = .ok (.aload_n 0, 1) := by decide +kernel
theorem dL_sinks_28 : decode cL_sinks 28 = .ok (.bipush 76, 2) := by decide +kernel
theorem dL_sinks_30 : decode cL_sinks 30 = .ok (.iconst 3, 1) := by decide +kernel
theorem dL_sinks_31 : decode cL_sinks 31 = .ok (.newarray .int, 2) := by decide +kernel
theorem dL_sinks_33 : decode cL_sinks 33 = .ok (.dup, 1) := by decide +kernel
theorem dL_sinks_34 : decode cL_sinks 34 = .ok (.iconst 0, 1) := by decide +kernel
theorem dL_sinks_35 : decode cL_sinks 35 = .ok (.iconst 0, 1) := by decide +kernel
theorem dL_sinks_36 : decode cL_sinks 36 = .ok (.iastore, 1) := by decide +kernel
theorem dL_sinks_37 : decode cL_sinks 37 = .ok (.dup, 1) := by decide +kernel
theorem dL_sinks_38 : decode cL_sinks 38 = .ok (.iconst 1, 1) := by decide +kernel
theorem dL_sinks_39 : decode cL_sinks 39 = .ok (.bipush 115, 2) := by decide +kernel
theorem dL_sinks_41 : decode cL_sinks 41 = .ok (.iastore, 1) := by decide +kernel
theorem dL_sinks_42 : decode cL_sinks 42 = .ok (.dup, 1) := by decide +kernel
theorem dL_sinks_43 : decode cL_sinks 43 = .ok (.iconst 2, 1) := by decide +kernel
theorem dL_sinks_44 : decode cL_sinks 44 = .ok (.bipush 100, 2) := by decide +kernel
theorem dL_sinks_46 : decode cL_sinks 46 = .ok (.iastore, 1) := by decide +kernel
theorem dL_sinks_47 : decode cL_sinks 47 = .ok (.invokestatic 185, 3) := by decide +kernel
theorem dL_sinks_50 : decode cL_sinks 50 = .ok (.lconst 1, 1) := by decide +kernel
theorem dL_sinks_51 : decode cL_sinks 51 = .ok (.lcmp, 1) := by decide +kernel
theorem dL_sinks_52 : decode cL_sinks 52 = .ok (.ifCond .ne 266, 3) := by decide +kernel
theorem dL_sinks_55 : decode cL_sinks 55 = .ok (.aload_n 0, 1) := by decide +kernel
theorem dL_sinks_56 : decode cL_sinks 56 = .ok (.bipush 76, 2) := by decide +kernel
theorem dL_sinks_58 : decode cL_sinks 58 = .ok (.iconst 3, 1) := by decide +kernel
theorem dL_sinks_59 : decode cL_sinks 59 = .ok (.newarray .int, 2) := by decide +kernel
theorem dL_sinks_61 : decode cL_sinks 61 = .ok (.dup, 1) := by decide +kernel
theorem dL_sinks_62 : decode cL_sinks 62 = .ok (.iconst 0, 1) := by decide +kernel
theorem dL_sinks_63 : decode cL_sinks 63 = .ok (.iconst 0, 1) := by decide +kernel
theorem dL_sinks_64 : decode cL_sinks 64 = .ok (.iastore, 1) := by decide +kernel
theorem dL_sinks_65 : decode cL_sinks 65 = .ok (.dup, 1) := by decide +kernel
theorem dL_sinks_66 : decode cL_sinks 66 = .ok (.iconst 1, 1) := by decide +kernel
theorem dL_sinks_67 : decode cL_sinks 67 = .ok (.bipush 108, 2) := by decide +kernel
theorem dL_sinks_69 : decode cL_sinks 69 = .ok (.iastore, 1) := by decide +kernel
theorem dL_sinks_70 : decode cL_sinks 70 = .ok (.dup, 1) := by decide +kernel
theorem dL_sinks_71 : decode cL_sinks 71 = .ok (.iconst 2, 1) := by decide +kernel
theorem dL_sinks_72 : decode cL_sinks 72 = .ok (.bipush 100, 2) := by decide +kernel
theorem dL_sinks_74 : decode cL_sinks 74 = .ok (.iastore, 1) := by decide +kernel
theorem dL_sinks_75 : decode cL_sinks 75 = .ok (.invokestatic 185, 3) := by decide +kernel
theorem dL_sinks_78 : decode cL_sinks 78 = .ok (.ldc2_w 225, 3) := by decide +kernel
theorem dL_sinks_81 : decode cL_sinks 81 = .ok (.lcmp, 1) := by decide +kernel
theorem dL_sinks_82 : decode cL_sinks 82 = .ok (.ifCond .ne 236, 3) := by decide +kernel
theorem dL_sinks_85 : decode cL_sinks 85 = .ok (.aload_n 0, 1) := by decide +kernel
theorem dL_sinks_86 : decode cL_sinks 86 = .ok (.bipush 67, 2) := by decide +kernel
theorem dL_sinks_88 : decode cL_sinks 88 = .ok (.iconst 2, 1) := by decide +kernel
theorem dL_sinks_89 : decode cL_sinks 89 = .ok (.newarray .int, 2) := by decide +kernel
theorem dL_sinks_91 : decode cL_sinks 91 = .ok (.dup, 1) := by decide +kernel
theorem dL_sinks_92 : decode cL_sinks 92 = .ok (.iconst 0, 1) := by decide +kernel
theorem dL_sinks_93 : decode cL_sinks 93 = .ok (.iconst 0, 1) := by decide +kernel
theorem dL_sinks_94 : decode cL_sinks 94 = .ok (.iastore, 1) := by decide +kernel
theorem dL_sinks_95 : decode cL_sinks 95 = .ok (.dup, 1) := by decide +kernel
theorem dL_sinks_96 : decode cL_sinks 96 = .ok (.iconst 1, 1) := by decide +kernel
theorem dL_sinks_97 : decode cL_sinks 97 = .ok (.iconst 0, 1) := by decide +kernel
theorem dL_sinks_98 : decode cL_sinks 98 = .ok (.iastore, 1) := by decide +kernel
theorem dL_sinks_99 : decode cL_sinks 99 = .ok (.invokestatic 185, 3) := by decide +kernel
theorem dL_sinks_102 : decode cL_sinks 102 = .ok (.ldc2_w 227, 3) := by decide +kernel
theorem dL_sinks_105 : decode cL_sinks 105 = .ok (.lcmp, 1) := by decide +kernel
theorem dL_sinks_106 : decode cL_sinks 106 = .ok (.ifCond .ne 212, 3) := by decide +kernel
theorem dL_sinks_109 : decode cL_sinks 109 = .ok (.aload_n 0, 1) := by decide +kernel
theorem dL_sinks_110 : decode cL_sinks 110 = .ok (.bipush 67, 2) := by decide +kernel
theorem dL_sinks_112 : decode cL_sinks 112 = .ok (.iconst 2, 1) := by decide +kernel
theorem dL_sinks_113 : decode cL_sinks 113 = .ok (.newarray .int, 2) := by decide +kernel
theorem dL_sinks_115 : decode cL_sinks 115 = .ok (.dup, 1) := by decide +kernel
theorem dL_sinks_116 : decode cL_sinks 116 = .ok (.iconst 0, 1) := by decide +kernel
theorem dL_sinks_117 : decode cL_sinks 117 = .ok (.iconst 0, 1) := by decide +kernel
theorem dL_sinks_118 : decode cL_sinks 118 = .ok (.iastore, 1) := by decide +kernel
theorem dL_sinks_119 : decode cL_sinks 119 = .ok (.dup, 1) := by decide +kernel
theorem dL_sinks_120 : decode cL_sinks 120 = .ok (.iconst 1, 1) := by decide +kernel
theorem dL_sinks_121 : decode cL_sinks 121 = .ok (.iconst 1, 1) := by decide +kernel
theorem dL_sinks_122 : decode cL_sinks 122 = .ok (.iastore, 1) := by decide +kernel
theorem dL_sinks_123 : decode cL_sinks 123 = .ok (.invokestatic 185, 3) := by decide +kernel
theorem dL_sinks_126 : decode cL_sinks 126 = .ok (.ldc2_w 229, 3) := by decide +kernel
theorem dL_sinks_129 : decode cL_sinks 129 = .ok (.lcmp, 1) := by decide +kernel
theorem dL_sinks_130 : decode cL_sinks 130 = .ok (.ifCond .ne 188, 3) := by decide +kernel
theorem dL_sinks_133 : decode cL_sinks 133 = .ok (.aload_n 0, 1) := by decide +kernel
theorem dL_sinks_134 : decode cL_sinks 134 = .ok (.bipush 87, 2) := by decide +kernel
theorem dL_sinks_136 : decode cL_sinks 136 = .ok (.iconst 2, 1) := by decide +kernel
theorem dL_sinks_137 : decode cL_sinks 137 = .ok (.newarray .int, 2) := by decide +kernel
theorem dL_sinks_139 : decode cL_sinks 139 = .ok (.dup, 1) := by decide +kernel
theorem dL_sinks_140 : decode cL_sinks 140 = .ok (.iconst 0, 1) := by decide +kernel
theorem dL_sinks_141 : decode cL_sinks 141 = .ok (.iconst 0, 1) := by decide +kernel
theorem dL_sinks_142 : decode cL_sinks 142 = .ok (.iastore, 1) := by decide +kernel
theorem dL_sinks_143 : decode cL_sinks 143 = .ok (.dup, 1) := by decide +kernel
theorem dL_sinks_144 : decode cL_sinks 144 = .ok (.iconst 1, 1) := by decide +kernel
theorem dL_sinks_145 : decode cL_sinks 145 = .ok (.iconst 0, 1) := by decide +kernel
theorem dL_sinks_146 : decode cL_sinks 146 = .ok (.iastore, 1) := by decide +kernel
theorem dL_sinks_147 : decode cL_sinks 147 = .ok (.invokestatic 185, 3) := by decide +kernel
theorem dL_sinks_150 : decode cL_sinks 150 = .ok (.ldc2_w 231, 3) := by decide +kernel
theorem dL_sinks_153 : decode cL_sinks 153 = .ok (.lcmp, 1) := by decide +kernel
theorem dL_sinks_154 : decode cL_sinks 154 = .ok (.ifCond .ne 164, 3) := by decide +kernel
theorem dL_sinks_157 : decode cL_sinks 157 = .ok (.aload_n 0, 1) := by decide +kernel
theorem dL_sinks_158 : decode cL_sinks 158 = .ok (.bipush 87, 2) := by decide +kernel
theorem dL_sinks_160 : decode cL_sinks 160 = .ok (.iconst 2, 1) := by decide +kernel
theorem dL_sinks_161 : decode cL_sinks 161 = .ok (.newarray .int, 2) := by decide +kernel
theorem dL_sinks_163 : decode cL_sinks 163 = .ok (.dup, 1) := by decide +kernel
theorem dL_sinks_164 : decode cL_sinks 164 = .ok (.iconst 0, 1) := by decide +kernel
theorem dL_sinks_165 : decode cL_sinks 165 = .ok (.iconst 0, 1) := by decide +kernel
theorem dL_sinks_166 : decode cL_sinks 166 = .ok (.iastore, 1) := by decide +kernel
theorem dL_sinks_167 : decode cL_sinks 167 = .ok (.dup, 1) := by decide +kernel
theorem dL_sinks_168 : decode cL_sinks 168 = .ok (.iconst 1, 1) := by decide +kernel
theorem dL_sinks_169 : decode cL_sinks 169 = .ok (.iconst 1, 1) := by decide +kernel
theorem dL_sinks_170 : decode cL_sinks 170 = .ok (.iastore, 1) := by decide +kernel
theorem dL_sinks_171 : decode cL_sinks 171 = .ok (.invokestatic 185, 3) := by decide +kernel
theorem dL_sinks_174 : decode cL_sinks 174 = .ok (.ldc2_w 233, 3) := by decide +kernel
theorem dL_sinks_177 : decode cL_sinks 177 = .ok (.lcmp, 1) := by decide +kernel
theorem dL_sinks_178 : decode cL_sinks 178 = .ok (.ifCond .ne 140, 3) := by decide +kernel
theorem dL_sinks_181 : decode cL_sinks 181 = .ok (.aload_n 0, 1) := by decide +kernel
theorem dL_sinks_182 : decode cL_sinks 182 = .ok (.bipush 119, 2) := by decide +kernel
theorem dL_sinks_184 : decode cL_sinks 184 = .ok (.iconst 3, 1) := by decide +kernel
theorem dL_sinks_185 : decode cL_sinks 185 = .ok (.newarray .int, 2) := by decide +kernel
theorem dL_sinks_187 : decode cL_sinks 187 = .ok (.dup, 1) := by decide +kernel
theorem dL_sinks_188 : decode cL_sinks 188 = .ok (.iconst 0, 1) := by decide +kernel
theorem dL_sinks_189 : decode cL_sinks 189 = .ok (.iconst 0, 1) := by decide +kernel
theorem dL_sinks_190 : decode cL_sinks 190 = .ok (.iastore, 1) := by decide +kernel
theorem dL_sinks_191 : decode cL_sinks 191 = .ok (.dup, 1) := by decide +kernel
theorem dL_sinks_192 : decode cL_sinks 192 = .ok (.iconst 1, 1) := by decide +kernel
theorem dL_sinks_193 : decode cL_sinks 193 = .ok (.iconst 0, 1) := by decide +kernel
theorem dL_sinks_194 : decode cL_sinks 194 = .ok (.iastore, 1) := by decide +kernel
theorem dL_sinks_195 : decode cL_sinks 195 = .ok (.dup, 1) := by decide +kernel
theorem dL_sinks_196 : decode cL_sinks 196 = .ok (.iconst 2, 1) := by decide +kernel
theorem dL_sinks_197 : decode cL_sinks 197 = .ok (.sipush 351, 3) := by decide +kernel
theorem dL_sinks_200 : decode cL_sinks 200 = .ok (.iastore, 1) := by decide +kernel
theorem dL_sinks_201 : decode cL_sinks 201 = .ok (.invokestatic 185, 3) := by decide +kernel
theorem dL_sinks_204 : decode cL_sinks 204 = .ok (.ldc2_w 79, 3) := by decide +kernel
theorem dL_sinks_207 : decode cL_sinks 207 = .ok (.lcmp, 1) := by decide +kernel
theorem dL_sinks_208 : decode cL_sinks 208 = .ok (.ifCond .ne 110, 3) := by decide +kernel
theorem dL_sinks_211 : decode cL_sinks 211 = .ok (.aload_n 0, 1) := by decide +kernel
theorem dL_sinks_212 : decode cL_sinks 212 = .ok (.bipush 119, 2) := by decide +kernel
theorem dL_sinks_214 : decode cL_sinks 214 = .ok (.iconst 3, 1) := by decide +kernel
theorem dL_sinks_215 : decode cL_sinks 215 = .ok (.newarray .int, 2) := by decide +kernel
theorem dL_sinks_217 : decode cL_sinks 217 = .ok (.dup, 1) := by decide +kernel
theorem dL_sinks_218 : decode cL_sinks 218 = .ok (.iconst 0, 1) := by decide +kernel
theorem dL_sinks_219 : decode cL_sinks 219 = .ok (.iconst 0, 1) := by decide +kernel
theorem dL_sinks_220 : decode cL_sinks 220 = .ok (.iastore, 1) := by decide +kernel
theorem dL_sinks_221 : decode cL_sinks 221 = .ok (.dup, 1) := by decide +kernel
theorem dL_sinks_222 : decode cL_sinks 222 = .ok (.iconst 1, 1) := by decide +kernel
theorem dL_sinks_223 : decode cL_sinks 223 = .ok (.iconst 2, 1) := by decide +kernel
theorem dL_sinks_224 : decode cL_sinks 224 = .ok (.iastore, 1) := by decide +kernel
theorem dL_sinks_225 : decode cL_sinks 225 = .ok (.dup, 1) := by decide +kernel
theorem dL_sinks_226 : decode cL_sinks 226 = .ok (.iconst 2, 1) := by decide +kernel
theorem dL_sinks_227 : decode cL_sinks 227 = .ok (.iconst 0, 1) := by decide +kernel
theorem dL_sinks_228 : decode cL_sinks 228 = .ok (.iastore, 1) := by decide +kernel
theorem dL_sinks_229 : decode cL_sinks 229 = .ok (.invokestatic 185, 3) := by decide +kernel
theorem dL_sinks_232 : decode cL_sinks 232 = .ok (.ldc2_w 75, 3) := by decide +kernel
theorem dL_sinks_235 : decode cL_sinks 235 = .ok (.lcmp, 1) := by decide +kernel
theorem dL_sinks_236 : decode cL_sinks 236 = .ok (.ifCond .ne 82, 3) := by decide +kernel
theorem dL_sinks_239 : decode cL_sinks 239 = .ok (.aload_n 0, 1) := by decide +kernel
theorem dL_sinks_240 : decode cL_sinks 240 = .ok (.bipush 100, 2) := by decide +kernel
theorem dL_sinks_242 : decode cL_sinks 242 = .ok (.iconst 3, 1) := by decide +kernel
theorem dL_sinks_243 : decode cL_sinks 243 = .ok (.newarray .int, 2) := by decide +kernel
theorem dL_sinks_245 : decode cL_sinks 245 = .ok (.dup, 1) := by decide +kernel
theorem dL_sinks_246 : decode cL_sinks 246 = .ok (.iconst 0, 1) := by decide +kernel
theorem dL_sinks_247 : decode cL_sinks 247 = .ok (.iconst 0, 1) := by decide +kernel
theorem dL_sinks_248 : decode cL_sinks 248 = .ok (.iastore, 1) := by decide +kernel
theorem dL_sinks_249 : decode cL_sinks 249 = .ok (.dup, 1) := by decide +kernel
theorem dL_sinks_250 : decode cL_sinks 250 = .ok (.iconst 1, 1) := by decide +kernel
theorem dL_sinks_251 : decode cL_sinks 251 = .ok (.bipush 115, 2) := by decide +kernel
theorem dL_sinks_253 : decode cL_sinks 253 = .ok (.iastore, 1) := by decide +kernel
theorem dL_sinks_254 : decode cL_sinks 254 = .ok (.dup, 1) := by decide +kernel
theorem dL_sinks_255 : decode cL_sinks 255 = .ok (.iconst 2, 1) := by decide +kernel
theorem dL_sinks_256 : decode cL_sinks 256 = .ok (.sipush 3000, 3) := by decide +kernel
theorem dL_sinks_259 : decode cL_sinks 259 = .ok (.iastore, 1) := by decide +kernel
theorem dL_sinks_260 : decode cL_sinks 260 = .ok (.invokestatic 185, 3) := by decide +kernel
theorem dL_sinks_263 : decode cL_sinks 263 = .ok (.ldc2_w 235, 3) := by decide +kernel
theorem dL_sinks_266 : decode cL_sinks 266 = .ok (.lcmp, 1) := by decide +kernel
theorem dL_sinks_267 : decode cL_sinks 267 = .ok (.ifCond .ne 51, 3) := by decide +kernel
theorem dL_sinks_270 : decode cL_sinks 270 = .ok (.aload_n 0, 1) := by decide +kernel
theorem dL_sinks_271 : decode cL_sinks 271 = .ok (.bipush 84, 2) := by decide +kernel
theorem dL_sinks_273 : decode cL_sinks 273 = .ok (.iconst 3, 1) := by decide +kernel
theorem dL_sinks_274 : decode cL_sinks 274 = .ok (.newarray .int, 2) := by decide +kernel
theorem dL_sinks_276 : decode cL_sinks 276 = .ok (.dup, 1) := by decide +kernel
theorem dL_sinks_277 : decode cL_sinks 277 = .ok (.iconst 0, 1) := by decide +kernel
theorem dL_sinks_278 : decode cL_sinks 278 = .ok (.iconst 0, 1) := by decide +kernel
theorem dL_sinks_279 : decode cL_sinks 279 = .ok (.iastore, 1) := by decide +kernel
theorem dL_sinks_280 : decode cL_sinks 280 = .ok (.dup, 1) := by decide +kernel
theorem dL_sinks_281 : decode cL_sinks 281 = .ok (.iconst 1, 1) := by decide +kernel
theorem dL_sinks_282 : decode cL_sinks 282 = .ok (.sipush 300, 3) := by decide +kernel
theorem dL_sinks_285 : decode cL_sinks 285 = .ok (.iastore, 1) := by decide +kernel
theorem dL_sinks_286 : decode cL_sinks 286 = .ok (.dup, 1) := by decide +kernel
theorem dL_sinks_287 : decode cL_sinks 287 = .ok (.iconst 2, 1) := by decide +kernel
theorem dL_sinks_288 : decode cL_sinks 288 = .ok (.iconst 0, 1) := by decide +kernel
theorem dL_sinks_289 : decode cL_sinks 289 = .ok (.iastore, 1) := by decide +kernel
theorem dL_sinks_290 : decode cL_sinks 290 = .ok (.invokestatic 185, 3) := by decide +kernel
theorem dL_sinks_293 : decode cL_sinks 293 = .ok (.ldc2_w 188, 3) := by decide +kernel
theorem dL_sinks_296 : decode cL_sinks 296 = .ok (.lcmp, 1) := by decide +kernel
theorem dL_sinks_297 : decode cL_sinks 297 = .ok (.ifCond .ne 21, 3) := by decide +kernel
theorem dL_sinks_300 : decode cL_sinks 300 = .ok (.aload_n 0, 1) := by decide +kernel
theorem dL_sinks_301 : decode cL_sinks 301 = .ok (.bipush 72, 2) := by decide +kernel
theorem dL_sinks_303 : decode cL_sinks 303 = .ok (.iconst 1, 1) := by decide +kernel
theorem dL_sinks_304 : decode cL_sinks 304 = .ok (.newarray .int, 2) := by decide +kernel
theorem dL_sinks_306 : decode cL_sinks 306 = .ok (.dup, 1) := by decide +kernel
theorem dL_sinks_307 : decode cL_sinks 307 = .ok (.iconst 0, 1) := by decide +kernel
theorem dL_sinks_308 : decode cL_sinks 308 = .ok (.iconst 1, 1) := by decide +kernel
theorem dL_sinks_309 : decode cL_sinks 309 = .ok (.iastore, 1) := by decide +kernel
theorem dL_sinks_310 : decode cL_sinks 310 = .ok (.invokestatic 185, 3) := by decide +kernel
theorem dL_sinks_313 : decode cL_sinks 313 = .ok (.lconst 1, 1) := by decide +kernel
theorem dL_sinks_314 : decode cL_sinks 314 = .ok (.lcmp, 1) := by decide +kernel
theorem dL_sinks_315 : decode cL_sinks 315 = .ok (.ifCond .eq 5, 3) := by decide +kernel
theorem dL_sinks_318 : decode cL_sinks 318 = .ok (.iconst 0, 1) := by decide +kernel
theorem dL_sinks_319 : decode cL_sinks 319 = .ok (.ireturn, 1) := by decide +kernel
theorem dL_sinks_320 : decode cL_sinks 320 = .ok (.aload_n 0, 1) := by decide +kernel
theorem dL_sinks_321 : decode cL_sinks 321 = .ok (.bipush 116, 2) := by decide +kernel
theorem dL_sinks_323 : decode cL_sinks 323 = .ok (.iconst 1, 1) := by decide +kernel
theorem dL_sinks_324 : decode cL_sinks 324 = .ok (.newarray .int, 2) := by decide +kernel
theorem dL_sinks_326 : decode cL_sinks 326 = .ok (.dup, 1) := by decide +kernel
theorem dL_sinks_327 : decode cL_sinks 327 = .ok (.iconst 0, 1) := by decide +kernel
theorem dL_sinks_328 : decode cL_sinks 328 = .ok (.iconst 0, 1) := by decide +kernel
theorem dL_sinks_329 : decode cL_sinks 329 = .ok (.iastore, 1) := by decide +kernel
theorem dL_sinks_330 : decode cL_sinks 330 = .ok (.invokestatic 185, 3) := by decide +kernel
theorem dL_sinks_333 : decode cL_sinks 333 = .ok (.ldc2_w 237, 3) := by decide +kernel
theorem dL_sinks_336 : decode cL_sinks 336 = .ok (.lcmp, 1) := by decide +kernel
theorem dL_sinks_337 : decode cL_sinks 337 = .ok (.ifCond .ne 215, 3) := by decide +kernel
theorem dL_sinks_340 : decode cL_sinks 340 = .ok (.aload_n 0, 1) := by decide +kernel
theorem dL_sinks_341 : decode cL_sinks 341 = .ok (.bipush 102, 2) := by decide +kernel
theorem dL_sinks_343 : decode cL_sinks 343 = .ok (.iconst 1, 1) := by decide +kernel
theorem dL_sinks_344 : decode cL_sinks 344 = .ok (.newarray .int, 2) := by decide +kernel
theorem dL_sinks_346 : decode cL_sinks 346 = .ok (.dup, 1) := by decide +kernel
theorem dL_sinks_347 : decode cL_sinks 347 = .ok (.iconst 0, 1) := by decide +kernel
theorem dL_sinks_348 : decode cL_sinks 348 = .ok (.iconst 0, 1) := by decide +kernel
theorem dL_sinks_349 : decode cL_sinks 349 = .ok (.iastore, 1) := by decide +kernel
theorem dL_sinks_350 : decode cL_sinks 350 = .ok (.invokestatic 185, 3) := by decide +kernel
theorem dL_sinks_353 : decode cL_sinks 353 = .ok (.ldc2_w 237, 3) := by decide +kernel
theorem dL_sinks_356 : decode cL_sinks 356 = .ok (.lcmp, 1) := by decide +kernel
theorem dL_sinks_357 : decode cL_sinks 357 = .ok (.ifCond .ne 195, 3) := by decide +kernel
theorem dL_sinks_360 : decode cL_sinks 360 = .ok (.aload_n 0, 1) := by decide +kernel
theorem dL_sinks_361 : decode cL_sinks 361 = .ok (.bipush 87, 2) := by decide +kernel
theorem dL_sinks_363 : decode cL_sinks 363 = .ok (.iconst 2, 1) := by decide +kernel
theorem dL_sinks_364 : decode cL_sinks 364 = .ok (.newarray .int, 2) := by decide +kernel
theorem dL_sinks_366 : decode cL_sinks 366 = .ok (.dup, 1) := by decide +kernel
theorem dL_sinks_367 : decode cL_sinks 367 = .ok (.iconst 0, 1) := by decide +kernel
theorem dL_sinks_368 : decode cL_sinks 368 = .ok (.iconst 0, 1) := by decide +kernel
theorem dL_sinks_369 : decode cL_sinks 369 = .ok (.iastore, 1) := by decide +kernel
theorem dL_sinks_370 : decode cL_sinks 370 = .ok (.dup, 1) := by decide +kernel
theorem dL_sinks_371 : decode cL_sinks 371 = .ok (.iconst 1, 1) := by decide +kernel
theorem dL_sinks_372 : decode cL_sinks 372 = .ok (.iconst 0, 1) := by decide +kernel
theorem dL_sinks_373 : decode cL_sinks 373 = .ok (.iastore, 1) := by decide +kernel
theorem dL_sinks_374 : decode cL_sinks 374 = .ok (.invokestatic 185, 3) := by decide +kernel
theorem dL_sinks_377 : decode cL_sinks 377 = .ok (.ldc2_w 239, 3) := by decide +kernel
theorem dL_sinks_380 : decode cL_sinks 380 = .ok (.lcmp, 1) := by decide +kernel
theorem dL_sinks_381 : decode cL_sinks 381 = .ok (.ifCond .ne 171, 3) := by decide +kernel
theorem dL_sinks_384 : decode cL_sinks 384 = .ok (.aload_n 0, 1) := by decide +kernel
theorem dL_sinks_385 : decode cL_sinks 385 = .ok (.bipush 87, 2) := by decide +kernel
theorem dL_sinks_387 : decode cL_sinks 387 = .ok (.iconst 2, 1) := by decide +kernel
theorem dL_sinks_388 : decode cL_sinks 388 = .ok (.newarray .int, 2) := by decide +kernel
theorem dL_sinks_390 : decode cL_sinks 390 = .ok (.dup, 1) := by decide +kernel
theorem dL_sinks_391 : decode cL_sinks 391 = .ok (.iconst 0, 1) := by decide +kernel
theorem dL_sinks_392 : decode cL_sinks 392 = .ok (.iconst 0, 1) := by decide +kernel
theorem dL_sinks_393 : decode cL_sinks 393 = .ok (.iastore, 1) := by decide +kernel
theorem dL_sinks_394 : decode cL_sinks 394 = .ok (.dup, 1) := by decide +kernel
theorem dL_sinks_395 : decode cL_sinks 395 = .ok (.iconst 1, 1) := by decide +kernel
theorem dL_sinks_396 : decode cL_sinks 396 = .ok (.iconst 1, 1) := by decide +kernel
theorem dL_sinks_397 : decode cL_sinks 397 = .ok (.iastore, 1) := by decide +kernel
theorem dL_sinks_398 : decode cL_sinks 398 = .ok (.invokestatic 185, 3) := by decide +kernel
theorem dL_sinks_401 : decode cL_sinks 401 = .ok (.ldc2_w 227, 3) := by decide +kernel
theorem dL_sinks_404 : decode cL_sinks 404 = .ok (.lcmp, 1) := by decide +kernel
theorem dL_sinks_405 : decode cL_sinks 405 = .ok (.ifCond .ne 147, 3) := by decide +kernel
theorem dL_sinks_408 : decode cL_sinks 408 = .ok (.aload_n 0, 1) := by decide +kernel
theorem dL_sinks_409 : decode cL_sinks 409 = .ok (.bipush 111, 2) := by decide +kernel
theorem dL_sinks_411 : decode cL_sinks 411 = .ok (.iconst 3, 1) := by decide +kernel
theorem dL_sinks_412 : decode cL_sinks 412 = .ok (.newarray .int, 2) := by decide +kernel
theorem dL_sinks_414 : decode cL_sinks 414 = .ok (.dup, 1) := by decide +kernel
theorem dL_sinks_415 : decode cL_sinks 415 = .ok (.iconst 0, 1) := by decide +kernel
theorem dL_sinks_416 : decode cL_sinks 416 = .ok (.iconst 0, 1) := by decide +kernel
theorem dL_sinks_417 : decode cL_sinks 417 = .ok (.iastore, 1) := by decide +kernel
theorem dL_sinks_418 : decode cL_sinks 418 = .ok (.dup, 1) := by decide +kernel
theorem dL_sinks_419 : decode cL_sinks 419 = .ok (.iconst 1, 1) := by decide +kernel
theorem dL_sinks_420 : decode cL_sinks 420 = .ok (.iconst 0, 1) := by decide +kernel
theorem dL_sinks_421 : decode cL_sinks 421 = .ok (.iastore, 1) := by decide +kernel
theorem dL_sinks_422 : decode cL_sinks 422 = .ok (.dup, 1) := by decide +kernel
theorem dL_sinks_423 : decode cL_sinks 423 = .ok (.iconst 2, 1) := by decide +kernel
theorem dL_sinks_424 : decode cL_sinks 424 = .ok (.bipush 115, 2) := by decide +kernel
theorem dL_sinks_426 : decode cL_sinks 426 = .ok (.iastore, 1) := by decide +kernel
theorem dL_sinks_427 : decode cL_sinks 427 = .ok (.invokestatic 185, 3) := by decide +kernel
theorem dL_sinks_430 : decode cL_sinks 430 = .ok (.ldc2_w 241, 3) := by decide +kernel
theorem dL_sinks_433 : decode cL_sinks 433 = .ok (.lcmp, 1) := by decide +kernel
theorem dL_sinks_434 : decode cL_sinks 434 = .ok (.ifCond .ne 118, 3) := by decide +kernel
theorem dL_sinks_437 : decode cL_sinks 437 = .ok (.aload_n 0, 1) := by decide +kernel
theorem dL_sinks_438 : decode cL_sinks 438 = .ok (.bipush 111, 2) := by decide +kernel
theorem dL_sinks_440 : decode cL_sinks 440 = .ok (.iconst 3, 1) := by decide +kernel
theorem dL_sinks_441 : decode cL_sinks 441 = .ok (.newarray .int, 2) := by decide +kernel
theorem dL_sinks_443 : decode cL_sinks 443 = .ok (.dup, 1) := by decide +kernel
theorem dL_sinks_444 : decode cL_sinks 444 = .ok (.iconst 0, 1) := by decide +kernel
theorem dL_sinks_445 : decode cL_sinks 445 = .ok (.iconst 0, 1) := by decide +kernel
theorem dL_sinks_446 : decode cL_sinks 446 = .ok (.iastore, 1) := by decide +kernel
theorem dL_sinks_447 : decode cL_sinks 447 = .ok (.dup, 1) := by decide +kernel
theorem dL_sinks_448 : decode cL_sinks 448 = .ok (.iconst 1, 1) := by decide +kernel
theorem dL_sinks_449 : decode cL_sinks 449 = .ok (.iconst 1, 1) := by decide +kernel
theorem dL_sinks_450 : decode cL_sinks 450 = .ok (.iastore, 1) := by decide +kernel
theorem dL_sinks_451 : decode cL_sinks 451 = .ok (.dup, 1) := by decide +kernel
theorem dL_sinks_452 : decode cL_sinks 452 = .ok (.iconst 2, 1) := by decide +kernel
theorem dL_sinks_453 : decode cL_sinks 453 = .ok (.bipush 115, 2) := by decide +kernel
theorem dL_sinks_455 : decode cL_sinks 455 = .ok (.iastore, 1) := by decide +kernel
theorem dL_sinks_456 : decode cL_sinks 456 = .ok (.invokestatic 185, 3) := by decide +kernel
theorem dL_sinks_459 : decode cL_sinks 459 = .ok (.ldc2_w 243, 3) := by decide +kernel
theorem dL_sinks_462 : decode cL_sinks 462 = .ok (.lcmp, 1) := by decide +kernel
theorem dL_sinks_463 : decode cL_sinks 463 = .ok (.ifCond .ne 89, 3) := by decide +kernel
theorem dL_sinks_466 : decode cL_sinks 466 = .ok (.aload_n 0, 1) := by decide +kernel
theorem dL_sinks_467 : decode cL_sinks 467 = .ok (.bipush 103, 2) := by decide +kernel
theorem dL_sinks_469 : decode cL_sinks 469 = .ok (.iconst 1, 1) := by decide +kernel
theorem dL_sinks_470 : decode cL_sinks 470 = .ok (.newarray .int, 2) := by decide +kernel
theorem dL_sinks_472 : decode cL_sinks 472 = .ok (.dup, 1) := by decide +kernel
theorem dL_sinks_473 : decode cL_sinks 473 = .ok (.iconst 0, 1) := by decide +kernel
theorem dL_sinks_474 : decode cL_sinks 474 = .ok (.iconst 0, 1) := by decide +kernel
theorem dL_sinks_475 : decode cL_sinks 475 = .ok (.iastore, 1) := by decide +kernel
theorem dL_sinks_476 : decode cL_sinks 476 = .ok (.invokestatic 185, 3) := by decide +kernel
theorem dL_sinks_479 : decode cL_sinks 479 = .ok (.lconst 0, 1) := by decide +kernel
theorem dL_sinks_480 : decode cL_sinks 480 = .ok (.lcmp, 1) := by decide +kernel
theorem dL_sinks_481 : decode cL_sinks 481 = .ok (.ifCond .ne 71, 3) := by decide +kernel
theorem dL_sinks_484 : decode cL_sinks 484 = .ok (.aload_n 0, 1) := by decide +kernel
theorem dL_sinks_485 : decode cL_sinks 485 = .ok (.bipush 98, 2) := by decide +kernel
theorem dL_sinks_487 : decode cL_sinks 487 = .ok (.iconst 1, 1) := by decide +kernel
theorem dL_sinks_488 : decode cL_sinks 488 = .ok (.newarray .int, 2) := by decide +kernel
theorem dL_sinks_490 : decode cL_sinks 490 = .ok (.dup, 1) := by decide +kernel
theorem dL_sinks_491 : decode cL_sinks 491 = .ok (.iconst 0, 1) := by decide +kernel
theorem dL_sinks_492 : decode cL_sinks 492 = .ok (.iconst 0, 1) := by decide +kernel
theorem dL_sinks_493 : decode cL_sinks 493 = .ok (.iastore, 1) := by decide +kernel
theorem dL_sinks_494 : decode cL_sinks 494 = .ok (.invokestatic 185, 3) := by decide +kernel
theorem dL_sinks_497 : decode cL_sinks 497 = .ok (.ldc2_w 245, 3) := by decide +kernel
theorem dL_sinks_500 : decode cL_sinks 500 = .ok (.lcmp, 1) := by decide +kernel
theorem dL_sinks_501 : decode cL_sinks 501 = .ok (.ifCond .ne 51, 3) := by decide +kernel
theorem dL_sinks_504 : decode cL_sinks 504 = .ok (.aload_n 0, 1) := by decide +kernel
theorem dL_sinks_505 : decode cL_sinks 505 = .ok (.bipush 120, 2) := by decide +kernel
theorem dL_sinks_507 : decode cL_sinks 507 = .ok (.iconst 2, 1) := by decide +kernel
theorem dL_sinks_508 : decode cL_sinks 508 = .ok (.newarray .int, 2) := by decide +kernel
theorem dL_sinks_510 : decode cL_sinks 510 = .ok (.dup, 1) := by decide +kernel
theorem dL_sinks_511 : decode cL_sinks 511 = .ok (.iconst 0, 1) := by decide +kernel
theorem dL_sinks_512 : decode cL_sinks 512 = .ok (.iconst 0, 1) := by decide +kernel
theorem dL_sinks_513 : decode cL_sinks 513 = .ok (.iastore, 1) := by decide +kernel
theorem dL_sinks_514 : decode cL_sinks 514 = .ok (.dup, 1) := by decide +kernel
theorem dL_sinks_515 : decode cL_sinks 515 = .ok (.iconst 1, 1) := by decide +kernel
theorem dL_sinks_516 : decode cL_sinks 516 = .ok (.iconst 0, 1) := by decide +kernel
theorem dL_sinks_517 : decode cL_sinks 517 = .ok (.iastore, 1) := by decide +kernel
theorem dL_sinks_518 : decode cL_sinks 518 = .ok (.invokestatic 185, 3) := by decide +kernel
theorem dL_sinks_521 : decode cL_sinks 521 = .ok (.ldc2_w 247, 3) := by decide +kernel
theorem dL_sinks_524 : decode cL_sinks 524 = .ok (.lcmp, 1) := by decide +kernel
theorem dL_sinks_525 : decode cL_sinks 525 = .ok (.ifCond .ne 27, 3) := by decide +kernel
theorem dL_sinks_528 : decode cL_sinks 528 = .ok (.aload_n 0, 1) := by decide +kernel
theorem dL_sinks_529 : decode cL_sinks 529 = .ok (.bipush 121, 2) := by decide +kernel
theorem dL_sinks_531 : decode cL_sinks 531 = .ok (.iconst 2, 1) := by decide +kernel
theorem dL_sinks_532 : decode cL_sinks 532 = .ok (.newarray .int, 2) := by decide +kernel
theorem dL_sinks_534 : decode cL_sinks 534 = .ok (.dup, 1) := by decide +kernel
theorem dL_sinks_535 : decode cL_sinks 535 = .ok (.iconst 0, 1) := by decide +kernel
theorem dL_sinks_536 : decode cL_sinks 536 = .ok (.iconst 0, 1) := by decide +kernel
theorem dL_sinks_537 : decode cL_sinks 537 = .ok (.iastore, 1) := by decide +kernel
theorem dL_sinks_538 : decode cL_sinks 538 = .ok (.dup, 1) := by decide +kernel
theorem dL_sinks_539 : decode cL_sinks 539 = .ok (.iconst 1, 1) := by decide +kernel
theorem dL_sinks_540 : decode cL_sinks 540 = .ok (.iconst 0, 1) := by decide +kernel
theorem dL_sinks_541 : decode cL_sinks 541 = .ok (.iastore, 1) := by decide +kernel
theorem dL_sinks_542 : decode cL_sinks 542 = .ok (.invokestatic 185, 3) := by decide +kernel
theorem dL_sinks_545 : decode cL_sinks 545 = .ok (.ldc2_w 239, 3) := by decide +kernel
theorem dL_sinks_548 : decode cL_sinks 548 = .ok (.lcmp, 1) := by decide +kernel
theorem dL_sinks_549 : decode cL_sinks 549 = .ok (.ifCond .eq 5, 3) := by decide +kernel
theorem dL_sinks_552 : decode cL_sinks 552 = .ok (.iconst 0, 1) := by decide +kernel
theorem dL_sinks_553 : decode cL_sinks 553 = .ok (.ireturn, 1) := by decide +kernel
theorem dL_sinks_554 : decode cL_sinks 554 = .ok (.aload_n 0, 1) := by decide +kernel
theorem dL_sinks_555 : decode cL_sinks 555 = .ok (.bipush 84, 2) := by decide +kernel
theorem dL_sinks_557 : decode cL_sinks 557 = .ok (.iconst 3, 1) := by decide +kernel
theorem dL_sinks_558 : decode cL_sinks 558 = .ok (.newarray .int, 2) := by decide +kernel
theorem dL_sinks_560 : decode cL_sinks 560 = .ok (.dup, 1) := by decide +kernel
theorem dL_sinks_561 : decode cL_sinks 561 = .ok (.iconst 0, 1) := by decide +kernel
theorem dL_sinks_562 : decode cL_sinks 562 = .ok (.iconst 0, 1) := by decide +kernel
theorem dL_sinks_563 : decode cL_sinks 563 = .ok (.iastore, 1) := by decide +kernel
theorem dL_sinks_564 : decode cL_sinks 564 = .ok (.dup, 1) := by decide +kernel
theorem dL_sinks_565 : decode cL_sinks 565 = .ok (.iconst 1, 1) := by decide +kernel
theorem dL_sinks_566 : decode cL_sinks 566 = .ok (.iconst 0, 1) := by decide +kernel
theorem dL_sinks_567 : decode cL_sinks 567 = .ok (.iastore, 1) := by decide +kernel
theorem dL_sinks_568 : decode cL_sinks 568 = .ok (.dup, 1) := by decide +kernel
theorem dL_sinks_569 : decode cL_sinks 569 = .ok (.iconst 2, 1) := by decide +kernel
theorem dL_sinks_570 : decode cL_sinks 570 = .ok (.iconst 0, 1) := by decide +kernel
theorem dL_sinks_571 : decode cL_sinks 571 = .ok (.iastore, 1) := by decide +kernel
theorem dL_sinks_572 : decode cL_sinks 572 = .ok (.invokestatic 185, 3) := by decide +kernel
theorem dL_sinks_575 : decode cL_sinks 575 = .ok (.lconst 0, 1) := by decide +kernel
theorem dL_sinks_576 : decode cL_sinks 576 = .ok (.lcmp, 1) := by decide +kernel
theorem dL_sinks_577 : decode cL_sinks 577 = .ok (.ifCond .ne 311, 3) := by decide +kernel
theorem dL_sinks_580 : decode cL_sinks 580 = .ok (.aload_n 0, 1) := by decide +kernel
theorem dL_sinks_581 : decode cL_sinks 581 = .ok (.bipush 113, 2) := by decide +kernel
theorem dL_sinks_583 : decode cL_sinks 583 = .ok (.iconst 3, 1) := by decide +kernel
theorem dL_sinks_584 : decode cL_sinks 584 = .ok (.newarray .int, 2) := by decide +kernel
theorem dL_sinks_586 : decode cL_sinks 586 = .ok (.dup, 1) := by decide +kernel
theorem dL_sinks_587 : decode cL_sinks 587 = .ok (.iconst 0, 1) := by decide +kernel
theorem dL_sinks_588 : decode cL_sinks 588 = .ok (.iconst 0, 1) := by decide +kernel
theorem dL_sinks_589 : decode cL_sinks 589 = .ok (.iastore, 1) := by decide +kernel
theorem dL_sinks_590 : decode cL_sinks 590 = .ok (.dup, 1) := by decide +kernel
theorem dL_sinks_591 : decode cL_sinks 591 = .ok (.iconst 1, 1) := by decide +kernel
theorem dL_sinks_592 : decode cL_sinks 592 = .ok (.iconst 1, 1) := by decide +kernel
theorem dL_sinks_593 : decode cL_sinks 593 = .ok (.iastore, 1) := by decide +kernel
theorem dL_sinks_594 : decode cL_sinks 594 = .ok (.dup, 1) := by decide +kernel
theorem dL_sinks_595 : decode cL_sinks 595 = .ok (.iconst 2, 1) := by decide +kernel
theorem dL_sinks_596 : decode cL_sinks 596 = .ok (.bipush 100, 2) := by decide +kernel
theorem dL_sinks_598 : decode cL_sinks 598 = .ok (.iastore, 1) := by decide +kernel
theorem dL_sinks_599 : decode cL_sinks 599 = .ok (.invokestatic 185, 3) := by decide +kernel
theorem dL_sinks_602 : decode cL_sinks 602 = .ok (.ldc2_w 249, 3) := by decide +kernel
theorem dL_sinks_605 : decode cL_sinks 605 = .ok (.lcmp, 1) := by decide +kernel
theorem dL_sinks_606 : decode cL_sinks 606 = .ok (.ifCond .ne 282, 3) := by decide +kernel
theorem dL_sinks_609 : decode cL_sinks 609 = .ok (.aload_n 0, 1) := by decide +kernel
theorem dL_sinks_610 : decode cL_sinks 610 = .ok (.bipush 113, 2) := by decide +kernel
theorem dL_sinks_612 : decode cL_sinks 612 = .ok (.iconst 3, 1) := by decide +kernel
theorem dL_sinks_613 : decode cL_sinks 613 = .ok (.newarray .int, 2) := by decide +kernel
theorem dL_sinks_615 : decode cL_sinks 615 = .ok (.dup, 1) := by decide +kernel
theorem dL_sinks_616 : decode cL_sinks 616 = .ok (.iconst 0, 1) := by decide +kernel
theorem dL_sinks_617 : decode cL_sinks 617 = .ok (.iconst 0, 1) := by decide +kernel
theorem dL_sinks_618 : decode cL_sinks 618 = .ok (.iastore, 1) := by decide +kernel
theorem dL_sinks_619 : decode cL_sinks 619 = .ok (.dup, 1) := by decide +kernel
theorem dL_sinks_620 : decode cL_sinks 620 = .ok (.iconst 1, 1) := by decide +kernel
theorem dL_sinks_621 : decode cL_sinks 621 = .ok (.iconst 1, 1) := by decide +kernel
theorem dL_sinks_622 : decode cL_sinks 622 = .ok (.iastore, 1) := by decide +kernel
theorem dL_sinks_623 : decode cL_sinks 623 = .ok (.dup, 1) := by decide +kernel
theorem dL_sinks_624 : decode cL_sinks 624 = .ok (.iconst 2, 1) := by decide +kernel
theorem dL_sinks_625 : decode cL_sinks 625 = .ok (.sipush 400, 3) := by decide +kernel
theorem dL_sinks_628 : decode cL_sinks 628 = .ok (.iastore, 1) := by decide +kernel
theorem dL_sinks_629 : decode cL_sinks 629 = .ok (.invokestatic 185, 3) := by decide +kernel
theorem dL_sinks_632 : decode cL_sinks 632 = .ok (.ldc2_w 231, 3) := by decide +kernel
theorem dL_sinks_635 : decode cL_sinks 635 = .ok (.lcmp, 1) := by decide +kernel
theorem dL_sinks_636 : decode cL_sinks 636 = .ok (.ifCond .ne 252, 3) := by decide +kernel
theorem dL_sinks_639 : decode cL_sinks 639 = .ok (.aload_n 0, 1) := by decide +kernel
theorem dL_sinks_640 : decode cL_sinks 640 = .ok (.bipush 110, 2) := by decide +kernel
theorem dL_sinks_642 : decode cL_sinks 642 = .ok (.iconst 3, 1) := by decide +kernel
theorem dL_sinks_643 : decode cL_sinks 643 = .ok (.newarray .int, 2) := by decide +kernel
theorem dL_sinks_645 : decode cL_sinks 645 = .ok (.dup, 1) := by decide +kernel
theorem dL_sinks_646 : decode cL_sinks 646 = .ok (.iconst 0, 1) := by decide +kernel
theorem dL_sinks_647 : decode cL_sinks 647 = .ok (.iconst 0, 1) := by decide +kernel
theorem dL_sinks_648 : decode cL_sinks 648 = .ok (.iastore, 1) := by decide +kernel
theorem dL_sinks_649 : decode cL_sinks 649 = .ok (.dup, 1) := by decide +kernel
theorem dL_sinks_650 : decode cL_sinks 650 = .ok (.iconst 1, 1) := by decide +kernel
theorem dL_sinks_651 : decode cL_sinks 651 = .ok (.iconst 1, 1) := by decide +kernel
theorem dL_sinks_652 : decode cL_sinks 652 = .ok (.iastore, 1) := by decide +kernel
theorem dL_sinks_653 : decode cL_sinks 653 = .ok (.dup, 1) := by decide +kernel
theorem dL_sinks_654 : decode cL_sinks 654 = .ok (.iconst 2, 1) := by decide +kernel
theorem dL_sinks_655 : decode cL_sinks 655 = .ok (.bipush 25, 2) := by decide +kernel
theorem dL_sinks_657 : decode cL_sinks 657 = .ok (.iastore, 1) := by decide +kernel
theorem dL_sinks_658 : decode cL_sinks 658 = .ok (.invokestatic 185, 3) := by decide +kernel
theorem dL_sinks_661 : decode cL_sinks 661 = .ok (.lconst 1, 1) := by decide +kernel
theorem dL_sinks_662 : decode cL_sinks 662 = .ok (.lcmp, 1) := by decide +kernel
theorem dL_sinks_663 : decode cL_sinks 663 = .ok (.ifCond .ne 225, 3) := by decide +kernel
theorem dL_sinks_666 : decode cL_sinks 666 = .ok (.aload_n 0, 1) := by decide +kernel
theorem dL_sinks_667 : decode cL_sinks 667 = .ok (.bipush 78, 2) := by decide +kernel
theorem dL_sinks_669 : decode cL_sinks 669 = .ok (.iconst 4, 1) := by decide +kernel
theorem dL_sinks_670 : decode cL_sinks 670 = .ok (.newarray .int, 2) := by decide +kernel
theorem dL_sinks_672 : decode cL_sinks 672 = .ok (.dup, 1) := by decide +kernel
theorem dL_sinks_673 : decode cL_sinks 673 = .ok (.iconst 0, 1) := by decide +kernel
theorem dL_sinks_674 : decode cL_sinks 674 = .ok (.iconst 0, 1) := by decide +kernel
theorem dL_sinks_675 : decode cL_sinks 675 = .ok (.iastore, 1) := by decide +kernel
theorem dL_sinks_676 : decode cL_sinks 676 = .ok (.dup, 1) := by decide +kernel
theorem dL_sinks_677 : decode cL_sinks 677 = .ok (.iconst 1, 1) := by decide +kernel
theorem dL_sinks_678 : decode cL_sinks 678 = .ok (.iconst 1, 1) := by decide +kernel
theorem dL_sinks_679 : decode cL_sinks 679 = .ok (.iastore, 1) := by decide +kernel
theorem dL_sinks_680 : decode cL_sinks 680 = .ok (.dup, 1) := by decide +kernel
theorem dL_sinks_681 : decode cL_sinks 681 = .ok (.iconst 2, 1) := by decide +kernel
theorem dL_sinks_682 : decode cL_sinks 682 = .ok (.bipush 25, 2) := by decide +kernel
theorem dL_sinks_684 : decode cL_sinks 684 = .ok (.iastore, 1) := by decide +kernel
theorem dL_sinks_685 : decode cL_sinks 685 = .ok (.dup, 1) := by decide +kernel
theorem dL_sinks_686 : decode cL_sinks 686 = .ok (.iconst 3, 1) := by decide +kernel
theorem dL_sinks_687 : decode cL_sinks 687 = .ok (.iconst 0, 1) := by decide +kernel
theorem dL_sinks_688 : decode cL_sinks 688 = .ok (.iastore, 1) := by decide +kernel
theorem dL_sinks_689 : decode cL_sinks 689 = .ok (.invokestatic 185, 3) := by decide +kernel
theorem dL_sinks_692 : decode cL_sinks 692 = .ok (.ldc2_w 231, 3) := by decide +kernel
theorem dL_sinks_695 : decode cL_sinks 695 = .ok (.lcmp, 1) := by decide +kernel
theorem dL_sinks_696 : decode cL_sinks 696 = .ok (.ifCond .ne 192, 3) := by decide +kernel
theorem dL_sinks_699 : decode cL_sinks 699 = .ok (.aload_n 0, 1) := by decide +kernel
theorem dL_sinks_700 : decode cL_sinks 700 = .ok (.bipush 72, 2) := by decide +kernel
theorem dL_sinks_702 : decode cL_sinks 702 = .ok (.iconst 1, 1) := by decide +kernel
theorem dL_sinks_703 : decode cL_sinks 703 = .ok (.newarray .int, 2) := by decide +kernel
theorem dL_sinks_705 : decode cL_sinks 705 = .ok (.dup, 1) := by decide +kernel
theorem dL_sinks_706 : decode cL_sinks 706 = .ok (.iconst 0, 1) := by decide +kernel
theorem dL_sinks_707 : decode cL_sinks 707 = .ok (.iconst 1, 1) := by decide +kernel
theorem dL_sinks_708 : decode cL_sinks 708 = .ok (.iastore, 1) := by decide +kernel
theorem dL_sinks_709 : decode cL_sinks 709 = .ok (.invokestatic 185, 3) := by decide +kernel
theorem dL_sinks_712 : decode cL_sinks 712 = .ok (.ldc2_w 225, 3) := by decide +kernel
theorem dL_sinks_715 : decode cL_sinks 715 = .ok (.lcmp, 1) := by decide +kernel
theorem dL_sinks_716 : decode cL_sinks 716 = .ok (.ifCond .ne 172, 3) := by decide +kernel
theorem dL_sinks_719 : decode cL_sinks 719 = .ok (.aload_n 0, 1) := by decide +kernel
theorem dL_sinks_720 : decode cL_sinks 720 = .ok (.bipush 116, 2) := by decide +kernel
theorem dL_sinks_722 : decode cL_sinks 722 = .ok (.iconst 1, 1) := by decide +kernel
theorem dL_sinks_723 : decode cL_sinks 723 = .ok (.newarray .int, 2) := by decide +kernel
theorem dL_sinks_725 : decode cL_sinks 725 = .ok (.dup, 1) := by decide +kernel
theorem dL_sinks_726 : decode cL_sinks 726 = .ok (.iconst 0, 1) := by decide +kernel
theorem dL_sinks_727 : decode cL_sinks 727 = .ok (.iconst 0, 1) := by decide +kernel
theorem dL_sinks_728 : decode cL_sinks 728 = .ok (.iastore, 1) := by decide +kernel
theorem dL_sinks_729 : decode cL_sinks 729 = .ok (.invokestatic 185, 3) := by decide +kernel
theorem dL_sinks_732 : decode cL_sinks 732 = .ok (.lconst 0, 1) := by decide +kernel
theorem dL_sinks_733 : decode cL_sinks 733 = .ok (.lcmp, 1) := by decide +kernel
theorem dL_sinks_734 : decode cL_sinks 734 = .ok (.ifCond .ne 154, 3) := by decide +kernel
theorem dL_sinks_737 : decode cL_sinks 737 = .ok (.aload_n 0, 1) := by decide +kernel
theorem dL_sinks_738 : decode cL_sinks 738 = .ok (.bipush 103, 2) := by decide +kernel
theorem dL_sinks_740 : decode cL_sinks 740 = .ok (.iconst 1, 1) := by decide +kernel
theorem dL_sinks_741 : decode cL_sinks 741 = .ok (.newarray .int, 2) := by decide +kernel
theorem dL_sinks_743 : decode cL_sinks 743 = .ok (.dup, 1) := by decide +kernel
theorem dL_sinks_744 : decode cL_sinks 744 = .ok (.iconst 0, 1) := by decide +kernel
theorem dL_sinks_745 : decode cL_sinks 745 = .ok (.iconst 0, 1) := by decide +kernel
theorem dL_sinks_746 : decode cL_sinks 746 = .ok (.iastore, 1) := by decide +kernel
theorem dL_sinks_747 : decode cL_sinks 747 = .ok (.invokestatic 185, 3) := by decide +kernel
theorem dL_sinks_750 : decode cL_sinks 750 = .ok (.ldc2_w 249, 3) := by decide +kernel
theorem dL_sinks_753 : decode cL_sinks 753 = .ok (.lcmp, 1) := by decide +kernel
theorem dL_sinks_754 : decode cL_sinks 754 = .ok (.ifCond .ne 134, 3) := by decide +kernel
theorem dL_sinks_757 : decode cL_sinks 757 = .ok (.aload_n 0, 1) := by decide +kernel
theorem dL_sinks_758 : decode cL_sinks 758 = .ok (.bipush 87, 2) := by decide +kernel
theorem dL_sinks_760 : decode cL_sinks 760 = .ok (.iconst 2, 1) := by decide +kernel
theorem dL_sinks_761 : decode cL_sinks 761 = .ok (.newarray .int, 2) := by decide +kernel
theorem dL_sinks_763 : decode cL_sinks 763 = .ok (.dup, 1) := by decide +kernel
theorem dL_sinks_764 : decode cL_sinks 764 = .ok (.iconst 0, 1) := by decide +kernel
theorem dL_sinks_765 : decode cL_sinks 765 = .ok (.iconst 0, 1) := by decide +kernel
theorem dL_sinks_766 : decode cL_sinks 766 = .ok (.iastore, 1) := by decide +kernel
theorem dL_sinks_767 : decode cL_sinks 767 = .ok (.dup, 1) := by decide +kernel
theorem dL_sinks_768 : decode cL_sinks 768 = .ok (.iconst 1, 1) := by decide +kernel
theorem dL_sinks_769 : decode cL_sinks 769 = .ok (.iconst 0, 1) := by decide +kernel
theorem dL_sinks_770 : decode cL_sinks 770 = .ok (.iastore, 1) := by decide +kernel
theorem dL_sinks_771 : decode cL_sinks 771 = .ok (.invokestatic 185, 3) := by decide +kernel
theorem dL_sinks_774 : decode cL_sinks 774 = .ok (.ldc2_w 251, 3) := by decide +kernel
theorem dL_sinks_777 : decode cL_sinks 777 = .ok (.lcmp, 1) := by decide +kernel
theorem dL_sinks_778 : decode cL_sinks 778 = .ok (.ifCond .ne 110, 3) := by decide +kernel
theorem dL_sinks_781 : decode cL_sinks 781 = .ok (.aload_n 0, 1) := by decide +kernel
theorem dL_sinks_782 : decode cL_sinks 782 = .ok (.bipush 87, 2) := by decide +kernel
theorem dL_sinks_784 : decode cL_sinks 784 = .ok (.iconst 2, 1) := by decide +kernel
theorem dL_sinks_785 : decode cL_sinks 785 = .ok (.newarray .int, 2) := by decide +kernel
theorem dL_sinks_787 : decode cL_sinks 787 = .ok (.dup, 1) := by decide +kernel
theorem dL_sinks_788 : decode cL_sinks 788 = .ok (.iconst 0, 1) := by decide +kernel
theorem dL_sinks_789 : decode cL_sinks 789 = .ok (.iconst 0, 1) := by decide +kernel
theorem dL_sinks_790 : decode cL_sinks 790 = .ok (.iastore, 1) := by decide +kernel
theorem dL_sinks_791 : decode cL_sinks 791 = .ok (.dup, 1) := by decide +kernel
theorem dL_sinks_792 : decode cL_sinks 792 = .ok (.iconst 1, 1) := by decide +kernel
theorem dL_sinks_793 : decode cL_sinks 793 = .ok (.iconst 1, 1) := by decide +kernel
theorem dL_sinks_794 : decode cL_sinks 794 = .ok (.iastore, 1) := by decide +kernel
theorem dL_sinks_795 : decode cL_sinks 795 = .ok (.invokestatic 185, 3) := by decide +kernel
theorem dL_sinks_798 : decode cL_sinks 798 = .ok (.ldc2_w 202, 3) := by decide +kernel
theorem dL_sinks_801 : decode cL_sinks 801 = .ok (.lcmp, 1) := by decide +kernel
theorem dL_sinks_802 : decode cL_sinks 802 = .ok (.ifCond .ne 86, 3) := by decide +kernel
theorem dL_sinks_805 : decode cL_sinks 805 = .ok (.aload_n 0, 1) := by decide +kernel
theorem dL_sinks_806 : decode cL_sinks 806 = .ok (.bipush 79, 2) := by decide +kernel
theorem dL_sinks_808 : decode cL_sinks 808 = .ok (.iconst 2, 1) := by decide +kernel
theorem dL_sinks_809 : decode cL_sinks 809 = .ok (.newarray .int, 2) := by decide +kernel
theorem dL_sinks_811 : decode cL_sinks 811 = .ok (.dup, 1) := by decide +kernel
theorem dL_sinks_812 : decode cL_sinks 812 = .ok (.iconst 0, 1) := by decide +kernel
theorem dL_sinks_813 : decode cL_sinks 813 = .ok (.iconst 0, 1) := by decide +kernel
theorem dL_sinks_814 : decode cL_sinks 814 = .ok (.iastore, 1) := by decide +kernel
theorem dL_sinks_815 : decode cL_sinks 815 = .ok (.dup, 1) := by decide +kernel
theorem dL_sinks_816 : decode cL_sinks 816 = .ok (.iconst 1, 1) := by decide +kernel
theorem dL_sinks_817 : decode cL_sinks 817 = .ok (.bipush 115, 2) := by decide +kernel
theorem dL_sinks_819 : decode cL_sinks 819 = .ok (.iastore, 1) := by decide +kernel
theorem dL_sinks_820 : decode cL_sinks 820 = .ok (.invokestatic 185, 3) := by decide +kernel
theorem dL_sinks_823 : decode cL_sinks 823 = .ok (.ldc2_w 253, 3) := by decide +kernel
theorem dL_sinks_826 : decode cL_sinks 826 = .ok (.lcmp, 1) := by decide +kernel
theorem dL_sinks_827 : decode cL_sinks 827 = .ok (.ifCond .ne 61, 3) := by decide +kernel
theorem dL_sinks_830 : decode cL_sinks 830 = .ok (.aload_n 0, 1) := by decide +kernel
theorem dL_sinks_831 : decode cL_sinks 831 = .ok (.bipush 111, 2) := by decide +kernel
theorem dL_sinks_833 : decode cL_sinks 833 = .ok (.iconst 3, 1) := by decide +kernel
theorem dL_sinks_834 : decode cL_sinks 834 = .ok (.newarray .int, 2) := by decide +kernel
theorem dL_sinks_836 : decode cL_sinks 836 = .ok (.dup, 1) := by decide +kernel
theorem dL_sinks_837 : decode cL_sinks 837 = .ok (.iconst 0, 1) := by decide +kernel
theorem dL_sinks_838 : decode cL_sinks 838 = .ok (.iconst 0, 1) := by decide +kernel
theorem dL_sinks_839 : decode cL_sinks 839 = .ok (.iastore, 1) := by decide +kernel
theorem dL_sinks_840 : decode cL_sinks 840 = .ok (.dup, 1) := by decide +kernel
theorem dL_sinks_841 : decode cL_sinks 841 = .ok (.iconst 1, 1) := by decide +kernel
theorem dL_sinks_842 : decode cL_sinks 842 = .ok (.iconst 0, 1) := by decide +kernel
theorem dL_sinks_843 : decode cL_sinks 843 = .ok (.iastore, 1) := by decide +kernel
theorem dL_sinks_844 : decode cL_sinks 844 = .ok (.dup, 1) := by decide +kernel
theorem dL_sinks_845 : decode cL_sinks 845 = .ok (.iconst 2, 1) := by decide +kernel
theorem dL_sinks_846 : decode cL_sinks 846 = .ok (.bipush 115, 2) := by decide +kernel
theorem dL_sinks_848 : decode cL_sinks 848 = .ok (.iastore, 1) := by decide +kernel
theorem dL_sinks_849 : decode cL_sinks 849 = .ok (.invokestatic 185, 3) := by decide +kernel
theorem dL_sinks_852 : decode cL_sinks 852 = .ok (.ldc2_w 255, 3) := by decide +kernel
theorem dL_sinks_855 : decode cL_sinks 855 = .ok (.lcmp, 1) := by decide +kernel
theorem dL_sinks_856 : decode cL_sinks 856 = .ok (.ifCond .ne 32, 3) := by decide +kernel
theorem dL_sinks_859 : decode cL_sinks 859 = .ok (.aload_n 0, 1) := by decide +kernel
theorem dL_sinks_860 : decode cL_sinks 860 = .ok (.bipush 111, 2) := by decide +kernel
theorem dL_sinks_862 : decode cL_sinks 862 = .ok (.iconst 3, 1) := by decide +kernel
theorem dL_sinks_863 : decode cL_sinks 863 = .ok (.newarray .int, 2) := by decide +kernel
theorem dL_sinks_865 : decode cL_sinks 865 = .ok (.dup, 1) := by decide +kernel
theorem dL_sinks_866 : decode cL_sinks 866 = .ok (.iconst 0, 1) := by decide +kernel
theorem dL_sinks_867 : decode cL_sinks 867 = .ok (.iconst 0, 1) := by decide +kernel
theorem dL_sinks_868 : decode cL_sinks 868 = .ok (.iastore, 1) := by decide +kernel
theorem dL_sinks_869 : decode cL_sinks 869 = .ok (.dup, 1) := by decide +kernel
theorem dL_sinks_870 : decode cL_sinks 870 = .ok (.iconst 1, 1) := by decide +kernel
theorem dL_sinks_871 : decode cL_sinks 871 = .ok (.iconst 1, 1) := by decide +kernel
theorem dL_sinks_872 : decode cL_sinks 872 = .ok (.iastore, 1) := by decide +kernel
theorem dL_sinks_873 : decode cL_sinks 873 = .ok (.dup, 1) := by decide +kernel
theorem dL_sinks_874 : decode cL_sinks 874 = .ok (.iconst 2, 1) := by decide +kernel
theorem dL_sinks_875 : decode cL_sinks 875 = .ok (.bipush 115, 2) := by decide +kernel
theorem dL_sinks_877 : decode cL_sinks 877 = .ok (.iastore, 1) := by decide +kernel
theorem dL_sinks_878 : decode cL_sinks 878 = .ok (.invokestatic 185, 3) := by decide +kernel
theorem dL_sinks_881 : decode cL_sinks 881 = .ok (.ldc2_w 257, 3) := by decide +kernel
theorem dL_sinks_884 : decode cL_sinks 884 = .ok (.lcmp, 1) := by decide +kernel
theorem dL_sinks_885 : decode cL_sinks 885 = .ok (.ifCond .eq 5, 3) := by decide +kernel
theorem dL_sinks_888 : decode cL_sinks 888 = .ok (.iconst 0, 1) := by decide +kernel
theorem dL_sinks_889 : decode cL_sinks 889 = .ok (.ireturn, 1) := by decide +kernel
theorem dL_sinks_890 : decode cL_sinks 890 = .ok (.aload_n 0, 1) := by decide +kernel
theorem dL_sinks_891 : decode cL_sinks 891 = .ok (.bipush 119, 2) := by decide +kernel
theorem dL_sinks_893 : decode cL_sinks 893 = .ok (.iconst 3, 1) := by decide +kernel
theorem dL_sinks_894 : decode cL_sinks 894 = .ok (.newarray .int, 2) := by decide +kernel
theorem dL_sinks_896 : decode cL_sinks 896 = .ok (.dup, 1) := by decide +kernel
theorem dL_sinks_897 : decode cL_sinks 897 = .ok (.iconst 0, 1) := by decide +kernel
theorem dL_sinks_898 : decode cL_sinks 898 = .ok (.iconst 0, 1) := by decide +kernel
theorem dL_sinks_899 : decode cL_sinks 899 = .ok (.iastore, 1) := by decide +kernel
theorem dL_sinks_900 : decode cL_sinks 900 = .ok (.dup, 1) := by decide +kernel
theorem dL_sinks_901 : decode cL_sinks 901 = .ok (.iconst 1, 1) := by decide +kernel
theorem dL_sinks_902 : decode cL_sinks 902 = .ok (.iconst 0, 1) := by decide +kernel
theorem dL_sinks_903 : decode cL_sinks 903 = .ok (.iastore, 1) := by decide +kernel
theorem dL_sinks_904 : decode cL_sinks 904 = .ok (.dup, 1) := by decide +kernel
theorem dL_sinks_905 : decode cL_sinks 905 = .ok (.iconst 2, 1) := by decide +kernel
theorem dL_sinks_906 : decode cL_sinks 906 = .ok (.bipush 100, 2) := by decide +kernel
theorem dL_sinks_908 : decode cL_sinks 908 = .ok (.iastore, 1) := by decide +kernel
theorem dL_sinks_909 : decode cL_sinks 909 = .ok (.invokestatic 185, 3) := by decide +kernel
theorem dL_sinks_912 : decode cL_sinks 912 = .ok (.ldc2_w 251, 3) := by decide +kernel
theorem dL_sinks_915 : decode cL_sinks 915 = .ok (.lcmp, 1) := by decide +kernel
theorem dL_sinks_916 : decode cL_sinks 916 = .ok (.ifCond .ne 187, 3) := by decide +kernel
theorem dL_sinks_919 : decode cL_sinks 919 = .ok (.aload_n 0, 1) := by decide +kernel
theorem dL_sinks_920 : decode cL_sinks 920 = .ok (.bipush 119, 2) := by decide +kernel
theorem dL_sinks_922 : decode cL_sinks 922 = .ok (.iconst 3, 1) := by decide +kernel
theorem dL_sinks_923 : decode cL_sinks 923 = .ok (.newarray .int, 2) := by decide +kernel
theorem dL_sinks_925 : decode cL_sinks 925 = .ok (.dup, 1) := by decide +kernel
theorem dL_sinks_926 : decode cL_sinks 926 = .ok (.iconst 0, 1) := by decide +kernel
theorem dL_sinks_927 : decode cL_sinks 927 = .ok (.iconst 0, 1) := by decide +kernel
theorem dL_sinks_928 : decode cL_sinks 928 = .ok (.iastore, 1) := by decide +kernel
theorem dL_sinks_929 : decode cL_sinks 929 = .ok (.dup, 1) := by decide +kernel
theorem dL_sinks_930 : decode cL_sinks 930 = .ok (.iconst 1, 1) := by decide +kernel
theorem dL_sinks_931 : decode cL_sinks 931 = .ok (.iconst 1, 1) := by decide +kernel
theorem dL_sinks_932 : decode cL_sinks 932 = .ok (.iastore, 1) := by decide +kernel
theorem dL_sinks_933 : decode cL_sinks 933 = .ok (.dup, 1) := by decide +kernel
theorem dL_sinks_934 : decode cL_sinks 934 = .ok (.iconst 2, 1) := by decide +kernel
theorem dL_sinks_935 : decode cL_sinks 935 = .ok (.sipush 250, 3) := by decide +kernel
theorem dL_sinks_938 : decode cL_sinks 938 = .ok (.iastore, 1) := by decide +kernel
theorem dL_sinks_939 : decode cL_sinks 939 = .ok (.invokestatic 185, 3) := by decide +kernel
theorem dL_sinks_942 : decode cL_sinks 942 = .ok (.ldc2_w 202, 3) := by decide +kernel
theorem dL_sinks_945 : decode cL_sinks 945 = .ok (.lcmp, 1) := by decide +kernel
theorem dL_sinks_946 : decode cL_sinks 946 = .ok (.ifCond .ne 157, 3) := by decide +kernel
theorem dL_sinks_949 : decode cL_sinks 949 = .ok (.aload_n 0, 1) := by decide +kernel
theorem dL_sinks_950 : decode cL_sinks 950 = .ok (.bipush 112, 2) := by decide +kernel
theorem dL_sinks_952 : decode cL_sinks 952 = .ok (.iconst 3, 1) := by decide +kernel
theorem dL_sinks_953 : decode cL_sinks 953 = .ok (.newarray .int, 2) := by decide +kernel
theorem dL_sinks_955 : decode cL_sinks 955 = .ok (.dup, 1) := by decide +kernel
theorem dL_sinks_956 : decode cL_sinks 956 = .ok (.iconst 0, 1) := by decide +kernel
theorem dL_sinks_957 : decode cL_sinks 957 = .ok (.iconst 0, 1) := by decide +kernel
theorem dL_sinks_958 : decode cL_sinks 958 = .ok (.iastore, 1) := by decide +kernel
theorem dL_sinks_959 : decode cL_sinks 959 = .ok (.dup, 1) := by decide +kernel
theorem dL_sinks_960 : decode cL_sinks 960 = .ok (.iconst 1, 1) := by decide +kernel
theorem dL_sinks_961 : decode cL_sinks 961 = .ok (.bipush 8, 2) := by decide +kernel
theorem dL_sinks_963 : decode cL_sinks 963 = .ok (.iastore, 1) := by decide +kernel
theorem dL_sinks_964 : decode cL_sinks 964 = .ok (.dup, 1) := by decide +kernel
theorem dL_sinks_965 : decode cL_sinks 965 = .ok (.iconst 2, 1) := by decide +kernel
theorem dL_sinks_966 : decode cL_sinks 966 = .ok (.bipush 50, 2) := by decide +kernel
theorem dL_sinks_968 : decode cL_sinks 968 = .ok (.iastore, 1) := by decide +kernel
theorem dL_sinks_969 : decode cL_sinks 969 = .ok (.invokestatic 185, 3) := by decide +kernel
theorem dL_sinks_972 : decode cL_sinks 972 = .ok (.lconst 1, 1) := by decide +kernel
theorem dL_sinks_973 : decode cL_sinks 973 = .ok (.lcmp, 1) := by decide +kernel
theorem dL_sinks_974 : decode cL_sinks 974 = .ok (.ifCond .ne 129, 3) := by decide +kernel
theorem dL_sinks_977 : decode cL_sinks 977 = .ok (.aload_n 0, 1) := by decide +kernel
theorem dL_sinks_978 : decode cL_sinks 978 = .ok (.bipush 112, 2) := by decide +kernel
theorem dL_sinks_980 : decode cL_sinks 980 = .ok (.iconst 3, 1) := by decide +kernel
theorem dL_sinks_981 : decode cL_sinks 981 = .ok (.newarray .int, 2) := by decide +kernel
theorem dL_sinks_983 : decode cL_sinks 983 = .ok (.dup, 1) := by decide +kernel
theorem dL_sinks_984 : decode cL_sinks 984 = .ok (.iconst 0, 1) := by decide +kernel
theorem dL_sinks_985 : decode cL_sinks 985 = .ok (.iconst 0, 1) := by decide +kernel
theorem dL_sinks_986 : decode cL_sinks 986 = .ok (.iastore, 1) := by decide +kernel
theorem dL_sinks_987 : decode cL_sinks 987 = .ok (.dup, 1) := by decide +kernel
theorem dL_sinks_988 : decode cL_sinks 988 = .ok (.iconst 1, 1) := by decide +kernel
theorem dL_sinks_989 : decode cL_sinks 989 = .ok (.iconst 1, 1) := by decide +kernel
theorem dL_sinks_990 : decode cL_sinks 990 = .ok (.iastore, 1) := by decide +kernel
theorem dL_sinks_991 : decode cL_sinks 991 = .ok (.dup, 1) := by decide +kernel
theorem dL_sinks_992 : decode cL_sinks 992 = .ok (.iconst 2, 1) := by decide +kernel
theorem dL_sinks_993 : decode cL_sinks 993 = .ok (.bipush 50, 2) := by decide +kernel
theorem dL_sinks_995 : decode cL_sinks 995 = .ok (.iastore, 1) := by decide +kernel
theorem dL_sinks_996 : decode cL_sinks 996 = .ok (.invokestatic 185, 3) := by decide +kernel
theorem dL_sinks_999 : decode cL_sinks 999 = .ok (.ldc2_w 225, 3) := by decide +kernel
theorem dL_sinks_1002 : decode cL_sinks 1002 = .ok (.lcmp, 1) := by decide +kernel
theorem dL_sinks_1003 : decode cL_sinks 1003 = .ok (.ifCond .ne 100, 3) := by decide +kernel
theorem dL_sinks_1006 : decode cL_sinks 1006 = .ok (.aload_n 0, 1) := by decide +kernel
theorem dL_sinks_1007 : decode cL_sinks 1007 = .ok (.bipush 112, 2) := by decide +kernel
theorem dL_sinks_1009 : decode cL_sinks 1009 = .ok (.iconst 3, 1) := by decide +kernel
theorem dL_sinks_1010 : decode cL_sinks 1010 = .ok (.newarray .int, 2) := by decide +kernel
theorem dL_sinks_1012 : decode cL_sinks 1012 = .ok (.dup, 1) := by decide +kernel
theorem dL_sinks_1013 : decode cL_sinks 1013 = .ok (.iconst 0, 1) := by decide +kernel
theorem dL_sinks_1014 : decode cL_sinks 1014 = .ok (.iconst 0, 1) := by decide +kernel
theorem dL_sinks_1015 : decode cL_sinks 1015 = .ok (.iastore, 1) := by decide +kernel
theorem dL_sinks_1016 : decode cL_sinks 1016 = .ok (.dup, 1) := by decide +kernel
theorem dL_sinks_1017 : decode cL_sinks 1017 = .ok (.iconst 1, 1) := by decide +kernel
theorem dL_sinks_1018 : decode cL_sinks 1018 = .ok (.iconst 1, 1) := by decide +kernel
theorem dL_sinks_1019 : decode cL_sinks 1019 = .ok (.iastore, 1) := by decide +kernel
theorem dL_sinks_1020 : decode cL_sinks 1020 = .ok (.dup, 1) := by decide +kernel
theorem dL_sinks_1021 : decode cL_sinks 1021 = .ok (.iconst 2, 1) := by decide +kernel
theorem dL_sinks_1022 : decode cL_sinks 1022 = .ok (.iconst 1, 1) := by decide +kernel
theorem dL_sinks_1023 : decode cL_sinks 1023 = .ok (.iastore, 1) := by decide +kernel
theorem dL_sinks_1024 : decode cL_sinks 1024 = .ok (.invokestatic 185, 3) := by decide +kernel
theorem dL_sinks_1027 : decode cL_sinks 1027 = .ok (.ldc2_w 83, 3) := by decide +kernel
theorem dL_sinks_1030 : decode cL_sinks 1030 = .ok (.lcmp, 1) := by decide +kernel
theorem dL_sinks_1031 : decode cL_sinks 1031 = .ok (.ifCond .ne 72, 3) := by decide +kernel
theorem dL_sinks_1034 : decode cL_sinks 1034 = .ok (.aload_n 0, 1) := by decide +kernel
theorem dL_sinks_1035 : decode cL_sinks 1035 = .ok (.bipush 109, 2) := by decide +kernel
theorem dL_sinks_1037 : decode cL_sinks 1037 = .ok (.iconst 2, 1) := by decide +kernel
theorem dL_sinks_1038 : decode cL_sinks 1038 = .ok (.newarray .int, 2) := by decide +kernel
theorem dL_sinks_1040 : decode cL_sinks 1040 = .ok (.dup, 1) := by decide +kernel
theorem dL_sinks_1041 : decode cL_sinks 1041 = .ok (.iconst 0, 1) := by decide +kernel
theorem dL_sinks_1042 : decode cL_sinks 1042 = .ok (.iconst 0, 1) := by decide +kernel
theorem dL_sinks_1043 : decode cL_sinks 1043 = .ok (.iastore, 1) := by decide +kernel
theorem dL_sinks_1044 : decode cL_sinks 1044 = .ok (.dup, 1) := by decide +kernel
theorem dL_sinks_1045 : decode cL_sinks 1045 = .ok (.iconst 1, 1) := by decide +kernel
theorem dL_sinks_1046 : decode cL_sinks 1046 = .ok (.iconst 1, 1) := by decide +kernel
theorem dL_sinks_1047 : decode cL_sinks 1047 = .ok (.iastore, 1) := by decide +kernel
theorem dL_sinks_1048 : decode cL_sinks 1048 = .ok (.invokestatic 185, 3) := by decide +kernel
theorem dL_sinks_1051 : decode cL_sinks 1051 = .ok (.lconst 0, 1) := by decide +kernel
theorem dL_sinks_1052 : decode cL_sinks 1052 = .ok (.lcmp, 1) := by decide +kernel
theorem dL_sinks_1053 : decode cL_sinks 1053 = .ok (.ifCond .ne 50, 3) := by decide +kernel
theorem dL_sinks_1056 : decode cL_sinks 1056 = .ok (.aload_n 0, 1) := by decide +kernel
theorem dL_sinks_1057 : decode cL_sinks 1057 = .ok (.bipush 84, 2) := by decide +kernel
theorem dL_sinks_1059 : decode cL_sinks 1059 = .ok (.iconst 3, 1) := by decide +kernel
theorem dL_sinks_1060 : decode cL_sinks 1060 = .ok (.newarray .int, 2) := by decide +kernel
theorem dL_sinks_1062 : decode cL_sinks 1062 = .ok (.dup, 1) := by decide +kernel
theorem dL_sinks_1063 : decode cL_sinks 1063 = .ok (.iconst 0, 1) := by decide +kernel
theorem dL_sinks_1064 : decode cL_sinks 1064 = .ok (.iconst 0, 1) := by decide +kernel
theorem dL_sinks_1065 : decode cL_sinks 1065 = .ok (.iastore, 1) := by decide +kernel
theorem dL_sinks_1066 : decode cL_sinks 1066 = .ok (.dup, 1) := by decide +kernel
theorem dL_sinks_1067 : decode cL_sinks 1067 = .ok (.iconst 1, 1) := by decide +kernel
theorem dL_sinks_1068 : decode cL_sinks 1068 = .ok (.iconst 0, 1) := by decide +kernel
theorem dL_sinks_1069 : decode cL_sinks 1069 = .ok (.iastore, 1) := by decide +kernel
theorem dL_sinks_1070 : decode cL_sinks 1070 = .ok (.dup, 1) := by decide +kernel
theorem dL_sinks_1071 : decode cL_sinks 1071 = .ok (.iconst 2, 1) := by decide +kernel
theorem dL_sinks_1072 : decode cL_sinks 1072 = .ok (.bipush 30, 2) := by decide +kernel
theorem dL_sinks_1074 : decode cL_sinks 1074 = .ok (.iastore, 1) := by decide +kernel
theorem dL_sinks_1075 : decode cL_sinks 1075 = .ok (.invokestatic 185, 3) := by decide +kernel
theorem dL_sinks_1078 : decode cL_sinks 1078 = .ok (.lconst 0, 1) := by decide +kernel
theorem dL_sinks_1079 : decode cL_sinks 1079 = .ok (.lcmp, 1) := by decide +kernel
theorem dL_sinks_1080 : decode cL_sinks 1080 = .ok (.ifCond .ne 23, 3) := by decide +kernel
theorem dL_sinks_1083 : decode cL_sinks 1083 = .ok (.aload_n 0, 1) := by decide +kernel
theorem dL_sinks_1084 : decode cL_sinks 1084 = .ok (.bipush 72, 2) := by decide +kernel
theorem dL_sinks_1086 : decode cL_sinks 1086 = .ok (.iconst 1, 1) := by decide +kernel
theorem dL_sinks_1087 : decode cL_sinks 1087 = .ok (.newarray .int, 2) := by decide +kernel
theorem dL_sinks_1089 : decode cL_sinks 1089 = .ok (.dup, 1) := by decide +kernel
theorem dL_sinks_1090 : decode cL_sinks 1090 = .ok (.iconst 0, 1) := by decide +kernel
theorem dL_sinks_1091 : decode cL_sinks 1091 = .ok (.iconst 1, 1) := by decide +kernel
theorem dL_sinks_1092 : decode cL_sinks 1092 = .ok (.iastore, 1) := by decide +kernel
theorem dL_sinks_1093 : decode cL_sinks 1093 = .ok (.invokestatic 185, 3) := by decide +kernel
theorem dL_sinks_1096 : decode cL_sinks 1096 = .ok (.ldc2_w 259, 3) := by decide +kernel
theorem dL_sinks_1099 : decode cL_sinks 1099 = .ok (.lcmp, 1) := by decide +kernel
theorem dL_sinks_1100 : decode cL_sinks 1100 = .ok (.ifCond .eq 5, 3) := by decide +kernel
theorem dL_sinks_1103 : decode cL_sinks 1103 = .ok (.iconst 0, 1) := by decide +kernel
theorem dL_sinks_1104 : decode cL_sinks 1104 = .ok (.ireturn, 1) := by decide +kernel
theorem dL_sinks_1105 : decode cL_sinks 1105 = .ok (.aload_n 0, 1) := by decide +kernel
theorem dL_sinks_1106 : decode cL_sinks 1106 = .ok (.bipush 87, 2) := by decide +kernel
theorem dL_sinks_1108 : decode cL_sinks 1108 = .ok (.iconst 2, 1) := by decide +kernel
theorem dL_sinks_1109 : decode cL_sinks 1109 = .ok (.newarray .int, 2) := by decide +kernel
theorem dL_sinks_1111 : decode cL_sinks 1111 = .ok (.dup, 1) := by decide +kernel
theorem dL_sinks_1112 : decode cL_sinks 1112 = .ok (.iconst 0, 1) := by decide +kernel
theorem dL_sinks_1113 : decode cL_sinks 1113 = .ok (.iconst 0, 1) := by decide +kernel
theorem dL_sinks_1114 : decode cL_sinks 1114 = .ok (.iastore, 1) := by decide +kernel
theorem dL_sinks_1115 : decode cL_sinks 1115 = .ok (.dup, 1) := by decide +kernel
theorem dL_sinks_1116 : decode cL_sinks 1116 = .ok (.iconst 1, 1) := by decide +kernel
theorem dL_sinks_1117 : decode cL_sinks 1117 = .ok (.iconst 1, 1) := by decide +kernel
theorem dL_sinks_1118 : decode cL_sinks 1118 = .ok (.iastore, 1) := by decide +kernel
theorem dL_sinks_1119 : decode cL_sinks 1119 = .ok (.invokestatic 185, 3) := by decide +kernel
theorem dL_sinks_1122 : decode cL_sinks 1122 = .ok (.ldc2_w 261, 3) := by decide +kernel
theorem dL_sinks_1125 : decode cL_sinks 1125 = .ok (.lcmp, 1) := by decide +kernel
theorem dL_sinks_1126 : decode cL_sinks 1126 = .ok (.ifCond .ne 179, 3) := by decide +kernel
theorem dL_sinks_1129 : decode cL_sinks 1129 = .ok (.aload_n 0, 1) := by decide +kernel
theorem dL_sinks_1130 : decode cL_sinks 1130 = .ok (.bipush 83, 2) := by decide +kernel
theorem dL_sinks_1132 : decode cL_sinks 1132 = .ok (.iconst 2, 1) := by decide +kernel
theorem dL_sinks_1133 : decode cL_sinks 1133 = .ok (.newarray .int, 2) := by decide +kernel
theorem dL_sinks_1135 : decode cL_sinks 1135 = .ok (.dup, 1) := by decide +kernel
theorem dL_sinks_1136 : decode cL_sinks 1136 = .ok (.iconst 0, 1) := by decide +kernel
theorem dL_sinks_1137 : decode cL_sinks 1137 = .ok (.iconst 0, 1) := by decide +kernel
theorem dL_sinks_1138 : decode cL_sinks 1138 = .ok (.iastore, 1) := by decide +kernel
theorem dL_sinks_1139 : decode cL_sinks 1139 = .ok (.dup, 1) := by decide +kernel
theorem dL_sinks_1140 : decode cL_sinks 1140 = .ok (.iconst 1, 1) := by decide +kernel
theorem dL_sinks_1141 : decode cL_sinks 1141 = .ok (.iconst 0, 1) := by decide +kernel
theorem dL_sinks_1142 : decode cL_sinks 1142 = .ok (.iastore, 1) := by decide +kernel
theorem dL_sinks_1143 : decode cL_sinks 1143 = .ok (.invokestatic 185, 3) := by decide +kernel
theorem dL_sinks_1146 : decode cL_sinks 1146 = .ok (.lconst 0, 1) := by decide +kernel
theorem dL_sinks_1147 : decode cL_sinks 1147 = .ok (.lcmp, 1) := by decide +kernel
theorem dL_sinks_1148 : decode cL_sinks 1148 = .ok (.ifCond .ne 157, 3) := by decide +kernel
theorem dL_sinks_1151 : decode cL_sinks 1151 = .ok (.aload_n 0, 1) := by decide +kernel
theorem dL_sinks_1152 : decode cL_sinks 1152 = .ok (.bipush 83, 2) := by decide +kernel
theorem dL_sinks_1154 : decode cL_sinks 1154 = .ok (.iconst 2, 1) := by decide +kernel
theorem dL_sinks_1155 : decode cL_sinks 1155 = .ok (.newarray .int, 2) := by decide +kernel
theorem dL_sinks_1157 : decode cL_sinks 1157 = .ok (.dup, 1) := by decide +kernel
theorem dL_sinks_1158 : decode cL_sinks 1158 = .ok (.iconst 0, 1) := by decide +kernel
theorem dL_sinks_1159 : decode cL_sinks 1159 = .ok (.iconst 0, 1) := by decide +kernel
theorem dL_sinks_1160 : decode cL_sinks 1160 = .ok (.iastore, 1) := by decide +kernel
theorem dL_sinks_1161 : decode cL_sinks 1161 = .ok (.dup, 1) := by decide +kernel
theorem dL_sinks_1162 : decode cL_sinks 1162 = .ok (.iconst 1, 1) := by decide +kernel
theorem dL_sinks_1163 : decode cL_sinks 1163 = .ok (.iconst 1, 1) := by decide +kernel
theorem dL_sinks_1164 : decode cL_sinks 1164 = .ok (.iastore, 1) := by decide +kernel
theorem dL_sinks_1165 : decode cL_sinks 1165 = .ok (.invokestatic 185, 3) := by decide +kernel
theorem dL_sinks_1168 : decode cL_sinks 1168 = .ok (.ldc2_w 263, 3) := by decide +kernel
theorem dL_sinks_1171 : decode cL_sinks 1171 = .ok (.lcmp, 1) := by decide +kernel
theorem dL_sinks_1172 : decode cL_sinks 1172 = .ok (.ifCond .ne 133, 3) := by decide +kernel
theorem dL_sinks_1175 : decode cL_sinks 1175 = .ok (.aload_n 0, 1) := by decide +kernel
theorem dL_sinks_1176 : decode cL_sinks 1176 = .ok (.bipush 87, 2) := by decide +kernel
theorem dL_sinks_1178 : decode cL_sinks 1178 = .ok (.iconst 2, 1) := by decide +kernel
theorem dL_sinks_1179 : decode cL_sinks 1179 = .ok (.newarray .int, 2) := by decide +kernel
theorem dL_sinks_1181 : decode cL_sinks 1181 = .ok (.dup, 1) := by decide +kernel
theorem dL_sinks_1182 : decode cL_sinks 1182 = .ok (.iconst 0, 1) := by decide +kernel
theorem dL_sinks_1183 : decode cL_sinks 1183 = .ok (.iconst 0, 1) := by decide +kernel
theorem dL_sinks_1184 : decode cL_sinks 1184 = .ok (.iastore, 1) := by decide +kernel
theorem dL_sinks_1185 : decode cL_sinks 1185 = .ok (.dup, 1) := by decide +kernel
theorem dL_sinks_1186 : decode cL_sinks 1186 = .ok (.iconst 1, 1) := by decide +kernel
theorem dL_sinks_1187 : decode cL_sinks 1187 = .ok (.iconst 0, 1) := by decide +kernel
theorem dL_sinks_1188 : decode cL_sinks 1188 = .ok (.iastore, 1) := by decide +kernel
theorem dL_sinks_1189 : decode cL_sinks 1189 = .ok (.invokestatic 185, 3) := by decide +kernel
theorem dL_sinks_1192 : decode cL_sinks 1192 = .ok (.ldc2_w 249, 3) := by decide +kernel
theorem dL_sinks_1195 : decode cL_sinks 1195 = .ok (.lcmp, 1) := by decide +kernel
theorem dL_sinks_1196 : decode cL_sinks 1196 = .ok (.ifCond .ne 109, 3) := by decide +kernel
theorem dL_sinks_1199 : decode cL_sinks 1199 = .ok (.aload_n 0, 1) := by decide +kernel
theorem dL_sinks_1200 : decode cL_sinks 1200 = .ok (.bipush 118, 2) := by decide +kernel
theorem dL_sinks_1202 : decode cL_sinks 1202 = .ok (.iconst 1, 1) := by decide +kernel
theorem dL_sinks_1203 : decode cL_sinks 1203 = .ok (.newarray .int, 2) := by decide +kernel
theorem dL_sinks_1205 : decode cL_sinks 1205 = .ok (.dup, 1) := by decide +kernel
theorem dL_sinks_1206 : decode cL_sinks 1206 = .ok (.iconst 0, 1) := by decide +kernel
theorem dL_sinks_1207 : decode cL_sinks 1207 = .ok (.iconst 0, 1) := by decide +kernel
theorem dL_sinks_1208 : decode cL_sinks 1208 = .ok (.iastore, 1) := by decide +kernel
theorem dL_sinks_1209 : decode cL_sinks 1209 = .ok (.invokestatic 185, 3) := by decide +kernel
theorem dL_sinks_1212 : decode cL_sinks 1212 = .ok (.ldc2_w 265, 3) := by decide +kernel
theorem dL_sinks_1215 : decode cL_sinks 1215 = .ok (.lcmp, 1) := by decide +kernel
theorem dL_sinks_1216 : decode cL_sinks 1216 = .ok (.ifCond .ne 89, 3) := by decide +kernel
theorem dL_sinks_1219 : decode cL_sinks 1219 = .ok (.aload_n 0, 1) := by decide +kernel
theorem dL_sinks_1220 : decode cL_sinks 1220 = .ok (.bipush 104, 2) := by decide +kernel
theorem dL_sinks_1222 : decode cL_sinks 1222 = .ok (.iconst 1, 1) := by decide +kernel
theorem dL_sinks_1223 : decode cL_sinks 1223 = .ok (.newarray .int, 2) := by decide +kernel
theorem dL_sinks_1225 : decode cL_sinks 1225 = .ok (.dup, 1) := by decide +kernel
theorem dL_sinks_1226 : decode cL_sinks 1226 = .ok (.iconst 0, 1) := by decide +kernel
theorem dL_sinks_1227 : decode cL_sinks 1227 = .ok (.iconst 0, 1) := by decide +kernel
theorem dL_sinks_1228 : decode cL_sinks 1228 = .ok (.iastore, 1) := by decide +kernel
theorem dL_sinks_1229 : decode cL_sinks 1229 = .ok (.invokestatic 185, 3) := by decide +kernel
theorem dL_sinks_1232 : decode cL_sinks 1232 = .ok (.ldc2_w 225, 3) := by decide +kernel
theorem dL_sinks_1235 : decode cL_sinks 1235 = .ok (.lcmp, 1) := by decide +kernel
theorem dL_sinks_1236 : decode cL_sinks 1236 = .ok (.ifCond .ne 69, 3) := by decide +kernel
theorem dL_sinks_1239 : decode cL_sinks 1239 = .ok (.aload_n 0, 1) := by decide +kernel
theorem dL_sinks_1240 : decode cL_sinks 1240 = .ok (.bipush 83, 2) := by decide +kernel
theorem dL_sinks_1242 : decode cL_sinks 1242 = .ok (.iconst 2, 1) := by decide +kernel
theorem dL_sinks_1243 : decode cL_sinks 1243 = .ok (.newarray .int, 2) := by decide +kernel
theorem dL_sinks_1245 : decode cL_sinks 1245 = .ok (.dup, 1) := by decide +kernel
theorem dL_sinks_1246 : decode cL_sinks 1246 = .ok (.iconst 0, 1) := by decide +kernel
theorem dL_sinks_1247 : decode cL_sinks 1247 = .ok (.iconst 0, 1) := by decide +kernel
theorem dL_sinks_1248 : decode cL_sinks 1248 = .ok (.iastore, 1) := by decide +kernel
theorem dL_sinks_1249 : decode cL_sinks 1249 = .ok (.dup, 1) := by decide +kernel
theorem dL_sinks_1250 : decode cL_sinks 1250 = .ok (.iconst 1, 1) := by decide +kernel
theorem dL_sinks_1251 : decode cL_sinks 1251 = .ok (.iconst 0, 1) := by decide +kernel
theorem dL_sinks_1252 : decode cL_sinks 1252 = .ok (.iastore, 1) := by decide +kernel
theorem dL_sinks_1253 : decode cL_sinks 1253 = .ok (.invokestatic 185, 3) := by decide +kernel
theorem dL_sinks_1256 : decode cL_sinks 1256 = .ok (.ldc2_w 91, 3) := by decide +kernel
theorem dL_sinks_1259 : decode cL_sinks 1259 = .ok (.lcmp, 1) := by decide +kernel
theorem dL_sinks_1260 : decode cL_sinks 1260 = .ok (.ifCond .ne 45, 3) := by decide +kernel
theorem dL_sinks_1263 : decode cL_sinks 1263 = .ok (.aload_n 0, 1) := by decide +kernel
theorem dL_sinks_1264 : decode cL_sinks 1264 = .ok (.bipush 109, 2) := by decide +kernel
theorem dL_sinks_1266 : decode cL_sinks 1266 = .ok (.iconst 2, 1) := by decide +kernel
theorem dL_sinks_1267 : decode cL_sinks 1267 = .ok (.newarray .int, 2) := by decide +kernel
theorem dL_sinks_1269 : decode cL_sinks 1269 = .ok (.dup, 1) := by decide +kernel
theorem dL_sinks_1270 : decode cL_sinks 1270 = .ok (.iconst 0, 1) := by decide +kernel
theorem dL_sinks_1271 : decode cL_sinks 1271 = .ok (.iconst 0, 1) := by decide +kernel
theorem dL_sinks_1272 : decode cL_sinks 1272 = .ok (.iastore, 1) := by decide +kernel
theorem dL_sinks_1273 : decode cL_sinks 1273 = .ok (.dup, 1) := by decide +kernel
theorem dL_sinks_1274 : decode cL_sinks 1274 = .ok (.iconst 1, 1) := by decide +kernel
theorem dL_sinks_1275 : decode cL_sinks 1275 = .ok (.iconst 0, 1) := by decide +kernel
theorem dL_sinks_1276 : decode cL_sinks 1276 = .ok (.iastore, 1) := by decide +kernel
theorem dL_sinks_1277 : decode cL_sinks 1277 = .ok (.invokestatic 185, 3) := by decide +kernel
theorem dL_sinks_1280 : decode cL_sinks 1280 = .ok (.lconst 1, 1) := by decide +kernel
theorem dL_sinks_1281 : decode cL_sinks 1281 = .ok (.lcmp, 1) := by decide +kernel
theorem dL_sinks_1282 : decode cL_sinks 1282 = .ok (.ifCond .ne 23, 3) := by decide +kernel
theorem dL_sinks_1285 : decode cL_sinks 1285 = .ok (.aload_n 0, 1) := by decide +kernel
theorem dL_sinks_1286 : decode cL_sinks 1286 = .ok (.invokevirtual 178, 3) := by decide +kernel
theorem dL_sinks_1289 : decode cL_sinks 1289 = .ok (.lconst 0, 1) := by decide +kernel
theorem dL_sinks_1290 : decode cL_sinks 1290 = .ok (.lcmp, 1) := by decide +kernel
theorem dL_sinks_1291 : decode cL_sinks 1291 = .ok (.ifCond .ne 14, 3) := by decide +kernel
theorem dL_sinks_1294 : decode cL_sinks 1294 = .ok (.aload_n 0, 1) := by decide +kernel
theorem dL_sinks_1295 : decode cL_sinks 1295 = .ok (.invokevirtual 181, 3) := by decide +kernel
theorem dL_sinks_1298 : decode cL_sinks 1298 = .ok (.ifCond .eq 7, 3) := by decide +kernel
theorem dL_sinks_1301 : decode cL_sinks 1301 = .ok (.iconst 1, 1) := by decide +kernel
theorem dL_sinks_1302 : decode cL_sinks 1302 = .ok (.goto 4, 3) := by decide +kernel
theorem dL_sinks_1305 : decode cL_sinks 1305 = .ok (.iconst 0, 1) := by decide +kernel
theorem dL_sinks_1306 : decode cL_sinks 1306 = .ok (.ireturn, 1) := by decide +kernel
theorem dL_cracks_0 : decode cL_cracks 0 = .ok (.new 8, 3) := by decide +kernel
theorem dL_cracks_3 : decode cL_cracks 3 = .ok (.dup, 1) := by decide +kernel
theorem dL_cracks_4 : decode cL_cracks 4 = .ok (.invokespecial 167, 3) := by decide +kernel
theorem dL_cracks_7 : decode cL_cracks 7 = .ok (.astore_n 0, 1) := by decide +kernel
theorem dL_cracks_8 : decode cL_cracks 8 = .ok (.aload_n 0, 1) := by decide +kernel
theorem dL_cracks_9 : decode cL_cracks 9 = .ok (.bipush 75, 2) := by decide +kernel
theorem dL_cracks_11 : decode cL_cracks 11 = .ok (.iconst 1, 1) := by decide +kernel
theorem dL_cracks_12 : decode cL_cracks 12 = .ok (.newarray .int, 2) := by decide +kernel
theorem dL_cracks_14 : decode cL_cracks 14 = .ok (.dup, 1) := by decide +kernel
theorem dL_cracks_15 : decode cL_cracks 15 = .ok (.iconst 0, 1) := by decide +kernel
theorem dL_cracks_16 : decode cL_cracks 16 = .ok (.bipush 115, 2) := by decide +kernel
theorem dL_cracks_18 : decode cL_cracks 18 = .ok (.iastore, 1) := by decide +kernel
theorem dL_cracks_19 : decode cL_cracks 19 = .ok (.invokestatic 185, 3) := by decide +kernel
theorem dL_cracks_22 : decode cL_cracks 22 = .ok (.lconst 0, 1) := by decide +kernel
theorem dL_cracks_23 : decode cL_cracks 23 = .ok (.lcmp, 1) := by decide +kernel
theorem dL_cracks_24 : decode cL_cracks 24 = .ok (.ifCond .ne 406, 3) := by decide +kernel
theorem dL_cracks_27 : decode cL_cracks 27 = .ok (.aload_n 0, 1) := by decide +kernel
theorem dL_cracks_28 : decode cL_cracks 28 = .ok (.bipush 76, 2) := by decide +kernel
theorem dL_cracks_30 : decode cL_cracks 30 = .ok (.iconst 3, 1) := by decide +kernel
theorem dL_cracks_31 : decode cL_cracks 31 = .ok (.newarray .int, 2) := by decide +kernel
theorem dL_cracks_33 : decode cL_cracks 33 = .ok (.dup, 1) := by decide +kernel
theorem dL_cracks_34 : decode cL_cracks 34 = .ok (.iconst 0, 1) := by decide +kernel
theorem dL_cracks_35 : decode cL_cracks 35 = .ok (.iconst 0, 1) := by decide +kernel
theorem dL_cracks_36 : decode cL_cracks 36 = .ok (.iastore, 1) := by decide +kernel
theorem dL_cracks_37 : decode cL_cracks 37 = .ok (.dup, 1) := by decide +kernel
theorem dL_cracks_38 : decode cL_cracks 38 = .ok (.iconst 1, 1) := by decide +kernel
theorem dL_cracks_39 : decode cL_cracks 39 = .ok (.bipush 99, 2) := by decide +kernel
theorem dL_cracks_41 : decode cL_cracks 41 = .ok (.iastore, 1) := by decide +kernel
theorem dL_cracks_42 : decode cL_cracks 42 = .ok (.dup, 1) := by decide +kernel
theorem dL_cracks_43 : decode cL_cracks 43 = .ok (.iconst 2, 1) := by decide +kernel
theorem dL_cracks_44 : decode cL_cracks 44 = .ok (.bipush 100, 2) := by decide +kernel
theorem dL_cracks_46 : decode cL_cracks 46 = .ok (.iastore, 1) := by decide +kernel
theorem dL_cracks_47 : decode cL_cracks 47 = .ok (.invokestatic 185, 3) := by decide +kernel
theorem dL_cracks_50 : decode cL_cracks 50 = .ok (.lconst 1, 1) := by decide +kernel
theorem dL_cracks_51 : decode cL_cracks 51 = .ok (.lcmp, 1) := by decide +kernel
theorem dL_cracks_52 : decode cL_cracks 52 = .ok (.ifCond .ne 378, 3) := by decide +kernel
theorem dL_cracks_55 : decode cL_cracks 55 = .ok (.aload_n 0, 1) := by decide +kernel
theorem dL_cracks_56 : decode cL_cracks 56 = .ok (.bipush 76, 2) := by decide +kernel
theorem dL_cracks_58 : decode cL_cracks 58 = .ok (.iconst 3, 1) := by decide +kernel
theorem dL_cracks_59 : decode cL_cracks 59 = .ok (.newarray .int, 2) := by decide +kernel
theorem dL_cracks_61 : decode cL_cracks 61 = .ok (.dup, 1) := by decide +kernel
theorem dL_cracks_62 : decode cL_cracks 62 = .ok (.iconst 0, 1) := by decide +kernel
theorem dL_cracks_63 : decode cL_cracks 63 = .ok (.iconst 0, 1) := by decide +kernel
theorem dL_cracks_64 : decode cL_cracks 64 = .ok (.iastore, 1) := by decide +kernel
theorem dL_cracks_65 : decode cL_cracks 65 = .ok (.dup, 1) := by decide +kernel
theorem dL_cracks_66 : decode cL_cracks 66 = .ok (.iconst 1, 1) := by decide +kernel
theorem dL_cracks_67 : decode cL_cracks 67 = .ok (.bipush 99, 2) := by decide +kernel
theorem dL_cracks_69 : decode cL_cracks 69 = .ok (.iastore, 1) := by decide +kernel
theorem dL_cracks_70 : decode cL_cracks 70 = .ok (.dup, 1) := by decide +kernel
theorem dL_cracks_71 : decode cL_cracks 71 = .ok (.iconst 2, 1) := by decide +kernel
theorem dL_cracks_72 : decode cL_cracks 72 = .ok (.bipush 100, 2) := by decide +kernel
theorem dL_cracks_74 : decode cL_cracks 74 = .ok (.iastore, 1) := by decide +kernel
theorem dL_cracks_75 : decode cL_cracks 75 = .ok (.invokestatic 185, 3) := by decide +kernel
theorem dL_cracks_78 : decode cL_cracks 78 = .ok (.ldc2_w 225, 3) := by decide +kernel
theorem dL_cracks_81 : decode cL_cracks 81 = .ok (.lcmp, 1) := by decide +kernel
theorem dL_cracks_82 : decode cL_cracks 82 = .ok (.ifCond .ne 348, 3) := by decide +kernel
theorem dL_cracks_85 : decode cL_cracks 85 = .ok (.aload_n 0, 1) := by decide +kernel
theorem dL_cracks_86 : decode cL_cracks 86 = .ok (.bipush 76, 2) := by decide +kernel
theorem dL_cracks_88 : decode cL_cracks 88 = .ok (.iconst 3, 1) := by decide +kernel
theorem dL_cracks_89 : decode cL_cracks 89 = .ok (.newarray .int, 2) := by decide +kernel
theorem dL_cracks_91 : decode cL_cracks 91 = .ok (.dup, 1) := by decide +kernel
theorem dL_cracks_92 : decode cL_cracks 92 = .ok (.iconst 0, 1) := by decide +kernel
theorem dL_cracks_93 : decode cL_cracks 93 = .ok (.iconst 0, 1) := by decide +kernel
theorem dL_cracks_94 : decode cL_cracks 94 = .ok (.iastore, 1) := by decide +kernel
theorem dL_cracks_95 : decode cL_cracks 95 = .ok (.dup, 1) := by decide +kernel
theorem dL_cracks_96 : decode cL_cracks 96 = .ok (.iconst 1, 1) := by decide +kernel
theorem dL_cracks_97 : decode cL_cracks 97 = .ok (.bipush 115, 2) := by decide +kernel
theorem dL_cracks_99 : decode cL_cracks 99 = .ok (.iastore, 1) := by decide +kernel
theorem dL_cracks_100 : decode cL_cracks 100 = .ok (.dup, 1) := by decide +kernel
theorem dL_cracks_101 : decode cL_cracks 101 = .ok (.iconst 2, 1) := by decide +kernel
theorem dL_cracks_102 : decode cL_cracks 102 = .ok (.bipush 100, 2) := by decide +kernel
theorem dL_cracks_104 : decode cL_cracks 104 = .ok (.iastore, 1) := by decide +kernel
theorem dL_cracks_105 : decode cL_cracks 105 = .ok (.invokestatic 185, 3) := by decide +kernel
theorem dL_cracks_108 : decode cL_cracks 108 = .ok (.ldc2_w 259, 3) := by decide +kernel
theorem dL_cracks_111 : decode cL_cracks 111 = .ok (.lcmp, 1) := by decide +kernel
theorem dL_cracks_112 : decode cL_cracks 112 = .ok (.ifCond .ne 318, 3) := by decide +kernel
theorem dL_cracks_115 : decode cL_cracks 115 = .ok (.aload_n 0, 1) := by decide +kernel
theorem dL_cracks_116 : decode cL_cracks 116 = .ok (.bipush 99, 2) := by decide +kernel
theorem dL_cracks_118 : decode cL_cracks 118 = .ok (.iconst 1, 1) := by decide +kernel
theorem dL_cracks_119 : decode cL_cracks 119 = .ok (.newarray .int, 2) := by decide +kernel
theorem dL_cracks_121 : decode cL_cracks 121 = .ok (.dup, 1) := by decide +kernel
theorem dL_cracks_122 : decode cL_cracks 122 = .ok (.iconst 0, 1) := by decide +kernel
theorem dL_cracks_123 : decode cL_cracks 123 = .ok (.iconst 0, 1) := by decide +kernel
theorem dL_cracks_124 : decode cL_cracks 124 = .ok (.iastore, 1) := by decide +kernel
theorem dL_cracks_125 : decode cL_cracks 125 = .ok (.invokestatic 185, 3) := by decide +kernel
theorem dL_cracks_128 : decode cL_cracks 128 = .ok (.lconst 0, 1) := by decide +kernel
theorem dL_cracks_129 : decode cL_cracks 129 = .ok (.lcmp, 1) := by decide +kernel
theorem dL_cracks_130 : decode cL_cracks 130 = .ok (.ifCond .ne 300, 3) := by decide +kernel
theorem dL_cracks_133 : decode cL_cracks 133 = .ok (.aload_n 0, 1) := by decide +kernel
theorem dL_cracks_134 : decode cL_cracks 134 = .ok (.bipush 119, 2) := by decide +kernel
theorem dL_cracks_136 : decode cL_cracks 136 = .ok (.iconst 3, 1) := by decide +kernel
theorem dL_cracks_137 : decode cL_cracks 137 = .ok (.newarray .int, 2) := by decide +kernel
theorem dL_cracks_139 : decode cL_cracks 139 = .ok (.dup, 1) := by decide +kernel
theorem dL_cracks_140 : decode cL_cracks 140 = .ok (.iconst 0, 1) := by decide +kernel
theorem dL_cracks_141 : decode cL_cracks 141 = .ok (.iconst 0, 1) := by decide +kernel
theorem dL_cracks_142 : decode cL_cracks 142 = .ok (.iastore, 1) := by decide +kernel
theorem dL_cracks_143 : decode cL_cracks 143 = .ok (.dup, 1) := by decide +kernel
theorem dL_cracks_144 : decode cL_cracks 144 = .ok (.iconst 1, 1) := by decide +kernel
theorem dL_cracks_145 : decode cL_cracks 145 = .ok (.iconst 0, 1) := by decide +kernel
theorem dL_cracks_146 : decode cL_cracks 146 = .ok (.iastore, 1) := by decide +kernel
theorem dL_cracks_147 : decode cL_cracks 147 = .ok (.dup, 1) := by decide +kernel
theorem dL_cracks_148 : decode cL_cracks 148 = .ok (.iconst 2, 1) := by decide +kernel
theorem dL_cracks_149 : decode cL_cracks 149 = .ok (.sipush 304, 3) := by decide +kernel
theorem dL_cracks_152 : decode cL_cracks 152 = .ok (.iastore, 1) := by decide +kernel
theorem dL_cracks_153 : decode cL_cracks 153 = .ok (.invokestatic 185, 3) := by decide +kernel
theorem dL_cracks_156 : decode cL_cracks 156 = .ok (.ldc2_w 267, 3) := by decide +kernel
theorem dL_cracks_159 : decode cL_cracks 159 = .ok (.lcmp, 1) := by decide +kernel
theorem dL_cracks_160 : decode cL_cracks 160 = .ok (.ifCond .ne 270, 3) := by decide +kernel
theorem dL_cracks_163 : decode cL_cracks 163 = .ok (.aload_n 0, 1) := by decide +kernel
theorem dL_cracks_164 : decode cL_cracks 164 = .ok (.bipush 99, 2) := by decide +kernel
theorem dL_cracks_166 : decode cL_cracks 166 = .ok (.iconst 1, 1) := by decide +kernel
theorem dL_cracks_167 : decode cL_cracks 167 = .ok (.newarray .int, 2) := by decide +kernel
theorem dL_cracks_169 : decode cL_cracks 169 = .ok (.dup, 1) := by decide +kernel
theorem dL_cracks_170 : decode cL_cracks 170 = .ok (.iconst 0, 1) := by decide +kernel
theorem dL_cracks_171 : decode cL_cracks 171 = .ok (.iconst 0, 1) := by decide +kernel
theorem dL_cracks_172 : decode cL_cracks 172 = .ok (.iastore, 1) := by decide +kernel
theorem dL_cracks_173 : decode cL_cracks 173 = .ok (.invokestatic 185, 3) := by decide +kernel
theorem dL_cracks_176 : decode cL_cracks 176 = .ok (.lconst 0, 1) := by decide +kernel
theorem dL_cracks_177 : decode cL_cracks 177 = .ok (.lcmp, 1) := by decide +kernel
theorem dL_cracks_178 : decode cL_cracks 178 = .ok (.ifCond .ne 252, 3) := by decide +kernel
theorem dL_cracks_181 : decode cL_cracks 181 = .ok (.aload_n 0, 1) := by decide +kernel
theorem dL_cracks_182 : decode cL_cracks 182 = .ok (.bipush 119, 2) := by decide +kernel
theorem dL_cracks_184 : decode cL_cracks 184 = .ok (.iconst 3, 1) := by decide +kernel
theorem dL_cracks_185 : decode cL_cracks 185 = .ok (.newarray .int, 2) := by decide +kernel
theorem dL_cracks_187 : decode cL_cracks 187 = .ok (.dup, 1) := by decide +kernel
theorem dL_cracks_188 : decode cL_cracks 188 = .ok (.iconst 0, 1) := by decide +kernel
theorem dL_cracks_189 : decode cL_cracks 189 = .ok (.iconst 0, 1) := by decide +kernel
theorem dL_cracks_190 : decode cL_cracks 190 = .ok (.iastore, 1) := by decide +kernel
theorem dL_cracks_191 : decode cL_cracks 191 = .ok (.dup, 1) := by decide +kernel
theorem dL_cracks_192 : decode cL_cracks 192 = .ok (.iconst 1, 1) := by decide +kernel
theorem dL_cracks_193 : decode cL_cracks 193 = .ok (.iconst 0, 1) := by decide +kernel
theorem dL_cracks_194 : decode cL_cracks 194 = .ok (.iastore, 1) := by decide +kernel
theorem dL_cracks_195 : decode cL_cracks 195 = .ok (.dup, 1) := by decide +kernel
theorem dL_cracks_196 : decode cL_cracks 196 = .ok (.iconst 2, 1) := by decide +kernel
theorem dL_cracks_197 : decode cL_cracks 197 = .ok (.sipush 303, 3) := by decide +kernel
theorem dL_cracks_200 : decode cL_cracks 200 = .ok (.iastore, 1) := by decide +kernel
theorem dL_cracks_201 : decode cL_cracks 201 = .ok (.invokestatic 185, 3) := by decide +kernel
theorem dL_cracks_204 : decode cL_cracks 204 = .ok (.ldc2_w 269, 3) := by decide +kernel
theorem dL_cracks_207 : decode cL_cracks 207 = .ok (.lcmp, 1) := by decide +kernel
theorem dL_cracks_208 : decode cL_cracks 208 = .ok (.ifCond .ne 222, 3) := by decide +kernel
theorem dL_cracks_211 : decode cL_cracks 211 = .ok (.aload_n 0, 1) := by decide +kernel
theorem dL_cracks_212 : decode cL_cracks 212 = .ok (.bipush 99, 2) := by decide +kernel
theorem dL_cracks_214 : decode cL_cracks 214 = .ok (.iconst 1, 1) := by decide +kernel
theorem dL_cracks_215 : decode cL_cracks 215 = .ok (.newarray .int, 2) := by decide +kernel
theorem dL_cracks_217 : decode cL_cracks 217 = .ok (.dup, 1) := by decide +kernel
theorem dL_cracks_218 : decode cL_cracks 218 = .ok (.iconst 0, 1) := by decide +kernel
theorem dL_cracks_219 : decode cL_cracks 219 = .ok (.iconst 0, 1) := by decide +kernel
theorem dL_cracks_220 : decode cL_cracks 220 = .ok (.iastore, 1) := by decide +kernel
theorem dL_cracks_221 : decode cL_cracks 221 = .ok (.invokestatic 185, 3) := by decide +kernel
theorem dL_cracks_224 : decode cL_cracks 224 = .ok (.ldc2_w 271, 3) := by decide +kernel
theorem dL_cracks_227 : decode cL_cracks 227 = .ok (.lcmp, 1) := by decide +kernel
theorem dL_cracks_228 : decode cL_cracks 228 = .ok (.ifCond .ne 202, 3) := by decide +kernel
theorem dL_cracks_231 : decode cL_cracks 231 = .ok (.aload_n 0, 1) := by decide +kernel
theorem dL_cracks_232 : decode cL_cracks 232 = .ok (.bipush 119, 2) := by decide +kernel
theorem dL_cracks_234 : decode cL_cracks 234 = .ok (.iconst 3, 1) := by decide +kernel
theorem dL_cracks_235 : decode cL_cracks 235 = .ok (.newarray .int, 2) := by decide +kernel
theorem dL_cracks_237 : decode cL_cracks 237 = .ok (.dup, 1) := by decide +kernel
theorem dL_cracks_238 : decode cL_cracks 238 = .ok (.iconst 0, 1) := by decide +kernel
theorem dL_cracks_239 : decode cL_cracks 239 = .ok (.iconst 0, 1) := by decide +kernel
theorem dL_cracks_240 : decode cL_cracks 240 = .ok (.iastore, 1) := by decide +kernel
theorem dL_cracks_241 : decode cL_cracks 241 = .ok (.dup, 1) := by decide +kernel
theorem dL_cracks_242 : decode cL_cracks 242 = .ok (.iconst 1, 1) := by decide +kernel
theorem dL_cracks_243 : decode cL_cracks 243 = .ok (.iconst 1, 1) := by decide +kernel
theorem dL_cracks_244 : decode cL_cracks 244 = .ok (.iastore, 1) := by decide +kernel
theorem dL_cracks_245 : decode cL_cracks 245 = .ok (.dup, 1) := by decide +kernel
theorem dL_cracks_246 : decode cL_cracks 246 = .ok (.iconst 2, 1) := by decide +kernel
theorem dL_cracks_247 : decode cL_cracks 247 = .ok (.sipush 490, 3) := by decide +kernel
theorem dL_cracks_250 : decode cL_cracks 250 = .ok (.iastore, 1) := by decide +kernel
theorem dL_cracks_251 : decode cL_cracks 251 = .ok (.invokestatic 185, 3) := by decide +kernel
theorem dL_cracks_254 : decode cL_cracks 254 = .ok (.ldc2_w 267, 3) := by decide +kernel
theorem dL_cracks_257 : decode cL_cracks 257 = .ok (.lcmp, 1) := by decide +kernel
theorem dL_cracks_258 : decode cL_cracks 258 = .ok (.ifCond .ne 172, 3) := by decide +kernel
theorem dL_cracks_261 : decode cL_cracks 261 = .ok (.aload_n 0, 1) := by decide +kernel
theorem dL_cracks_262 : decode cL_cracks 262 = .ok (.bipush 99, 2) := by decide +kernel
theorem dL_cracks_264 : decode cL_cracks 264 = .ok (.iconst 1, 1) := by decide +kernel
theorem dL_cracks_265 : decode cL_cracks 265 = .ok (.newarray .int, 2) := by decide +kernel
theorem dL_cracks_267 : decode cL_cracks 267 = .ok (.dup, 1) := by decide +kernel
theorem dL_cracks_268 : decode cL_cracks 268 = .ok (.iconst 0, 1) := by decide +kernel
theorem dL_cracks_269 : decode cL_cracks 269 = .ok (.iconst 0, 1) := by decide +kernel
theorem dL_cracks_270 : decode cL_cracks 270 = .ok (.iastore, 1) := by decide +kernel
theorem dL_cracks_271 : decode cL_cracks 271 = .ok (.invokestatic 185, 3) := by decide +kernel
theorem dL_cracks_274 : decode cL_cracks 274 = .ok (.ldc2_w 188, 3) := by decide +kernel
theorem dL_cracks_277 : decode cL_cracks 277 = .ok (.lcmp, 1) := by decide +kernel
theorem dL_cracks_278 : decode cL_cracks 278 = .ok (.ifCond .ne 152, 3) := by decide +kernel
theorem dL_cracks_281 : decode cL_cracks 281 = .ok (.aload_n 0, 1) := by decide +kernel
theorem dL_cracks_282 : decode cL_cracks 282 = .ok (.bipush 119, 2) := by decide +kernel
theorem dL_cracks_284 : decode cL_cracks 284 = .ok (.iconst 3, 1) := by decide +kernel
theorem dL_cracks_285 : decode cL_cracks 285 = .ok (.newarray .int, 2) := by decide +kernel
theorem dL_cracks_287 : decode cL_cracks 287 = .ok (.dup, 1) := by decide +kernel
theorem dL_cracks_288 : decode cL_cracks 288 = .ok (.iconst 0, 1) := by decide +kernel
theorem dL_cracks_289 : decode cL_cracks 289 = .ok (.iconst 0, 1) := by decide +kernel
theorem dL_cracks_290 : decode cL_cracks 290 = .ok (.iastore, 1) := by decide +kernel
theorem dL_cracks_291 : decode cL_cracks 291 = .ok (.dup, 1) := by decide +kernel
theorem dL_cracks_292 : decode cL_cracks 292 = .ok (.iconst 1, 1) := by decide +kernel
theorem dL_cracks_293 : decode cL_cracks 293 = .ok (.iconst 1, 1) := by decide +kernel
theorem dL_cracks_294 : decode cL_cracks 294 = .ok (.iastore, 1) := by decide +kernel
theorem dL_cracks_295 : decode cL_cracks 295 = .ok (.dup, 1) := by decide +kernel
theorem dL_cracks_296 : decode cL_cracks 296 = .ok (.iconst 2, 1) := by decide +kernel
theorem dL_cracks_297 : decode cL_cracks 297 = .ok (.sipush 380, 3) := by decide +kernel
theorem dL_cracks_300 : decode cL_cracks 300 = .ok (.iastore, 1) := by decide +kernel
theorem dL_cracks_301 : decode cL_cracks 301 = .ok (.invokestatic 185, 3) := by decide +kernel
theorem dL_cracks_304 : decode cL_cracks 304 = .ok (.ldc2_w 273, 3) := by decide +kernel
theorem dL_cracks_307 : decode cL_cracks 307 = .ok (.lcmp, 1) := by decide +kernel
theorem dL_cracks_308 : decode cL_cracks 308 = .ok (.ifCond .ne 122, 3) := by decide +kernel
theorem dL_cracks_311 : decode cL_cracks 311 = .ok (.aload_n 0, 1) := by decide +kernel
theorem dL_cracks_312 : decode cL_cracks 312 = .ok (.bipush 84, 2) := by decide +kernel
theorem dL_cracks_314 : decode cL_cracks 314 = .ok (.iconst 3, 1) := by decide +kernel
theorem dL_cracks_315 : decode cL_cracks 315 = .ok (.newarray .int, 2) := by decide +kernel
theorem dL_cracks_317 : decode cL_cracks 317 = .ok (.dup, 1) := by decide +kernel
theorem dL_cracks_318 : decode cL_cracks 318 = .ok (.iconst 0, 1) := by decide +kernel
theorem dL_cracks_319 : decode cL_cracks 319 = .ok (.iconst 0, 1) := by decide +kernel
theorem dL_cracks_320 : decode cL_cracks 320 = .ok (.iastore, 1) := by decide +kernel
theorem dL_cracks_321 : decode cL_cracks 321 = .ok (.dup, 1) := by decide +kernel
theorem dL_cracks_322 : decode cL_cracks 322 = .ok (.iconst 1, 1) := by decide +kernel
theorem dL_cracks_323 : decode cL_cracks 323 = .ok (.bipush 12, 2) := by decide +kernel
theorem dL_cracks_325 : decode cL_cracks 325 = .ok (.iastore, 1) := by decide +kernel
theorem dL_cracks_326 : decode cL_cracks 326 = .ok (.dup, 1) := by decide +kernel
theorem dL_cracks_327 : decode cL_cracks 327 = .ok (.iconst 2, 1) := by decide +kernel
theorem dL_cracks_328 : decode cL_cracks 328 = .ok (.iconst 0, 1) := by decide +kernel
theorem dL_cracks_329 : decode cL_cracks 329 = .ok (.iastore, 1) := by decide +kernel
theorem dL_cracks_330 : decode cL_cracks 330 = .ok (.invokestatic 185, 3) := by decide +kernel
theorem dL_cracks_333 : decode cL_cracks 333 = .ok (.ldc2_w 188, 3) := by decide +kernel
theorem dL_cracks_336 : decode cL_cracks 336 = .ok (.lcmp, 1) := by decide +kernel
theorem dL_cracks_337 : decode cL_cracks 337 = .ok (.ifCond .ne 93, 3) := by decide +kernel
theorem dL_cracks_340 : decode cL_cracks 340 = .ok (.aload_n 0, 1) := by decide +kernel
theorem dL_cracks_341 : decode cL_cracks 341 = .ok (.bipush 72, 2) := by decide +kernel
theorem dL_cracks_343 : decode cL_cracks 343 = .ok (.iconst 1, 1) := by decide +kernel
theorem dL_cracks_344 : decode cL_cracks 344 = .ok (.newarray .int, 2) := by decide +kernel
theorem dL_cracks_346 : decode cL_cracks 346 = .ok (.dup, 1) := by decide +kernel
theorem dL_cracks_347 : decode cL_cracks 347 = .ok (.iconst 0, 1) := by decide +kernel
theorem dL_cracks_348 : decode cL_cracks 348 = .ok (.iconst 1, 1) := by decide +kernel
theorem dL_cracks_349 : decode cL_cracks 349 = .ok (.iastore, 1) := by decide +kernel
theorem dL_cracks_350 : decode cL_cracks 350 = .ok (.invokestatic 185, 3) := by decide +kernel
theorem dL_cracks_353 : decode cL_cracks 353 = .ok (.lconst 1, 1) := by decide +kernel
theorem dL_cracks_354 : decode cL_cracks 354 = .ok (.lcmp, 1) := by decide +kernel
theorem dL_cracks_355 : decode cL_cracks 355 = .ok (.ifCond .ne 75, 3) := by decide +kernel
theorem dL_cracks_358 : decode cL_cracks 358 = .ok (.aload_n 0, 1) := by decide +kernel
theorem dL_cracks_359 : decode cL_cracks 359 = .ok (.bipush 87, 2) := by decide +kernel
theorem dL_cracks_361 : decode cL_cracks 361 = .ok (.iconst 2, 1) := by decide +kernel
theorem dL_cracks_362 : decode cL_cracks 362 = .ok (.newarray .int, 2) := by decide +kernel
theorem dL_cracks_364 : decode cL_cracks 364 = .ok (.dup, 1) := by decide +kernel
theorem dL_cracks_365 : decode cL_cracks 365 = .ok (.iconst 0, 1) := by decide +kernel
theorem dL_cracks_366 : decode cL_cracks 366 = .ok (.iconst 0, 1) := by decide +kernel
theorem dL_cracks_367 : decode cL_cracks 367 = .ok (.iastore, 1) := by decide +kernel
theorem dL_cracks_368 : decode cL_cracks 368 = .ok (.dup, 1) := by decide +kernel
theorem dL_cracks_369 : decode cL_cracks 369 = .ok (.iconst 1, 1) := by decide +kernel
theorem dL_cracks_370 : decode cL_cracks 370 = .ok (.iconst 0, 1) := by decide +kernel
theorem dL_cracks_371 : decode cL_cracks 371 = .ok (.iastore, 1) := by decide +kernel
theorem dL_cracks_372 : decode cL_cracks 372 = .ok (.invokestatic 185, 3) := by decide +kernel
theorem dL_cracks_375 : decode cL_cracks 375 = .ok (.ldc2_w 275, 3) := by decide +kernel
theorem dL_cracks_378 : decode cL_cracks 378 = .ok (.lcmp, 1) := by decide +kernel
theorem dL_cracks_379 : decode cL_cracks 379 = .ok (.ifCond .ne 51, 3) := by decide +kernel
theorem dL_cracks_382 : decode cL_cracks 382 = .ok (.aload_n 0, 1) := by decide +kernel
theorem dL_cracks_383 : decode cL_cracks 383 = .ok (.bipush 87, 2) := by decide +kernel
theorem dL_cracks_385 : decode cL_cracks 385 = .ok (.iconst 2, 1) := by decide +kernel
theorem dL_cracks_386 : decode cL_cracks 386 = .ok (.newarray .int, 2) := by decide +kernel
theorem dL_cracks_388 : decode cL_cracks 388 = .ok (.dup, 1) := by decide +kernel
theorem dL_cracks_389 : decode cL_cracks 389 = .ok (.iconst 0, 1) := by decide +kernel
theorem dL_cracks_390 : decode cL_cracks 390 = .ok (.iconst 0, 1) := by decide +kernel
theorem dL_cracks_391 : decode cL_cracks 391 = .ok (.iastore, 1) := by decide +kernel
theorem dL_cracks_392 : decode cL_cracks 392 = .ok (.dup, 1) := by decide +kernel
theorem dL_cracks_393 : decode cL_cracks 393 = .ok (.iconst 1, 1) := by decide +kernel
theorem dL_cracks_394 : decode cL_cracks 394 = .ok (.iconst 1, 1) := by decide +kernel
theorem dL_cracks_395 : decode cL_cracks 395 = .ok (.iastore, 1) := by decide +kernel
theorem dL_cracks_396 : decode cL_cracks 396 = .ok (.invokestatic 185, 3) := by decide +kernel
theorem dL_cracks_399 : decode cL_cracks 399 = .ok (.ldc2_w 277, 3) := by decide +kernel
theorem dL_cracks_402 : decode cL_cracks 402 = .ok (.lcmp, 1) := by decide +kernel
theorem dL_cracks_403 : decode cL_cracks 403 = .ok (.ifCond .ne 27, 3) := by decide +kernel
theorem dL_cracks_406 : decode cL_cracks 406 = .ok (.aload_n 0, 1) := by decide +kernel
theorem dL_cracks_407 : decode cL_cracks 407 = .ok (.bipush 87, 2) := by decide +kernel
theorem dL_cracks_409 : decode cL_cracks 409 = .ok (.iconst 2, 1) := by decide +kernel
theorem dL_cracks_410 : decode cL_cracks 410 = .ok (.newarray .int, 2) := by decide +kernel
theorem dL_cracks_412 : decode cL_cracks 412 = .ok (.dup, 1) := by decide +kernel
theorem dL_cracks_413 : decode cL_cracks 413 = .ok (.iconst 0, 1) := by decide +kernel
theorem dL_cracks_414 : decode cL_cracks 414 = .ok (.iconst 0, 1) := by decide +kernel
theorem dL_cracks_415 : decode cL_cracks 415 = .ok (.iastore, 1) := by decide +kernel
theorem dL_cracks_416 : decode cL_cracks 416 = .ok (.dup, 1) := by decide +kernel
theorem dL_cracks_417 : decode cL_cracks 417 = .ok (.iconst 1, 1) := by decide +kernel
theorem dL_cracks_418 : decode cL_cracks 418 = .ok (.iconst 2, 1) := by decide +kernel
theorem dL_cracks_419 : decode cL_cracks 419 = .ok (.iastore, 1) := by decide +kernel
theorem dL_cracks_420 : decode cL_cracks 420 = .ok (.invokestatic 185, 3) := by decide +kernel
theorem dL_cracks_423 : decode cL_cracks 423 = .ok (.ldc2_w 279, 3) := by decide +kernel
theorem dL_cracks_426 : decode cL_cracks 426 = .ok (.lcmp, 1) := by decide +kernel
theorem dL_cracks_427 : decode cL_cracks 427 = .ok (.ifCond .eq 5, 3) := by decide +kernel
theorem dL_cracks_430 : decode cL_cracks 430 = .ok (.iconst 0, 1) := by decide +kernel
theorem dL_cracks_431 : decode cL_cracks 431 = .ok (.ireturn, 1) := by decide +kernel
theorem dL_cracks_432 : decode cL_cracks 432 = .ok (.aload_n 0, 1) := by decide +kernel
theorem dL_cracks_433 : decode cL_cracks 433 = .ok (.bipush 119, 2) := by decide +kernel
theorem dL_cracks_435 : decode cL_cracks 435 = .ok (.iconst 3, 1) := by decide +kernel
theorem dL_cracks_436 : decode cL_cracks 436 = .ok (.newarray .int, 2) := by decide +kernel
theorem dL_cracks_438 : decode cL_cracks 438 = .ok (.dup, 1) := by decide +kernel
theorem dL_cracks_439 : decode cL_cracks 439 = .ok (.iconst 0, 1) := by decide +kernel
theorem dL_cracks_440 : decode cL_cracks 440 = .ok (.iconst 0, 1) := by decide +kernel
theorem dL_cracks_441 : decode cL_cracks 441 = .ok (.iastore, 1) := by decide +kernel
theorem dL_cracks_442 : decode cL_cracks 442 = .ok (.dup, 1) := by decide +kernel
theorem dL_cracks_443 : decode cL_cracks 443 = .ok (.iconst 1, 1) := by decide +kernel
theorem dL_cracks_444 : decode cL_cracks 444 = .ok (.iconst 2, 1) := by decide +kernel
theorem dL_cracks_445 : decode cL_cracks 445 = .ok (.iastore, 1) := by decide +kernel
theorem dL_cracks_446 : decode cL_cracks 446 = .ok (.dup, 1) := by decide +kernel
theorem dL_cracks_447 : decode cL_cracks 447 = .ok (.iconst 2, 1) := by decide +kernel
theorem dL_cracks_448 : decode cL_cracks 448 = .ok (.sipush 350, 3) := by decide +kernel
theorem dL_cracks_451 : decode cL_cracks 451 = .ok (.iastore, 1) := by decide +kernel
theorem dL_cracks_452 : decode cL_cracks 452 = .ok (.invokestatic 185, 3) := by decide +kernel
theorem dL_cracks_455 : decode cL_cracks 455 = .ok (.ldc2_w 279, 3) := by decide +kernel
theorem dL_cracks_458 : decode cL_cracks 458 = .ok (.lcmp, 1) := by decide +kernel
theorem dL_cracks_459 : decode cL_cracks 459 = .ok (.ifCond .ne 192, 3) := by decide +kernel
theorem dL_cracks_462 : decode cL_cracks 462 = .ok (.aload_n 0, 1) := by decide +kernel
theorem dL_cracks_463 : decode cL_cracks 463 = .ok (.bipush 100, 2) := by decide +kernel
theorem dL_cracks_465 : decode cL_cracks 465 = .ok (.iconst 3, 1) := by decide +kernel
theorem dL_cracks_466 : decode cL_cracks 466 = .ok (.newarray .int, 2) := by decide +kernel
theorem dL_cracks_468 : decode cL_cracks 468 = .ok (.dup, 1) := by decide +kernel
theorem dL_cracks_469 : decode cL_cracks 469 = .ok (.iconst 0, 1) := by decide +kernel
theorem dL_cracks_470 : decode cL_cracks 470 = .ok (.iconst 0, 1) := by decide +kernel
theorem dL_cracks_471 : decode cL_cracks 471 = .ok (.iastore, 1) := by decide +kernel
theorem dL_cracks_472 : decode cL_cracks 472 = .ok (.dup, 1) := by decide +kernel
theorem dL_cracks_473 : decode cL_cracks 473 = .ok (.iconst 1, 1) := by decide +kernel
theorem dL_cracks_474 : decode cL_cracks 474 = .ok (.bipush 110, 2) := by decide +kernel
theorem dL_cracks_476 : decode cL_cracks 476 = .ok (.iastore, 1) := by decide +kernel
theorem dL_cracks_477 : decode cL_cracks 477 = .ok (.dup, 1) := by decide +kernel
theorem dL_cracks_478 : decode cL_cracks 478 = .ok (.iconst 2, 1) := by decide +kernel
theorem dL_cracks_479 : decode cL_cracks 479 = .ok (.sipush 1000, 3) := by decide +kernel
theorem dL_cracks_482 : decode cL_cracks 482 = .ok (.iastore, 1) := by decide +kernel
theorem dL_cracks_483 : decode cL_cracks 483 = .ok (.invokestatic 185, 3) := by decide +kernel
theorem dL_cracks_486 : decode cL_cracks 486 = .ok (.ldc2_w 243, 3) := by decide +kernel
theorem dL_cracks_489 : decode cL_cracks 489 = .ok (.lcmp, 1) := by decide +kernel
theorem dL_cracks_490 : decode cL_cracks 490 = .ok (.ifCond .ne 161, 3) := by decide +kernel
theorem dL_cracks_493 : decode cL_cracks 493 = .ok (.aload_n 0, 1) := by decide +kernel
theorem dL_cracks_494 : decode cL_cracks 494 = .ok (.bipush 77, 2) := by decide +kernel
theorem dL_cracks_496 : decode cL_cracks 496 = .ok (.iconst 2, 1) := by decide +kernel
theorem dL_cracks_497 : decode cL_cracks 497 = .ok (.newarray .int, 2) := by decide +kernel
theorem dL_cracks_499 : decode cL_cracks 499 = .ok (.dup, 1) := by decide +kernel
theorem dL_cracks_500 : decode cL_cracks 500 = .ok (.iconst 0, 1) := by decide +kernel
theorem dL_cracks_501 : decode cL_cracks 501 = .ok (.iconst 0, 1) := by decide +kernel
theorem dL_cracks_502 : decode cL_cracks 502 = .ok (.iastore, 1) := by decide +kernel
theorem dL_cracks_503 : decode cL_cracks 503 = .ok (.dup, 1) := by decide +kernel
theorem dL_cracks_504 : decode cL_cracks 504 = .ok (.iconst 1, 1) := by decide +kernel
theorem dL_cracks_505 : decode cL_cracks 505 = .ok (.sipush 5000, 3) := by decide +kernel
theorem dL_cracks_508 : decode cL_cracks 508 = .ok (.iastore, 1) := by decide +kernel
theorem dL_cracks_509 : decode cL_cracks 509 = .ok (.invokestatic 185, 3) := by decide +kernel
theorem dL_cracks_512 : decode cL_cracks 512 = .ok (.ldc2_w 281, 3) := by decide +kernel
theorem dL_cracks_515 : decode cL_cracks 515 = .ok (.lcmp, 1) := by decide +kernel
theorem dL_cracks_516 : decode cL_cracks 516 = .ok (.ifCond .ne 135, 3) := by decide +kernel
theorem dL_cracks_519 : decode cL_cracks 519 = .ok (.aload_n 0, 1) := by decide +kernel
theorem dL_cracks_520 : decode cL_cracks 520 = .ok (.bipush 84, 2) := by decide +kernel
theorem dL_cracks_522 : decode cL_cracks 522 = .ok (.iconst 3, 1) := by decide +kernel
theorem dL_cracks_523 : decode cL_cracks 523 = .ok (.newarray .int, 2) := by decide +kernel
theorem dL_cracks_525 : decode cL_cracks 525 = .ok (.dup, 1) := by decide +kernel
theorem dL_cracks_526 : decode cL_cracks 526 = .ok (.iconst 0, 1) := by decide +kernel
theorem dL_cracks_527 : decode cL_cracks 527 = .ok (.bipush 20, 2) := by decide +kernel
theorem dL_cracks_529 : decode cL_cracks 529 = .ok (.iastore, 1) := by decide +kernel
theorem dL_cracks_530 : decode cL_cracks 530 = .ok (.dup, 1) := by decide +kernel
theorem dL_cracks_531 : decode cL_cracks 531 = .ok (.iconst 1, 1) := by decide +kernel
theorem dL_cracks_532 : decode cL_cracks 532 = .ok (.iconst 0, 1) := by decide +kernel
theorem dL_cracks_533 : decode cL_cracks 533 = .ok (.iastore, 1) := by decide +kernel
theorem dL_cracks_534 : decode cL_cracks 534 = .ok (.dup, 1) := by decide +kernel
theorem dL_cracks_535 : decode cL_cracks 535 = .ok (.iconst 2, 1) := by decide +kernel
theorem dL_cracks_536 : decode cL_cracks 536 = .ok (.iconst 0, 1) := by decide +kernel
theorem dL_cracks_537 : decode cL_cracks 537 = .ok (.iastore, 1) := by decide +kernel
theorem dL_cracks_538 : decode cL_cracks 538 = .ok (.invokestatic 185, 3) := by decide +kernel
theorem dL_cracks_541 : decode cL_cracks 541 = .ok (.lconst 0, 1) := by decide +kernel
theorem dL_cracks_542 : decode cL_cracks 542 = .ok (.lcmp, 1) := by decide +kernel
theorem dL_cracks_543 : decode cL_cracks 543 = .ok (.ifCond .ne 108, 3) := by decide +kernel
theorem dL_cracks_546 : decode cL_cracks 546 = .ok (.aload_n 0, 1) := by decide +kernel
theorem dL_cracks_547 : decode cL_cracks 547 = .ok (.bipush 106, 2) := by decide +kernel
theorem dL_cracks_549 : decode cL_cracks 549 = .ok (.iconst 2, 1) := by decide +kernel
theorem dL_cracks_550 : decode cL_cracks 550 = .ok (.newarray .int, 2) := by decide +kernel
theorem dL_cracks_552 : decode cL_cracks 552 = .ok (.dup, 1) := by decide +kernel
theorem dL_cracks_553 : decode cL_cracks 553 = .ok (.iconst 0, 1) := by decide +kernel
theorem dL_cracks_554 : decode cL_cracks 554 = .ok (.iconst 0, 1) := by decide +kernel
theorem dL_cracks_555 : decode cL_cracks 555 = .ok (.iastore, 1) := by decide +kernel
theorem dL_cracks_556 : decode cL_cracks 556 = .ok (.dup, 1) := by decide +kernel
theorem dL_cracks_557 : decode cL_cracks 557 = .ok (.iconst 1, 1) := by decide +kernel
theorem dL_cracks_558 : decode cL_cracks 558 = .ok (.bipush 7, 2) := by decide +kernel
theorem dL_cracks_560 : decode cL_cracks 560 = .ok (.iastore, 1) := by decide +kernel
theorem dL_cracks_561 : decode cL_cracks 561 = .ok (.invokestatic 185, 3) := by decide +kernel
theorem dL_cracks_564 : decode cL_cracks 564 = .ok (.ldc2_w 192, 3) := by decide +kernel
theorem dL_cracks_567 : decode cL_cracks 567 = .ok (.lcmp, 1) := by decide +kernel
theorem dL_cracks_568 : decode cL_cracks 568 = .ok (.ifCond .ne 83, 3) := by decide +kernel
theorem dL_cracks_571 : decode cL_cracks 571 = .ok (.aload_n 0, 1) := by decide +kernel
theorem dL_cracks_572 : decode cL_cracks 572 = .ok (.bipush 119, 2) := by decide +kernel
theorem dL_cracks_574 : decode cL_cracks 574 = .ok (.iconst 3, 1) := by decide +kernel
theorem dL_cracks_575 : decode cL_cracks 575 = .ok (.newarray .int, 2) := by decide +kernel
theorem dL_cracks_577 : decode cL_cracks 577 = .ok (.dup, 1) := by decide +kernel
theorem dL_cracks_578 : decode cL_cracks 578 = .ok (.iconst 0, 1) := by decide +kernel
theorem dL_cracks_579 : decode cL_cracks 579 = .ok (.iconst 0, 1) := by decide +kernel
theorem dL_cracks_580 : decode cL_cracks 580 = .ok (.iastore, 1) := by decide +kernel
theorem dL_cracks_581 : decode cL_cracks 581 = .ok (.dup, 1) := by decide +kernel
theorem dL_cracks_582 : decode cL_cracks 582 = .ok (.iconst 1, 1) := by decide +kernel
theorem dL_cracks_583 : decode cL_cracks 583 = .ok (.iconst 0, 1) := by decide +kernel
theorem dL_cracks_584 : decode cL_cracks 584 = .ok (.iastore, 1) := by decide +kernel
theorem dL_cracks_585 : decode cL_cracks 585 = .ok (.dup, 1) := by decide +kernel
theorem dL_cracks_586 : decode cL_cracks 586 = .ok (.iconst 2, 1) := by decide +kernel
theorem dL_cracks_587 : decode cL_cracks 587 = .ok (.sipush 450, 3) := by decide +kernel
theorem dL_cracks_590 : decode cL_cracks 590 = .ok (.iastore, 1) := by decide +kernel
theorem dL_cracks_591 : decode cL_cracks 591 = .ok (.invokestatic 185, 3) := by decide +kernel
theorem dL_cracks_594 : decode cL_cracks 594 = .ok (.ldc2_w 275, 3) := by decide +kernel
theorem dL_cracks_597 : decode cL_cracks 597 = .ok (.lcmp, 1) := by decide +kernel
theorem dL_cracks_598 : decode cL_cracks 598 = .ok (.ifCond .ne 53, 3) := by decide +kernel
theorem dL_cracks_601 : decode cL_cracks 601 = .ok (.aload_n 0, 1) := by decide +kernel
theorem dL_cracks_602 : decode cL_cracks 602 = .ok (.bipush 119, 2) := by decide +kernel
theorem dL_cracks_604 : decode cL_cracks 604 = .ok (.iconst 3, 1) := by decide +kernel
theorem dL_cracks_605 : decode cL_cracks 605 = .ok (.newarray .int, 2) := by decide +kernel
theorem dL_cracks_607 : decode cL_cracks 607 = .ok (.dup, 1) := by decide +kernel
theorem dL_cracks_608 : decode cL_cracks 608 = .ok (.iconst 0, 1) := by decide +kernel
theorem dL_cracks_609 : decode cL_cracks 609 = .ok (.iconst 0, 1) := by decide +kernel
theorem dL_cracks_610 : decode cL_cracks 610 = .ok (.iastore, 1) := by decide +kernel
theorem dL_cracks_611 : decode cL_cracks 611 = .ok (.dup, 1) := by decide +kernel
theorem dL_cracks_612 : decode cL_cracks 612 = .ok (.iconst 1, 1) := by decide +kernel
theorem dL_cracks_613 : decode cL_cracks 613 = .ok (.iconst 1, 1) := by decide +kernel
theorem dL_cracks_614 : decode cL_cracks 614 = .ok (.iastore, 1) := by decide +kernel
theorem dL_cracks_615 : decode cL_cracks 615 = .ok (.dup, 1) := by decide +kernel
theorem dL_cracks_616 : decode cL_cracks 616 = .ok (.iconst 2, 1) := by decide +kernel
theorem dL_cracks_617 : decode cL_cracks 617 = .ok (.sipush 380, 3) := by decide +kernel
theorem dL_cracks_620 : decode cL_cracks 620 = .ok (.iastore, 1) := by decide +kernel
theorem dL_cracks_621 : decode cL_cracks 621 = .ok (.invokestatic 185, 3) := by decide +kernel
theorem dL_cracks_624 : decode cL_cracks 624 = .ok (.ldc2_w 277, 3) := by decide +kernel
theorem dL_cracks_627 : decode cL_cracks 627 = .ok (.lcmp, 1) := by decide +kernel
theorem dL_cracks_628 : decode cL_cracks 628 = .ok (.ifCond .ne 23, 3) := by decide +kernel
theorem dL_cracks_631 : decode cL_cracks 631 = .ok (.aload_n 0, 1) := by decide +kernel
theorem dL_cracks_632 : decode cL_cracks 632 = .ok (.bipush 72, 2) := by decide +kernel
theorem dL_cracks_634 : decode cL_cracks 634 = .ok (.iconst 1, 1) := by decide +kernel
theorem dL_cracks_635 : decode cL_cracks 635 = .ok (.newarray .int, 2) := by decide +kernel
theorem dL_cracks_637 : decode cL_cracks 637 = .ok (.dup, 1) := by decide +kernel
theorem dL_cracks_638 : decode cL_cracks 638 = .ok (.iconst 0, 1) := by decide +kernel
theorem dL_cracks_639 : decode cL_cracks 639 = .ok (.iconst 1, 1) := by decide +kernel
theorem dL_cracks_640 : decode cL_cracks 640 = .ok (.iastore, 1) := by decide +kernel
theorem dL_cracks_641 : decode cL_cracks 641 = .ok (.invokestatic 185, 3) := by decide +kernel
theorem dL_cracks_644 : decode cL_cracks 644 = .ok (.ldc2_w 225, 3) := by decide +kernel
theorem dL_cracks_647 : decode cL_cracks 647 = .ok (.lcmp, 1) := by decide +kernel
theorem dL_cracks_648 : decode cL_cracks 648 = .ok (.ifCond .eq 5, 3) := by decide +kernel
theorem dL_cracks_651 : decode cL_cracks 651 = .ok (.iconst 0, 1) := by decide +kernel
theorem dL_cracks_652 : decode cL_cracks 652 = .ok (.ireturn, 1) := by decide +kernel
theorem dL_cracks_653 : decode cL_cracks 653 = .ok (.aload_n 0, 1) := by decide +kernel
theorem dL_cracks_654 : decode cL_cracks 654 = .ok (.bipush 87, 2) := by decide +kernel
theorem dL_cracks_656 : decode cL_cracks 656 = .ok (.iconst 2, 1) := by decide +kernel
theorem dL_cracks_657 : decode cL_cracks 657 = .ok (.newarray .int, 2) := by decide +kernel
theorem dL_cracks_659 : decode cL_cracks 659 = .ok (.dup, 1) := by decide +kernel
theorem dL_cracks_660 : decode cL_cracks 660 = .ok (.iconst 0, 1) := by decide +kernel
theorem dL_cracks_661 : decode cL_cracks 661 = .ok (.iconst 0, 1) := by decide +kernel
theorem dL_cracks_662 : decode cL_cracks 662 = .ok (.iastore, 1) := by decide +kernel
theorem dL_cracks_663 : decode cL_cracks 663 = .ok (.dup, 1) := by decide +kernel
theorem dL_cracks_664 : decode cL_cracks 664 = .ok (.iconst 1, 1) := by decide +kernel
theorem dL_cracks_665 : decode cL_cracks 665 = .ok (.iconst 0, 1) := by decide +kernel
theorem dL_cracks_666 : decode cL_cracks 666 = .ok (.iastore, 1) := by decide +kernel
theorem dL_cracks_667 : decode cL_cracks 667 = .ok (.invokestatic 185, 3) := by decide +kernel
theorem dL_cracks_670 : decode cL_cracks 670 = .ok (.ldc2_w 283, 3) := by decide +kernel
theorem dL_cracks_673 : decode cL_cracks 673 = .ok (.lcmp, 1) := by decide +kernel
theorem dL_cracks_674 : decode cL_cracks 674 = .ok (.ifCond .ne 141, 3) := by decide +kernel
theorem dL_cracks_677 : decode cL_cracks 677 = .ok (.aload_n 0, 1) := by decide +kernel
theorem dL_cracks_678 : decode cL_cracks 678 = .ok (.bipush 87, 2) := by decide +kernel
theorem dL_cracks_680 : decode cL_cracks 680 = .ok (.iconst 2, 1) := by decide +kernel
theorem dL_cracks_681 : decode cL_cracks 681 = .ok (.newarray .int, 2) := by decide +kernel
theorem dL_cracks_683 : decode cL_cracks 683 = .ok (.dup, 1) := by decide +kernel
theorem dL_cracks_684 : decode cL_cracks 684 = .ok (.iconst 0, 1) := by decide +kernel
theorem dL_cracks_685 : decode cL_cracks 685 = .ok (.iconst 0, 1) := by decide +kernel
theorem dL_cracks_686 : decode cL_cracks 686 = .ok (.iastore, 1) := by decide +kernel
theorem dL_cracks_687 : decode cL_cracks 687 = .ok (.dup, 1) := by decide +kernel
theorem dL_cracks_688 : decode cL_cracks 688 = .ok (.iconst 1, 1) := by decide +kernel
theorem dL_cracks_689 : decode cL_cracks 689 = .ok (.iconst 1, 1) := by decide +kernel
theorem dL_cracks_690 : decode cL_cracks 690 = .ok (.iastore, 1) := by decide +kernel
theorem dL_cracks_691 : decode cL_cracks 691 = .ok (.invokestatic 185, 3) := by decide +kernel
theorem dL_cracks_694 : decode cL_cracks 694 = .ok (.ldc2_w 285, 3) := by decide +kernel
theorem dL_cracks_697 : decode cL_cracks 697 = .ok (.lcmp, 1) := by decide +kernel
theorem dL_cracks_698 : decode cL_cracks 698 = .ok (.ifCond .ne 117, 3) := by decide +kernel
theorem dL_cracks_701 : decode cL_cracks 701 = .ok (.aload_n 0, 1) := by decide +kernel
theorem dL_cracks_702 : decode cL_cracks 702 = .ok (.bipush 111, 2) := by decide +kernel
theorem dL_cracks_704 : decode cL_cracks 704 = .ok (.iconst 3, 1) := by decide +kernel
theorem dL_cracks_705 : decode cL_cracks 705 = .ok (.newarray .int, 2) := by decide +kernel
theorem dL_cracks_707 : decode cL_cracks 707 = .ok (.dup, 1) := by decide +kernel
theorem dL_cracks_708 : decode cL_cracks 708 = .ok (.iconst 0, 1) := by decide +kernel
theorem dL_cracks_709 : decode cL_cracks 709 = .ok (.iconst 0, 1) := by decide +kernel
theorem dL_cracks_710 : decode cL_cracks 710 = .ok (.iastore, 1) := by decide +kernel
theorem dL_cracks_711 : decode cL_cracks 711 = .ok (.dup, 1) := by decide +kernel
theorem dL_cracks_712 : decode cL_cracks 712 = .ok (.iconst 1, 1) := by decide +kernel
theorem dL_cracks_713 : decode cL_cracks 713 = .ok (.iconst 1, 1) := by decide +kernel
theorem dL_cracks_714 : decode cL_cracks 714 = .ok (.iastore, 1) := by decide +kernel
theorem dL_cracks_715 : decode cL_cracks 715 = .ok (.dup, 1) := by decide +kernel
theorem dL_cracks_716 : decode cL_cracks 716 = .ok (.iconst 2, 1) := by decide +kernel
theorem dL_cracks_717 : decode cL_cracks 717 = .ok (.bipush 110, 2) := by decide +kernel
theorem dL_cracks_719 : decode cL_cracks 719 = .ok (.iastore, 1) := by decide +kernel
theorem dL_cracks_720 : decode cL_cracks 720 = .ok (.invokestatic 185, 3) := by decide +kernel
theorem dL_cracks_723 : decode cL_cracks 723 = .ok (.ldc2_w 287, 3) := by decide +kernel
theorem dL_cracks_726 : decode cL_cracks 726 = .ok (.lcmp, 1) := by decide +kernel
theorem dL_cracks_727 : decode cL_cracks 727 = .ok (.ifCond .ne 88, 3) := by decide +kernel
theorem dL_cracks_730 : decode cL_cracks 730 = .ok (.aload_n 0, 1) := by decide +kernel
theorem dL_cracks_731 : decode cL_cracks 731 = .ok (.bipush 111, 2) := by decide +kernel
theorem dL_cracks_733 : decode cL_cracks 733 = .ok (.iconst 3, 1) := by decide +kernel
theorem dL_cracks_734 : decode cL_cracks 734 = .ok (.newarray .int, 2) := by decide +kernel
theorem dL_cracks_736 : decode cL_cracks 736 = .ok (.dup, 1) := by decide +kernel
theorem dL_cracks_737 : decode cL_cracks 737 = .ok (.iconst 0, 1) := by decide +kernel
theorem dL_cracks_738 : decode cL_cracks 738 = .ok (.iconst 0, 1) := by decide +kernel
theorem dL_cracks_739 : decode cL_cracks 739 = .ok (.iastore, 1) := by decide +kernel
theorem dL_cracks_740 : decode cL_cracks 740 = .ok (.dup, 1) := by decide +kernel
theorem dL_cracks_741 : decode cL_cracks 741 = .ok (.iconst 1, 1) := by decide +kernel
theorem dL_cracks_742 : decode cL_cracks 742 = .ok (.iconst 0, 1) := by decide +kernel
theorem dL_cracks_743 : decode cL_cracks 743 = .ok (.iastore, 1) := by decide +kernel
theorem dL_cracks_744 : decode cL_cracks 744 = .ok (.dup, 1) := by decide +kernel
theorem dL_cracks_745 : decode cL_cracks 745 = .ok (.iconst 2, 1) := by decide +kernel
theorem dL_cracks_746 : decode cL_cracks 746 = .ok (.bipush 110, 2) := by decide +kernel
theorem dL_cracks_748 : decode cL_cracks 748 = .ok (.iastore, 1) := by decide +kernel
theorem dL_cracks_749 : decode cL_cracks 749 = .ok (.invokestatic 185, 3) := by decide +kernel
theorem dL_cracks_752 : decode cL_cracks 752 = .ok (.ldc2_w 289, 3) := by decide +kernel
theorem dL_cracks_755 : decode cL_cracks 755 = .ok (.lcmp, 1) := by decide +kernel
theorem dL_cracks_756 : decode cL_cracks 756 = .ok (.ifCond .ne 59, 3) := by decide +kernel
theorem dL_cracks_759 : decode cL_cracks 759 = .ok (.aload_n 0, 1) := by decide +kernel
theorem dL_cracks_760 : decode cL_cracks 760 = .ok (.bipush 101, 2) := by decide +kernel
theorem dL_cracks_762 : decode cL_cracks 762 = .ok (.iconst 1, 1) := by decide +kernel
theorem dL_cracks_763 : decode cL_cracks 763 = .ok (.newarray .int, 2) := by decide +kernel
theorem dL_cracks_765 : decode cL_cracks 765 = .ok (.dup, 1) := by decide +kernel
theorem dL_cracks_766 : decode cL_cracks 766 = .ok (.iconst 0, 1) := by decide +kernel
theorem dL_cracks_767 : decode cL_cracks 767 = .ok (.iconst 0, 1) := by decide +kernel
theorem dL_cracks_768 : decode cL_cracks 768 = .ok (.iastore, 1) := by decide +kernel
theorem dL_cracks_769 : decode cL_cracks 769 = .ok (.invokestatic 185, 3) := by decide +kernel
theorem dL_cracks_772 : decode cL_cracks 772 = .ok (.lconst 0, 1) := by decide +kernel
theorem dL_cracks_773 : decode cL_cracks 773 = .ok (.lcmp, 1) := by decide +kernel
theorem dL_cracks_774 : decode cL_cracks 774 = .ok (.ifCond .ne 41, 3) := by decide +kernel
theorem dL_cracks_777 : decode cL_cracks 777 = .ok (.aload_n 0, 1) := by decide +kernel
theorem dL_cracks_778 : decode cL_cracks 778 = .ok (.bipush 103, 2) := by decide +kernel
theorem dL_cracks_780 : decode cL_cracks 780 = .ok (.iconst 1, 1) := by decide +kernel
theorem dL_cracks_781 : decode cL_cracks 781 = .ok (.newarray .int, 2) := by decide +kernel
theorem dL_cracks_783 : decode cL_cracks 783 = .ok (.dup, 1) := by decide +kernel
theorem dL_cracks_784 : decode cL_cracks 784 = .ok (.iconst 0, 1) := by decide +kernel
theorem dL_cracks_785 : decode cL_cracks 785 = .ok (.iconst 0, 1) := by decide +kernel
theorem dL_cracks_786 : decode cL_cracks 786 = .ok (.iastore, 1) := by decide +kernel
theorem dL_cracks_787 : decode cL_cracks 787 = .ok (.invokestatic 185, 3) := by decide +kernel
theorem dL_cracks_790 : decode cL_cracks 790 = .ok (.ldc2_w 291, 3) := by decide +kernel
theorem dL_cracks_793 : decode cL_cracks 793 = .ok (.lcmp, 1) := by decide +kernel
theorem dL_cracks_794 : decode cL_cracks 794 = .ok (.ifCond .ne 21, 3) := by decide +kernel
theorem dL_cracks_797 : decode cL_cracks 797 = .ok (.aload_n 0, 1) := by decide +kernel
theorem dL_cracks_798 : decode cL_cracks 798 = .ok (.bipush 105, 2) := by decide +kernel
theorem dL_cracks_800 : decode cL_cracks 800 = .ok (.iconst 1, 1) := by decide +kernel
theorem dL_cracks_801 : decode cL_cracks 801 = .ok (.newarray .int, 2) := by decide +kernel
theorem dL_cracks_803 : decode cL_cracks 803 = .ok (.dup, 1) := by decide +kernel
theorem dL_cracks_804 : decode cL_cracks 804 = .ok (.iconst 0, 1) := by decide +kernel
theorem dL_cracks_805 : decode cL_cracks 805 = .ok (.iconst 0, 1) := by decide +kernel
theorem dL_cracks_806 : decode cL_cracks 806 = .ok (.iastore, 1) := by decide +kernel
theorem dL_cracks_807 : decode cL_cracks 807 = .ok (.invokestatic 185, 3) := by decide +kernel
theorem dL_cracks_810 : decode cL_cracks 810 = .ok (.lconst 0, 1) := by decide +kernel
theorem dL_cracks_811 : decode cL_cracks 811 = .ok (.lcmp, 1) := by decide +kernel
theorem dL_cracks_812 : decode cL_cracks 812 = .ok (.ifCond .eq 5, 3) := by decide +kernel
theorem dL_cracks_815 : decode cL_cracks 815 = .ok (.iconst 0, 1) := by decide +kernel
theorem dL_cracks_816 : decode cL_cracks 816 = .ok (.ireturn, 1) := by decide +kernel
theorem dL_cracks_817 : decode cL_cracks 817 = .ok (.aload_n 0, 1) := by decide +kernel
theorem dL_cracks_818 : decode cL_cracks 818 = .ok (.bipush 119, 2) := by decide +kernel
theorem dL_cracks_820 : decode cL_cracks 820 = .ok (.iconst 3, 1) := by decide +kernel
theorem dL_cracks_821 : decode cL_cracks 821 = .ok (.newarray .int, 2) := by decide +kernel
theorem dL_cracks_823 : decode cL_cracks 823 = .ok (.dup, 1) := by decide +kernel
theorem dL_cracks_824 : decode cL_cracks 824 = .ok (.iconst 0, 1) := by decide +kernel
theorem dL_cracks_825 : decode cL_cracks 825 = .ok (.iconst 0, 1) := by decide +kernel
theorem dL_cracks_826 : decode cL_cracks 826 = .ok (.iastore, 1) := by decide +kernel
theorem dL_cracks_827 : decode cL_cracks 827 = .ok (.dup, 1) := by decide +kernel
theorem dL_cracks_828 : decode cL_cracks 828 = .ok (.iconst 1, 1) := by decide +kernel
theorem dL_cracks_829 : decode cL_cracks 829 = .ok (.iconst 0, 1) := by decide +kernel
theorem dL_cracks_830 : decode cL_cracks 830 = .ok (.iastore, 1) := by decide +kernel
theorem dL_cracks_831 : decode cL_cracks 831 = .ok (.dup, 1) := by decide +kernel
theorem dL_cracks_832 : decode cL_cracks 832 = .ok (.iconst 2, 1) := by decide +kernel
theorem dL_cracks_833 : decode cL_cracks 833 = .ok (.sipush 500, 3) := by decide +kernel
theorem dL_cracks_836 : decode cL_cracks 836 = .ok (.iastore, 1) := by decide +kernel
theorem dL_cracks_837 : decode cL_cracks 837 = .ok (.invokestatic 185, 3) := by decide +kernel
theorem dL_cracks_840 : decode cL_cracks 840 = .ok (.ldc2_w 283, 3) := by decide +kernel
theorem dL_cracks_843 : decode cL_cracks 843 = .ok (.lcmp, 1) := by decide +kernel
theorem dL_cracks_844 : decode cL_cracks 844 = .ok (.ifCond .ne 107, 3) := by decide +kernel
theorem dL_cracks_847 : decode cL_cracks 847 = .ok (.aload_n 0, 1) := by decide +kernel
theorem dL_cracks_848 : decode cL_cracks 848 = .ok (.bipush 72, 2) := by decide +kernel
theorem dL_cracks_850 : decode cL_cracks 850 = .ok (.iconst 1, 1) := by decide +kernel
theorem dL_cracks_851 : decode cL_cracks 851 = .ok (.newarray .int, 2) := by decide +kernel
theorem dL_cracks_853 : decode cL_cracks 853 = .ok (.dup, 1) := by decide +kernel
theorem dL_cracks_854 : decode cL_cracks 854 = .ok (.iconst 0, 1) := by decide +kernel
theorem dL_cracks_855 : decode cL_cracks 855 = .ok (.iconst 1, 1) := by decide +kernel
theorem dL_cracks_856 : decode cL_cracks 856 = .ok (.iastore, 1) := by decide +kernel
theorem dL_cracks_857 : decode cL_cracks 857 = .ok (.invokestatic 185, 3) := by decide +kernel
theorem dL_cracks_860 : decode cL_cracks 860 = .ok (.ldc2_w 259, 3) := by decide +kernel
theorem dL_cracks_863 : decode cL_cracks 863 = .ok (.lcmp, 1) := by decide +kernel
theorem dL_cracks_864 : decode cL_cracks 864 = .ok (.ifCond .ne 87, 3) := by decide +kernel
theorem dL_cracks_867 : decode cL_cracks 867 = .ok (.aload_n 0, 1) := by decide +kernel
theorem dL_cracks_868 : decode cL_cracks 868 = .ok (.bipush 87, 2) := by decide +kernel
theorem dL_cracks_870 : decode cL_cracks 870 = .ok (.iconst 2, 1) := by decide +kernel
theorem dL_cracks_871 : decode cL_cracks 871 = .ok (.newarray .int, 2) := by decide +kernel
theorem dL_cracks_873 : decode cL_cracks 873 = .ok (.dup, 1) := by decide +kernel
theorem dL_cracks_874 : decode cL_cracks 874 = .ok (.iconst 0, 1) := by decide +kernel
theorem dL_cracks_875 : decode cL_cracks 875 = .ok (.iconst 0, 1) := by decide +kernel
theorem dL_cracks_876 : decode cL_cracks 876 = .ok (.iastore, 1) := by decide +kernel
theorem dL_cracks_877 : decode cL_cracks 877 = .ok (.dup, 1) := by decide +kernel
theorem dL_cracks_878 : decode cL_cracks 878 = .ok (.iconst 1, 1) := by decide +kernel
theorem dL_cracks_879 : decode cL_cracks 879 = .ok (.iconst 0, 1) := by decide +kernel
theorem dL_cracks_880 : decode cL_cracks 880 = .ok (.iastore, 1) := by decide +kernel
theorem dL_cracks_881 : decode cL_cracks 881 = .ok (.invokestatic 185, 3) := by decide +kernel
theorem dL_cracks_884 : decode cL_cracks 884 = .ok (.ldc2_w 293, 3) := by decide +kernel
theorem dL_cracks_887 : decode cL_cracks 887 = .ok (.lcmp, 1) := by decide +kernel
theorem dL_cracks_888 : decode cL_cracks 888 = .ok (.ifCond .ne 63, 3) := by decide +kernel
theorem dL_cracks_891 : decode cL_cracks 891 = .ok (.aload_n 0, 1) := by decide +kernel
theorem dL_cracks_892 : decode cL_cracks 892 = .ok (.bipush 101, 2) := by decide +kernel
theorem dL_cracks_894 : decode cL_cracks 894 = .ok (.iconst 1, 1) := by decide +kernel
theorem dL_cracks_895 : decode cL_cracks 895 = .ok (.newarray .int, 2) := by decide +kernel
theorem dL_cracks_897 : decode cL_cracks 897 = .ok (.dup, 1) := by decide +kernel
theorem dL_cracks_898 : decode cL_cracks 898 = .ok (.iconst 0, 1) := by decide +kernel
theorem dL_cracks_899 : decode cL_cracks 899 = .ok (.iconst 0, 1) := by decide +kernel
theorem dL_cracks_900 : decode cL_cracks 900 = .ok (.iastore, 1) := by decide +kernel
theorem dL_cracks_901 : decode cL_cracks 901 = .ok (.invokestatic 185, 3) := by decide +kernel
theorem dL_cracks_904 : decode cL_cracks 904 = .ok (.ldc2_w 295, 3) := by decide +kernel
theorem dL_cracks_907 : decode cL_cracks 907 = .ok (.lcmp, 1) := by decide +kernel
theorem dL_cracks_908 : decode cL_cracks 908 = .ok (.ifCond .ne 43, 3) := by decide +kernel
theorem dL_cracks_911 : decode cL_cracks 911 = .ok (.aload_n 0, 1) := by decide +kernel
theorem dL_cracks_912 : decode cL_cracks 912 = .ok (.bipush 111, 2) := by decide +kernel
theorem dL_cracks_914 : decode cL_cracks 914 = .ok (.iconst 3, 1) := by decide +kernel
theorem dL_cracks_915 : decode cL_cracks 915 = .ok (.newarray .int, 2) := by decide +kernel
theorem dL_cracks_917 : decode cL_cracks 917 = .ok (.dup, 1) := by decide +kernel
theorem dL_cracks_918 : decode cL_cracks 918 = .ok (.iconst 0, 1) := by decide +kernel
theorem dL_cracks_919 : decode cL_cracks 919 = .ok (.iconst 0, 1) := by decide +kernel
theorem dL_cracks_920 : decode cL_cracks 920 = .ok (.iastore, 1) := by decide +kernel
theorem dL_cracks_921 : decode cL_cracks 921 = .ok (.dup, 1) := by decide +kernel
theorem dL_cracks_922 : decode cL_cracks 922 = .ok (.iconst 1, 1) := by decide +kernel
theorem dL_cracks_923 : decode cL_cracks 923 = .ok (.iconst 0, 1) := by decide +kernel
theorem dL_cracks_924 : decode cL_cracks 924 = .ok (.iastore, 1) := by decide +kernel
theorem dL_cracks_925 : decode cL_cracks 925 = .ok (.dup, 1) := by decide +kernel
theorem dL_cracks_926 : decode cL_cracks 926 = .ok (.iconst 2, 1) := by decide +kernel
theorem dL_cracks_927 : decode cL_cracks 927 = .ok (.bipush 110, 2) := by decide +kernel
theorem dL_cracks_929 : decode cL_cracks 929 = .ok (.iastore, 1) := by decide +kernel
theorem dL_cracks_930 : decode cL_cracks 930 = .ok (.invokestatic 185, 3) := by decide +kernel
theorem dL_cracks_933 : decode cL_cracks 933 = .ok (.ldc2_w 297, 3) := by decide +kernel
theorem dL_cracks_936 : decode cL_cracks 936 = .ok (.lcmp, 1) := by decide +kernel
theorem dL_cracks_937 : decode cL_cracks 937 = .ok (.ifCond .ne 14, 3) := by decide +kernel
theorem dL_cracks_940 : decode cL_cracks 940 = .ok (.aload_n 0, 1) := by decide +kernel
theorem dL_cracks_941 : decode cL_cracks 941 = .ok (.invokevirtual 181, 3) := by decide +kernel
theorem dL_cracks_944 : decode cL_cracks 944 = .ok (.ifCond .eq 7, 3) := by decide +kernel
theorem dL_cracks_947 : decode cL_cracks 947 = .ok (.iconst 1, 1) := by decide +kernel
theorem dL_cracks_948 : decode cL_cracks 948 = .ok (.goto 4, 3) := by decide +kernel
theorem dL_cracks_951 : decode cL_cracks 951 = .ok (.iconst 0, 1) := by decide +kernel
theorem dL_cracks_952 : decode cL_cracks 952 = .ok (.ireturn, 1) := by decide +kernel
