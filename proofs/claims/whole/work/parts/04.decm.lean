theorem dX9_init_0 : decode cX9_init 0 = .ok (.aload_n 0, 1) := by decide +kernel
theorem dX9_init_1 : decode cX9_init 1 = .ok (.invokespecial 1, 3) := by decide +kernel
theorem dX9_init_4 : decode cX9_init 4 = .ok (.aload_n 0, 1) := by decide +kernel
theorem dX9_init_5 : decode cX9_init 5 = .ok (.iconst 0, 1) := by decide +kernel
theorem dX9_init_6 : decode cX9_init 6 = .ok (.putfield 7, 3) := by decide +kernel
theorem dX9_init_9 : decode cX9_init 9 = .ok (.aload_n 0, 1) := by decide +kernel
theorem dX9_init_10 : decode cX9_init 10 = .ok (.iconst 0, 1) := by decide +kernel
theorem dX9_init_11 : decode cX9_init 11 = .ok (.putfield 13, 3) := by decide +kernel
theorem dX9_init_14 : decode cX9_init 14 = .ok (.aload_n 0, 1) := by decide +kernel
theorem dX9_init_15 : decode cX9_init 15 = .ok (.bipush 16, 2) := by decide +kernel
theorem dX9_init_17 : decode cX9_init 17 = .ok (.newarray .int, 2) := by decide +kernel
theorem dX9_init_19 : decode cX9_init 19 = .ok (.dup, 1) := by decide +kernel
theorem dX9_init_20 : decode cX9_init 20 = .ok (.iconst 0, 1) := by decide +kernel
theorem dX9_init_21 : decode cX9_init 21 = .ok (.iconst 3, 1) := by decide +kernel
theorem dX9_init_22 : decode cX9_init 22 = .ok (.iastore, 1) := by decide +kernel
theorem dX9_init_23 : decode cX9_init 23 = .ok (.dup, 1) := by decide +kernel
theorem dX9_init_24 : decode cX9_init 24 = .ok (.iconst 1, 1) := by decide +kernel
theorem dX9_init_25 : decode cX9_init 25 = .ok (.iconst 3, 1) := by decide +kernel
theorem dX9_init_26 : decode cX9_init 26 = .ok (.iastore, 1) := by decide +kernel
theorem dX9_init_27 : decode cX9_init 27 = .ok (.dup, 1) := by decide +kernel
theorem dX9_init_28 : decode cX9_init 28 = .ok (.iconst 2, 1) := by decide +kernel
theorem dX9_init_29 : decode cX9_init 29 = .ok (.iconst 3, 1) := by decide +kernel
theorem dX9_init_30 : decode cX9_init 30 = .ok (.iastore, 1) := by decide +kernel
theorem dX9_init_31 : decode cX9_init 31 = .ok (.dup, 1) := by decide +kernel
theorem dX9_init_32 : decode cX9_init 32 = .ok (.iconst 3, 1) := by decide +kernel
theorem dX9_init_33 : decode cX9_init 33 = .ok (.iconst 3, 1) := by decide +kernel
theorem dX9_init_34 : decode cX9_init 34 = .ok (.iastore, 1) := by decide +kernel
theorem dX9_init_35 : decode cX9_init 35 = .ok (.dup, 1) := by decide +kernel
theorem dX9_init_36 : decode cX9_init 36 = .ok (.iconst 4, 1) := by decide +kernel
theorem dX9_init_37 : decode cX9_init 37 = .ok (.iconst 3, 1) := by decide +kernel
theorem dX9_init_38 : decode cX9_init 38 = .ok (.iastore, 1) := by decide +kernel
theorem dX9_init_39 : decode cX9_init 39 = .ok (.dup, 1) := by decide +kernel
theorem dX9_init_40 : decode cX9_init 40 = .ok (.iconst 5, 1) := by decide +kernel
theorem dX9_init_41 : decode cX9_init 41 = .ok (.iconst 3, 1) := by decide +kernel
theorem dX9_init_42 : decode cX9_init 42 = .ok (.iastore, 1) := by decide +kernel
theorem dX9_init_43 : decode cX9_init 43 = .ok (.dup, 1) := by decide +kernel
theorem dX9_init_44 : decode cX9_init 44 = .ok (.bipush 6, 2) := by decide +kernel
theorem dX9_init_46 : decode cX9_init 46 = .ok (.iconst 3, 1) := by decide +kernel
theorem dX9_init_47 : decode cX9_init 47 = .ok (.iastore, 1) := by decide +kernel
theorem dX9_init_48 : decode cX9_init 48 = .ok (.dup, 1) := by decide +kernel
theorem dX9_init_49 : decode cX9_init 49 = .ok (.bipush 7, 2) := by decide +kernel
theorem dX9_init_51 : decode cX9_init 51 = .ok (.iconst 3, 1) := by decide +kernel
theorem dX9_init_52 : decode cX9_init 52 = .ok (.iastore, 1) := by decide +kernel
theorem dX9_init_53 : decode cX9_init 53 = .ok (.dup, 1) := by decide +kernel
theorem dX9_init_54 : decode cX9_init 54 = .ok (.bipush 8, 2) := by decide +kernel
theorem dX9_init_56 : decode cX9_init 56 = .ok (.iconst 3, 1) := by decide +kernel
theorem dX9_init_57 : decode cX9_init 57 = .ok (.iastore, 1) := by decide +kernel
theorem dX9_init_58 : decode cX9_init 58 = .ok (.dup, 1) := by decide +kernel
theorem dX9_init_59 : decode cX9_init 59 = .ok (.bipush 9, 2) := by decide +kernel
theorem dX9_init_61 : decode cX9_init 61 = .ok (.iconst 3, 1) := by decide +kernel
theorem dX9_init_62 : decode cX9_init 62 = .ok (.iastore, 1) := by decide +kernel
theorem dX9_init_63 : decode cX9_init 63 = .ok (.dup, 1) := by decide +kernel
theorem dX9_init_64 : decode cX9_init 64 = .ok (.bipush 10, 2) := by decide +kernel
theorem dX9_init_66 : decode cX9_init 66 = .ok (.iconst 3, 1) := by decide +kernel
theorem dX9_init_67 : decode cX9_init 67 = .ok (.iastore, 1) := by decide +kernel
theorem dX9_init_68 : decode cX9_init 68 = .ok (.dup, 1) := by decide +kernel
theorem dX9_init_69 : decode cX9_init 69 = .ok (.bipush 11, 2) := by decide +kernel
theorem dX9_init_71 : decode cX9_init 71 = .ok (.iconst 3, 1) := by decide +kernel
theorem dX9_init_72 : decode cX9_init 72 = .ok (.iastore, 1) := by decide +kernel
theorem dX9_init_73 : decode cX9_init 73 = .ok (.dup, 1) := by decide +kernel
theorem dX9_init_74 : decode cX9_init 74 = .ok (.bipush 12, 2) := by decide +kernel
theorem dX9_init_76 : decode cX9_init 76 = .ok (.iconst 3, 1) := by decide +kernel
theorem dX9_init_77 : decode cX9_init 77 = .ok (.iastore, 1) := by decide +kernel
theorem dX9_init_78 : decode cX9_init 78 = .ok (.dup, 1) := by decide +kernel
theorem dX9_init_79 : decode cX9_init 79 = .ok (.bipush 13, 2) := by decide +kernel
theorem dX9_init_81 : decode cX9_init 81 = .ok (.iconst 3, 1) := by decide +kernel
theorem dX9_init_82 : decode cX9_init 82 = .ok (.iastore, 1) := by decide +kernel
theorem dX9_init_83 : decode cX9_init 83 = .ok (.dup, 1) := by decide +kernel
theorem dX9_init_84 : decode cX9_init 84 = .ok (.bipush 14, 2) := by decide +kernel
theorem dX9_init_86 : decode cX9_init 86 = .ok (.iconst 3, 1) := by decide +kernel
theorem dX9_init_87 : decode cX9_init 87 = .ok (.iastore, 1) := by decide +kernel
theorem dX9_init_88 : decode cX9_init 88 = .ok (.dup, 1) := by decide +kernel
theorem dX9_init_89 : decode cX9_init 89 = .ok (.bipush 15, 2) := by decide +kernel
theorem dX9_init_91 : decode cX9_init 91 = .ok (.iconst 3, 1) := by decide +kernel
theorem dX9_init_92 : decode cX9_init 92 = .ok (.iastore, 1) := by decide +kernel
theorem dX9_init_93 : decode cX9_init 93 = .ok (.putfield 16, 3) := by decide +kernel
theorem dX9_init_96 : decode cX9_init 96 = .ok (.aload_n 0, 1) := by decide +kernel
theorem dX9_init_97 : decode cX9_init 97 = .ok (.bipush 6, 2) := by decide +kernel
theorem dX9_init_99 : decode cX9_init 99 = .ok (.newarray .int, 2) := by decide +kernel
theorem dX9_init_101 : decode cX9_init 101 = .ok (.putfield 20, 3) := by decide +kernel
theorem dX9_init_104 : decode cX9_init 104 = .ok (.aload_n 0, 1) := by decide +kernel
theorem dX9_init_105 : decode cX9_init 105 = .ok (.bipush 6, 2) := by decide +kernel
theorem dX9_init_107 : decode cX9_init 107 = .ok (.newarray .int, 2) := by decide +kernel
theorem dX9_init_109 : decode cX9_init 109 = .ok (.putfield 23, 3) := by decide +kernel
theorem dX9_init_112 : decode cX9_init 112 = .ok (.aload_n 0, 1) := by decide +kernel
theorem dX9_init_113 : decode cX9_init 113 = .ok (.bipush 6, 2) := by decide +kernel
theorem dX9_init_115 : decode cX9_init 115 = .ok (.newarray .int, 2) := by decide +kernel
theorem dX9_init_117 : decode cX9_init 117 = .ok (.putfield 26, 3) := by decide +kernel
theorem dX9_init_120 : decode cX9_init 120 = .ok (.aload_n 0, 1) := by decide +kernel
theorem dX9_init_121 : decode cX9_init 121 = .ok (.bipush 6, 2) := by decide +kernel
theorem dX9_init_123 : decode cX9_init 123 = .ok (.newarray .int, 2) := by decide +kernel
theorem dX9_init_125 : decode cX9_init 125 = .ok (.putfield 29, 3) := by decide +kernel
theorem dX9_init_128 : decode cX9_init 128 = .ok (.aload_n 0, 1) := by decide +kernel
theorem dX9_init_129 : decode cX9_init 129 = .ok (.bipush 6, 2) := by decide +kernel
theorem dX9_init_131 : decode cX9_init 131 = .ok (.newarray .int, 2) := by decide +kernel
theorem dX9_init_133 : decode cX9_init 133 = .ok (.putfield 32, 3) := by decide +kernel
theorem dX9_init_136 : decode cX9_init 136 = .ok (.aload_n 0, 1) := by decide +kernel
theorem dX9_init_137 : decode cX9_init 137 = .ok (.bipush 6, 2) := by decide +kernel
theorem dX9_init_139 : decode cX9_init 139 = .ok (.newarray .int, 2) := by decide +kernel
theorem dX9_init_141 : decode cX9_init 141 = .ok (.putfield 35, 3) := by decide +kernel
theorem dX9_init_144 : decode cX9_init 144 = .ok (.aload_n 0, 1) := by decide +kernel
theorem dX9_init_145 : decode cX9_init 145 = .ok (.bipush 24, 2) := by decide +kernel
theorem dX9_init_147 : decode cX9_init 147 = .ok (.newarray .int, 2) := by decide +kernel
theorem dX9_init_149 : decode cX9_init 149 = .ok (.putfield 38, 3) := by decide +kernel
theorem dX9_init_152 : decode cX9_init 152 = .ok (.aload_n 0, 1) := by decide +kernel
theorem dX9_init_153 : decode cX9_init 153 = .ok (.iconst 0, 1) := by decide +kernel
theorem dX9_init_154 : decode cX9_init 154 = .ok (.putfield 41, 3) := by decide +kernel
theorem dX9_init_157 : decode cX9_init 157 = .ok (.aload_n 0, 1) := by decide +kernel
theorem dX9_init_158 : decode cX9_init 158 = .ok (.iconst (-1), 1) := by decide +kernel
theorem dX9_init_159 : decode cX9_init 159 = .ok (.putfield 44, 3) := by decide +kernel
theorem dX9_init_162 : decode cX9_init 162 = .ok (.aload_n 0, 1) := by decide +kernel
theorem dX9_init_163 : decode cX9_init 163 = .ok (.iconst 0, 1) := by decide +kernel
theorem dX9_init_164 : decode cX9_init 164 = .ok (.putfield 47, 3) := by decide +kernel
theorem dX9_init_167 : decode cX9_init 167 = .ok (.aload_n 0, 1) := by decide +kernel
theorem dX9_init_168 : decode cX9_init 168 = .ok (.iconst 0, 1) := by decide +kernel
theorem dX9_init_169 : decode cX9_init 169 = .ok (.putfield 50, 3) := by decide +kernel
theorem dX9_init_172 : decode cX9_init 172 = .ok (.aload_n 0, 1) := by decide +kernel
theorem dX9_init_173 : decode cX9_init 173 = .ok (.iconst 0, 1) := by decide +kernel
theorem dX9_init_174 : decode cX9_init 174 = .ok (.putfield 53, 3) := by decide +kernel
theorem dX9_init_177 : decode cX9_init 177 = .ok (.aload_n 0, 1) := by decide +kernel
theorem dX9_init_178 : decode cX9_init 178 = .ok (.bipush 100, 2) := by decide +kernel
theorem dX9_init_180 : decode cX9_init 180 = .ok (.newarray .int, 2) := by decide +kernel
theorem dX9_init_182 : decode cX9_init 182 = .ok (.putfield 56, 3) := by decide +kernel
theorem dX9_init_185 : decode cX9_init 185 = .ok (.aload_n 0, 1) := by decide +kernel
theorem dX9_init_186 : decode cX9_init 186 = .ok (.bipush 6, 2) := by decide +kernel
theorem dX9_init_188 : decode cX9_init 188 = .ok (.newarray .int, 2) := by decide +kernel
theorem dX9_init_190 : decode cX9_init 190 = .ok (.putfield 59, 3) := by decide +kernel
theorem dX9_init_193 : decode cX9_init 193 = .ok (.aload_n 0, 1) := by decide +kernel
theorem dX9_init_194 : decode cX9_init 194 = .ok (.bipush 60, 2) := by decide +kernel
theorem dX9_init_196 : decode cX9_init 196 = .ok (.newarray .int, 2) := by decide +kernel
theorem dX9_init_198 : decode cX9_init 198 = .ok (.putfield 62, 3) := by decide +kernel
theorem dX9_init_201 : decode cX9_init 201 = .ok (.aload_n 0, 1) := by decide +kernel
theorem dX9_init_202 : decode cX9_init 202 = .ok (.bipush 60, 2) := by decide +kernel
theorem dX9_init_204 : decode cX9_init 204 = .ok (.newarray .int, 2) := by decide +kernel
theorem dX9_init_206 : decode cX9_init 206 = .ok (.putfield 65, 3) := by decide +kernel
theorem dX9_init_209 : decode cX9_init 209 = .ok (.aload_n 0, 1) := by decide +kernel
theorem dX9_init_210 : decode cX9_init 210 = .ok (.bipush 60, 2) := by decide +kernel
theorem dX9_init_212 : decode cX9_init 212 = .ok (.newarray .int, 2) := by decide +kernel
theorem dX9_init_214 : decode cX9_init 214 = .ok (.putfield 68, 3) := by decide +kernel
theorem dX9_init_217 : decode cX9_init 217 = .ok (.aload_n 0, 1) := by decide +kernel
theorem dX9_init_218 : decode cX9_init 218 = .ok (.bipush 60, 2) := by decide +kernel
theorem dX9_init_220 : decode cX9_init 220 = .ok (.newarray .int, 2) := by decide +kernel
theorem dX9_init_222 : decode cX9_init 222 = .ok (.putfield 71, 3) := by decide +kernel
theorem dX9_init_225 : decode cX9_init 225 = .ok (.aload_n 0, 1) := by decide +kernel
theorem dX9_init_226 : decode cX9_init 226 = .ok (.sipush 600, 3) := by decide +kernel
theorem dX9_init_229 : decode cX9_init 229 = .ok (.newarray .int, 2) := by decide +kernel
theorem dX9_init_231 : decode cX9_init 231 = .ok (.putfield 74, 3) := by decide +kernel
theorem dX9_init_234 : decode cX9_init 234 = .ok (.aload_n 0, 1) := by decide +kernel
theorem dX9_init_235 : decode cX9_init 235 = .ok (.bipush 101, 2) := by decide +kernel
theorem dX9_init_237 : decode cX9_init 237 = .ok (.newarray .int, 2) := by decide +kernel
theorem dX9_init_239 : decode cX9_init 239 = .ok (.putfield 77, 3) := by decide +kernel
theorem dX9_init_242 : decode cX9_init 242 = .ok (.aload_n 0, 1) := by decide +kernel
theorem dX9_init_243 : decode cX9_init 243 = .ok (.iconst 0, 1) := by decide +kernel
theorem dX9_init_244 : decode cX9_init 244 = .ok (.putfield 80, 3) := by decide +kernel
theorem dX9_init_247 : decode cX9_init 247 = .ok (.aload_n 0, 1) := by decide +kernel
theorem dX9_init_248 : decode cX9_init 248 = .ok (.iconst 0, 1) := by decide +kernel
theorem dX9_init_249 : decode cX9_init 249 = .ok (.putfield 83, 3) := by decide +kernel
theorem dX9_init_252 : decode cX9_init 252 = .ok (.aload_n 0, 1) := by decide +kernel
theorem dX9_init_253 : decode cX9_init 253 = .ok (.iconst 0, 1) := by decide +kernel
theorem dX9_init_254 : decode cX9_init 254 = .ok (.putfield 86, 3) := by decide +kernel
theorem dX9_init_257 : decode cX9_init 257 = .ok (.aload_n 0, 1) := by decide +kernel
theorem dX9_init_258 : decode cX9_init 258 = .ok (.bipush 12, 2) := by decide +kernel
theorem dX9_init_260 : decode cX9_init 260 = .ok (.newarray .int, 2) := by decide +kernel
theorem dX9_init_262 : decode cX9_init 262 = .ok (.dup, 1) := by decide +kernel
theorem dX9_init_263 : decode cX9_init 263 = .ok (.iconst 0, 1) := by decide +kernel
theorem dX9_init_264 : decode cX9_init 264 = .ok (.bipush 111, 2) := by decide +kernel
theorem dX9_init_266 : decode cX9_init 266 = .ok (.iastore, 1) := by decide +kernel
theorem dX9_init_267 : decode cX9_init 267 = .ok (.dup, 1) := by decide +kernel
theorem dX9_init_268 : decode cX9_init 268 = .ok (.iconst 1, 1) := by decide +kernel
theorem dX9_init_269 : decode cX9_init 269 = .ok (.bipush 112, 2) := by decide +kernel
theorem dX9_init_271 : decode cX9_init 271 = .ok (.iastore, 1) := by decide +kernel
theorem dX9_init_272 : decode cX9_init 272 = .ok (.dup, 1) := by decide +kernel
theorem dX9_init_273 : decode cX9_init 273 = .ok (.iconst 2, 1) := by decide +kernel
theorem dX9_init_274 : decode cX9_init 274 = .ok (.bipush 101, 2) := by decide +kernel
theorem dX9_init_276 : decode cX9_init 276 = .ok (.iastore, 1) := by decide +kernel
theorem dX9_init_277 : decode cX9_init 277 = .ok (.dup, 1) := by decide +kernel
theorem dX9_init_278 : decode cX9_init 278 = .ok (.iconst 3, 1) := by decide +kernel
theorem dX9_init_279 : decode cX9_init 279 = .ok (.bipush 110, 2) := by decide +kernel
theorem dX9_init_281 : decode cX9_init 281 = .ok (.iastore, 1) := by decide +kernel
theorem dX9_init_282 : decode cX9_init 282 = .ok (.dup, 1) := by decide +kernel
theorem dX9_init_283 : decode cX9_init 283 = .ok (.iconst 4, 1) := by decide +kernel
theorem dX9_init_284 : decode cX9_init 284 = .ok (.bipush 115, 2) := by decide +kernel
theorem dX9_init_286 : decode cX9_init 286 = .ok (.iastore, 1) := by decide +kernel
theorem dX9_init_287 : decode cX9_init 287 = .ok (.dup, 1) := by decide +kernel
theorem dX9_init_288 : decode cX9_init 288 = .ok (.iconst 5, 1) := by decide +kernel
theorem dX9_init_289 : decode cX9_init 289 = .ok (.bipush 104, 2) := by decide +kernel
theorem dX9_init_291 : decode cX9_init 291 = .ok (.iastore, 1) := by decide +kernel
theorem dX9_init_292 : decode cX9_init 292 = .ok (.dup, 1) := by decide +kernel
theorem dX9_init_293 : decode cX9_init 293 = .ok (.bipush 6, 2) := by decide +kernel
theorem dX9_init_295 : decode cX9_init 295 = .ok (.bipush 117, 2) := by decide +kernel
theorem dX9_init_297 : decode cX9_init 297 = .ok (.iastore, 1) := by decide +kernel
theorem dX9_init_298 : decode cX9_init 298 = .ok (.dup, 1) := by decide +kernel
theorem dX9_init_299 : decode cX9_init 299 = .ok (.bipush 7, 2) := by decide +kernel
theorem dX9_init_301 : decode cX9_init 301 = .ok (.bipush 116, 2) := by decide +kernel
theorem dX9_init_303 : decode cX9_init 303 = .ok (.iastore, 1) := by decide +kernel
theorem dX9_init_304 : decode cX9_init 304 = .ok (.dup, 1) := by decide +kernel
theorem dX9_init_305 : decode cX9_init 305 = .ok (.bipush 8, 2) := by decide +kernel
theorem dX9_init_307 : decode cX9_init 307 = .ok (.bipush 102, 2) := by decide +kernel
theorem dX9_init_309 : decode cX9_init 309 = .ok (.iastore, 1) := by decide +kernel
theorem dX9_init_310 : decode cX9_init 310 = .ok (.dup, 1) := by decide +kernel
theorem dX9_init_311 : decode cX9_init 311 = .ok (.bipush 9, 2) := by decide +kernel
theorem dX9_init_313 : decode cX9_init 313 = .ok (.bipush 97, 2) := by decide +kernel
theorem dX9_init_315 : decode cX9_init 315 = .ok (.iastore, 1) := by decide +kernel
theorem dX9_init_316 : decode cX9_init 316 = .ok (.dup, 1) := by decide +kernel
theorem dX9_init_317 : decode cX9_init 317 = .ok (.bipush 10, 2) := by decide +kernel
theorem dX9_init_319 : decode cX9_init 319 = .ok (.bipush 100, 2) := by decide +kernel
theorem dX9_init_321 : decode cX9_init 321 = .ok (.iastore, 1) := by decide +kernel
theorem dX9_init_322 : decode cX9_init 322 = .ok (.dup, 1) := by decide +kernel
theorem dX9_init_323 : decode cX9_init 323 = .ok (.bipush 11, 2) := by decide +kernel
theorem dX9_init_325 : decode cX9_init 325 = .ok (.bipush 101, 2) := by decide +kernel
theorem dX9_init_327 : decode cX9_init 327 = .ok (.iastore, 1) := by decide +kernel
theorem dX9_init_328 : decode cX9_init 328 = .ok (.putfield 89, 3) := by decide +kernel
theorem dX9_init_331 : decode cX9_init 331 = .ok (.aload_n 0, 1) := by decide +kernel
theorem dX9_init_332 : decode cX9_init 332 = .ok (.bipush 100, 2) := by decide +kernel
theorem dX9_init_334 : decode cX9_init 334 = .ok (.newarray .boolean, 2) := by decide +kernel
theorem dX9_init_336 : decode cX9_init 336 = .ok (.putfield 92, 3) := by decide +kernel
theorem dX9_init_339 : decode cX9_init 339 = .ok (.aload_n 0, 1) := by decide +kernel
theorem dX9_init_340 : decode cX9_init 340 = .ok (.bipush 16, 2) := by decide +kernel
theorem dX9_init_342 : decode cX9_init 342 = .ok (.newarray .int, 2) := by decide +kernel
theorem dX9_init_344 : decode cX9_init 344 = .ok (.putfield 96, 3) := by decide +kernel
theorem dX9_init_347 : decode cX9_init 347 = .ok (.aload_n 0, 1) := by decide +kernel
theorem dX9_init_348 : decode cX9_init 348 = .ok (.sipush 9999, 3) := by decide +kernel
theorem dX9_init_351 : decode cX9_init 351 = .ok (.putfield 99, 3) := by decide +kernel
theorem dX9_init_354 : decode cX9_init 354 = .ok (.aload_n 0, 1) := by decide +kernel
theorem dX9_init_355 : decode cX9_init 355 = .ok (.iconst 0, 1) := by decide +kernel
theorem dX9_init_356 : decode cX9_init 356 = .ok (.putfield 102, 3) := by decide +kernel
theorem dX9_init_359 : decode cX9_init 359 = .ok (.aload_n 0, 1) := by decide +kernel
theorem dX9_init_360 : decode cX9_init 360 = .ok (.bipush 6, 2) := by decide +kernel
theorem dX9_init_362 : decode cX9_init 362 = .ok (.newarray .int, 2) := by decide +kernel
theorem dX9_init_364 : decode cX9_init 364 = .ok (.putfield 105, 3) := by decide +kernel
theorem dX9_init_367 : decode cX9_init 367 = .ok (.aload_n 0, 1) := by decide +kernel
theorem dX9_init_368 : decode cX9_init 368 = .ok (.bipush 6, 2) := by decide +kernel
theorem dX9_init_370 : decode cX9_init 370 = .ok (.newarray .int, 2) := by decide +kernel
theorem dX9_init_372 : decode cX9_init 372 = .ok (.putfield 108, 3) := by decide +kernel
theorem dX9_init_375 : decode cX9_init 375 = .ok (.aload_n 0, 1) := by decide +kernel
theorem dX9_init_376 : decode cX9_init 376 = .ok (.bipush 6, 2) := by decide +kernel
theorem dX9_init_378 : decode cX9_init 378 = .ok (.newarray .int, 2) := by decide +kernel
theorem dX9_init_380 : decode cX9_init 380 = .ok (.putfield 111, 3) := by decide +kernel
theorem dX9_init_383 : decode cX9_init 383 = .ok (.aload_n 0, 1) := by decide +kernel
theorem dX9_init_384 : decode cX9_init 384 = .ok (.bipush 6, 2) := by decide +kernel
theorem dX9_init_386 : decode cX9_init 386 = .ok (.newarray .int, 2) := by decide +kernel
theorem dX9_init_388 : decode cX9_init 388 = .ok (.putfield 114, 3) := by decide +kernel
theorem dX9_init_391 : decode cX9_init 391 = .ok (.aload_n 0, 1) := by decide +kernel
theorem dX9_init_392 : decode cX9_init 392 = .ok (.iconst 0, 1) := by decide +kernel
theorem dX9_init_393 : decode cX9_init 393 = .ok (.putfield 117, 3) := by decide +kernel
theorem dX9_init_396 : decode cX9_init 396 = .ok (.aload_n 0, 1) := by decide +kernel
theorem dX9_init_397 : decode cX9_init 397 = .ok (.iconst 5, 1) := by decide +kernel
theorem dX9_init_398 : decode cX9_init 398 = .ok (.newarray .int, 2) := by decide +kernel
theorem dX9_init_400 : decode cX9_init 400 = .ok (.putfield 120, 3) := by decide +kernel
theorem dX9_init_403 : decode cX9_init 403 = .ok (.aload_n 0, 1) := by decide +kernel
theorem dX9_init_404 : decode cX9_init 404 = .ok (.iconst 5, 1) := by decide +kernel
theorem dX9_init_405 : decode cX9_init 405 = .ok (.newarray .int, 2) := by decide +kernel
theorem dX9_init_407 : decode cX9_init 407 = .ok (.putfield 123, 3) := by decide +kernel
theorem dX9_init_410 : decode cX9_init 410 = .ok (.aload_n 0, 1) := by decide +kernel
theorem dX9_init_411 : decode cX9_init 411 = .ok (.iconst 5, 1) := by decide +kernel
theorem dX9_init_412 : decode cX9_init 412 = .ok (.newarray .int, 2) := by decide +kernel
theorem dX9_init_414 : decode cX9_init 414 = .ok (.putfield 126, 3) := by decide +kernel
theorem dX9_init_417 : decode cX9_init 417 = .ok (.aload_n 0, 1) := by decide +kernel
theorem dX9_init_418 : decode cX9_init 418 = .ok (.iconst 0, 1) := by decide +kernel
theorem dX9_init_419 : decode cX9_init 419 = .ok (.putfield 129, 3) := by decide +kernel
theorem dX9_init_422 : decode cX9_init 422 = .ok (.aload_n 0, 1) := by decide +kernel
theorem dX9_init_423 : decode cX9_init 423 = .ok (.iconst 0, 1) := by decide +kernel
theorem dX9_init_424 : decode cX9_init 424 = .ok (.putfield 132, 3) := by decide +kernel
theorem dX9_init_427 : decode cX9_init 427 = .ok (.aload_n 0, 1) := by decide +kernel
theorem dX9_init_428 : decode cX9_init 428 = .ok (.bipush 8, 2) := by decide +kernel
theorem dX9_init_430 : decode cX9_init 430 = .ok (.newarray .int, 2) := by decide +kernel
theorem dX9_init_432 : decode cX9_init 432 = .ok (.putfield 135, 3) := by decide +kernel
theorem dX9_init_435 : decode cX9_init 435 = .ok (.aload_n 0, 1) := by decide +kernel
theorem dX9_init_436 : decode cX9_init 436 = .ok (.bipush 8, 2) := by decide +kernel
theorem dX9_init_438 : decode cX9_init 438 = .ok (.newarray .int, 2) := by decide +kernel
theorem dX9_init_440 : decode cX9_init 440 = .ok (.putfield 138, 3) := by decide +kernel
theorem dX9_init_443 : decode cX9_init 443 = .ok (.aload_n 0, 1) := by decide +kernel
theorem dX9_init_444 : decode cX9_init 444 = .ok (.bipush 8, 2) := by decide +kernel
theorem dX9_init_446 : decode cX9_init 446 = .ok (.newarray .int, 2) := by decide +kernel
theorem dX9_init_448 : decode cX9_init 448 = .ok (.putfield 141, 3) := by decide +kernel
theorem dX9_init_451 : decode cX9_init 451 = .ok (.aload_n 0, 1) := by decide +kernel
theorem dX9_init_452 : decode cX9_init 452 = .ok (.bipush 8, 2) := by decide +kernel
theorem dX9_init_454 : decode cX9_init 454 = .ok (.newarray .int, 2) := by decide +kernel
theorem dX9_init_456 : decode cX9_init 456 = .ok (.putfield 144, 3) := by decide +kernel
theorem dX9_init_459 : decode cX9_init 459 = .ok (.aload_n 0, 1) := by decide +kernel
theorem dX9_init_460 : decode cX9_init 460 = .ok (.iconst 0, 1) := by decide +kernel
theorem dX9_init_461 : decode cX9_init 461 = .ok (.putfield 147, 3) := by decide +kernel
theorem dX9_init_464 : decode cX9_init 464 = .ok (.aload_n 0, 1) := by decide +kernel
theorem dX9_init_465 : decode cX9_init 465 = .ok (.iconst (-1), 1) := by decide +kernel
theorem dX9_init_466 : decode cX9_init 466 = .ok (.putfield 151, 3) := by decide +kernel
theorem dX9_init_469 : decode cX9_init 469 = .ok (.aload_n 0, 1) := by decide +kernel
theorem dX9_init_470 : decode cX9_init 470 = .ok (.iconst 0, 1) := by decide +kernel
theorem dX9_init_471 : decode cX9_init 471 = .ok (.putfield 154, 3) := by decide +kernel
theorem dX9_init_474 : decode cX9_init 474 = .ok (.aload_n 0, 1) := by decide +kernel
theorem dX9_init_475 : decode cX9_init 475 = .ok (.iconst 0, 1) := by decide +kernel
theorem dX9_init_476 : decode cX9_init 476 = .ok (.putfield 157, 3) := by decide +kernel
theorem dX9_init_479 : decode cX9_init 479 = .ok (.aload_n 0, 1) := by decide +kernel
theorem dX9_init_480 : decode cX9_init 480 = .ok (.iconst 0, 1) := by decide +kernel
theorem dX9_init_481 : decode cX9_init 481 = .ok (.putfield 160, 3) := by decide +kernel
theorem dX9_init_484 : decode cX9_init 484 = .ok (.aload_n 0, 1) := by decide +kernel
theorem dX9_init_485 : decode cX9_init 485 = .ok (.iconst 0, 1) := by decide +kernel
theorem dX9_init_486 : decode cX9_init 486 = .ok (.putfield 163, 3) := by decide +kernel
theorem dX9_init_489 : decode cX9_init 489 = .ok (.aload_n 0, 1) := by decide +kernel
theorem dX9_init_490 : decode cX9_init 490 = .ok (.iconst 0, 1) := by decide +kernel
theorem dX9_init_491 : decode cX9_init 491 = .ok (.putfield 166, 3) := by decide +kernel
theorem dX9_init_494 : decode cX9_init 494 = .ok (.aload_n 0, 1) := by decide +kernel
theorem dX9_init_495 : decode cX9_init 495 = .ok (.bipush 16, 2) := by decide +kernel
theorem dX9_init_497 : decode cX9_init 497 = .ok (.newarray .int, 2) := by decide +kernel
theorem dX9_init_499 : decode cX9_init 499 = .ok (.putfield 169, 3) := by decide +kernel
theorem dX9_init_502 : decode cX9_init 502 = .ok (.aload_n 0, 1) := by decide +kernel
theorem dX9_init_503 : decode cX9_init 503 = .ok (.bipush 6, 2) := by decide +kernel
theorem dX9_init_505 : decode cX9_init 505 = .ok (.newarray .int, 2) := by decide +kernel
theorem dX9_init_507 : decode cX9_init 507 = .ok (.putfield 172, 3) := by decide +kernel
theorem dX9_init_510 : decode cX9_init 510 = .ok (.aload_n 0, 1) := by decide +kernel
theorem dX9_init_511 : decode cX9_init 511 = .ok (.bipush 6, 2) := by decide +kernel
theorem dX9_init_513 : decode cX9_init 513 = .ok (.newarray .int, 2) := by decide +kernel
theorem dX9_init_515 : decode cX9_init 515 = .ok (.putfield 175, 3) := by decide +kernel
theorem dX9_init_518 : decode cX9_init 518 = .ok (.aload_n 0, 1) := by decide +kernel
theorem dX9_init_519 : decode cX9_init 519 = .ok (.bipush 6, 2) := by decide +kernel
theorem dX9_init_521 : decode cX9_init 521 = .ok (.newarray .int, 2) := by decide +kernel
theorem dX9_init_523 : decode cX9_init 523 = .ok (.putfield 178, 3) := by decide +kernel
theorem dX9_init_526 : decode cX9_init 526 = .ok (.aload_n 0, 1) := by decide +kernel
theorem dX9_init_527 : decode cX9_init 527 = .ok (.bipush 6, 2) := by decide +kernel
theorem dX9_init_529 : decode cX9_init 529 = .ok (.newarray .int, 2) := by decide +kernel
theorem dX9_init_531 : decode cX9_init 531 = .ok (.putfield 181, 3) := by decide +kernel
theorem dX9_init_534 : decode cX9_init 534 = .ok (.aload_n 0, 1) := by decide +kernel
theorem dX9_init_535 : decode cX9_init 535 = .ok (.bipush 6, 2) := by decide +kernel
theorem dX9_init_537 : decode cX9_init 537 = .ok (.newarray .int, 2) := by decide +kernel
theorem dX9_init_539 : decode cX9_init 539 = .ok (.putfield 184, 3) := by decide +kernel
theorem dX9_init_542 : decode cX9_init 542 = .ok (.aload_n 0, 1) := by decide +kernel
theorem dX9_init_543 : decode cX9_init 543 = .ok (.bipush 6, 2) := by decide +kernel
theorem dX9_init_545 : decode cX9_init 545 = .ok (.newarray .int, 2) := by decide +kernel
theorem dX9_init_547 : decode cX9_init 547 = .ok (.putfield 187, 3) := by decide +kernel
theorem dX9_init_550 : decode cX9_init 550 = .ok (.aload_n 0, 1) := by decide +kernel
theorem dX9_init_551 : decode cX9_init 551 = .ok (.bipush 24, 2) := by decide +kernel
theorem dX9_init_553 : decode cX9_init 553 = .ok (.newarray .int, 2) := by decide +kernel
theorem dX9_init_555 : decode cX9_init 555 = .ok (.putfield 190, 3) := by decide +kernel
theorem dX9_init_558 : decode cX9_init 558 = .ok (.aload_n 0, 1) := by decide +kernel
theorem dX9_init_559 : decode cX9_init 559 = .ok (.iconst 5, 1) := by decide +kernel
theorem dX9_init_560 : decode cX9_init 560 = .ok (.newarray .int, 2) := by decide +kernel
theorem dX9_init_562 : decode cX9_init 562 = .ok (.putfield 193, 3) := by decide +kernel
theorem dX9_init_565 : decode cX9_init 565 = .ok (.aload_n 0, 1) := by decide +kernel
theorem dX9_init_566 : decode cX9_init 566 = .ok (.iconst 5, 1) := by decide +kernel
theorem dX9_init_567 : decode cX9_init 567 = .ok (.newarray .int, 2) := by decide +kernel
theorem dX9_init_569 : decode cX9_init 569 = .ok (.putfield 196, 3) := by decide +kernel
theorem dX9_init_572 : decode cX9_init 572 = .ok (.aload_n 0, 1) := by decide +kernel
theorem dX9_init_573 : decode cX9_init 573 = .ok (.iconst 5, 1) := by decide +kernel
theorem dX9_init_574 : decode cX9_init 574 = .ok (.newarray .int, 2) := by decide +kernel
theorem dX9_init_576 : decode cX9_init 576 = .ok (.putfield 199, 3) := by decide +kernel
theorem dX9_init_579 : decode cX9_init 579 = .ok (.aload_n 0, 1) := by decide +kernel
theorem dX9_init_580 : decode cX9_init 580 = .ok (.bipush 8, 2) := by decide +kernel
theorem dX9_init_582 : decode cX9_init 582 = .ok (.newarray .int, 2) := by decide +kernel
theorem dX9_init_584 : decode cX9_init 584 = .ok (.putfield 202, 3) := by decide +kernel
theorem dX9_init_587 : decode cX9_init 587 = .ok (.aload_n 0, 1) := by decide +kernel
theorem dX9_init_588 : decode cX9_init 588 = .ok (.bipush 8, 2) := by decide +kernel
theorem dX9_init_590 : decode cX9_init 590 = .ok (.newarray .int, 2) := by decide +kernel
theorem dX9_init_592 : decode cX9_init 592 = .ok (.putfield 205, 3) := by decide +kernel
theorem dX9_init_595 : decode cX9_init 595 = .ok (.aload_n 0, 1) := by decide +kernel
theorem dX9_init_596 : decode cX9_init 596 = .ok (.bipush 8, 2) := by decide +kernel
theorem dX9_init_598 : decode cX9_init 598 = .ok (.newarray .int, 2) := by decide +kernel
theorem dX9_init_600 : decode cX9_init 600 = .ok (.putfield 208, 3) := by decide +kernel
theorem dX9_init_603 : decode cX9_init 603 = .ok (.aload_n 0, 1) := by decide +kernel
theorem dX9_init_604 : decode cX9_init 604 = .ok (.bipush 8, 2) := by decide +kernel
theorem dX9_init_606 : decode cX9_init 606 = .ok (.newarray .int, 2) := by decide +kernel
theorem dX9_init_608 : decode cX9_init 608 = .ok (.putfield 211, 3) := by decide +kernel
theorem dX9_init_611 : decode cX9_init 611 = .ok (.aload_n 0, 1) := by decide +kernel
theorem dX9_init_612 : decode cX9_init 612 = .ok (.iconst 0, 1) := by decide +kernel
theorem dX9_init_613 : decode cX9_init 613 = .ok (.putfield 214, 3) := by decide +kernel
theorem dX9_init_616 : decode cX9_init 616 = .ok (.aload_n 0, 1) := by decide +kernel
theorem dX9_init_617 : decode cX9_init 617 = .ok (.bipush 20, 2) := by decide +kernel
theorem dX9_init_619 : decode cX9_init 619 = .ok (.newarray .int, 2) := by decide +kernel
theorem dX9_init_621 : decode cX9_init 621 = .ok (.putfield 217, 3) := by decide +kernel
theorem dX9_init_624 : decode cX9_init 624 = .ok (.aload_n 0, 1) := by decide +kernel
theorem dX9_init_625 : decode cX9_init 625 = .ok (.bipush 6, 2) := by decide +kernel
theorem dX9_init_627 : decode cX9_init 627 = .ok (.newarray .int, 2) := by decide +kernel
theorem dX9_init_629 : decode cX9_init 629 = .ok (.dup, 1) := by decide +kernel
theorem dX9_init_630 : decode cX9_init 630 = .ok (.iconst 0, 1) := by decide +kernel
theorem dX9_init_631 : decode cX9_init 631 = .ok (.iconst (-1), 1) := by decide +kernel
theorem dX9_init_632 : decode cX9_init 632 = .ok (.iastore, 1) := by decide +kernel
theorem dX9_init_633 : decode cX9_init 633 = .ok (.dup, 1) := by decide +kernel
theorem dX9_init_634 : decode cX9_init 634 = .ok (.iconst 1, 1) := by decide +kernel
theorem dX9_init_635 : decode cX9_init 635 = .ok (.iconst (-1), 1) := by decide +kernel
theorem dX9_init_636 : decode cX9_init 636 = .ok (.iastore, 1) := by decide +kernel
theorem dX9_init_637 : decode cX9_init 637 = .ok (.dup, 1) := by decide +kernel
theorem dX9_init_638 : decode cX9_init 638 = .ok (.iconst 2, 1) := by decide +kernel
theorem dX9_init_639 : decode cX9_init 639 = .ok (.iconst (-1), 1) := by decide +kernel
theorem dX9_init_640 : decode cX9_init 640 = .ok (.iastore, 1) := by decide +kernel
theorem dX9_init_641 : decode cX9_init 641 = .ok (.dup, 1) := by decide +kernel
theorem dX9_init_642 : decode cX9_init 642 = .ok (.iconst 3, 1) := by decide +kernel
theorem dX9_init_643 : decode cX9_init 643 = .ok (.iconst (-1), 1) := by decide +kernel
theorem dX9_init_644 : decode cX9_init 644 = .ok (.iastore, 1) := by decide +kernel
theorem dX9_init_645 : decode cX9_init 645 = .ok (.dup, 1) := by decide +kernel
theorem dX9_init_646 : decode cX9_init 646 = .ok (.iconst 4, 1) := by decide +kernel
theorem dX9_init_647 : decode cX9_init 647 = .ok (.iconst (-1), 1) := by decide +kernel
theorem dX9_init_648 : decode cX9_init 648 = .ok (.iastore, 1) := by decide +kernel
theorem dX9_init_649 : decode cX9_init 649 = .ok (.dup, 1) := by decide +kernel
theorem dX9_init_650 : decode cX9_init 650 = .ok (.iconst 5, 1) := by decide +kernel
theorem dX9_init_651 : decode cX9_init 651 = .ok (.iconst (-1), 1) := by decide +kernel
theorem dX9_init_652 : decode cX9_init 652 = .ok (.iastore, 1) := by decide +kernel
theorem dX9_init_653 : decode cX9_init 653 = .ok (.putfield 220, 3) := by decide +kernel
theorem dX9_init_656 : decode cX9_init 656 = .ok (.aload_n 0, 1) := by decide +kernel
theorem dX9_init_657 : decode cX9_init 657 = .ok (.bipush 6, 2) := by decide +kernel
theorem dX9_init_659 : decode cX9_init 659 = .ok (.newarray .int, 2) := by decide +kernel
theorem dX9_init_661 : decode cX9_init 661 = .ok (.putfield 223, 3) := by decide +kernel
theorem dX9_init_664 : decode cX9_init 664 = .ok (.aload_n 0, 1) := by decide +kernel
theorem dX9_init_665 : decode cX9_init 665 = .ok (.sipush 360, 3) := by decide +kernel
theorem dX9_init_668 : decode cX9_init 668 = .ok (.newarray .long, 2) := by decide +kernel
theorem dX9_init_670 : decode cX9_init 670 = .ok (.putfield 226, 3) := by decide +kernel
theorem dX9_init_673 : decode cX9_init 673 = .ok (.aload_n 0, 1) := by decide +kernel
theorem dX9_init_674 : decode cX9_init 674 = .ok (.bipush 60, 2) := by decide +kernel
theorem dX9_init_676 : decode cX9_init 676 = .ok (.newarray .long, 2) := by decide +kernel
theorem dX9_init_678 : decode cX9_init 678 = .ok (.putfield 230, 3) := by decide +kernel
theorem dX9_init_681 : decode cX9_init 681 = .ok (.return_, 1) := by decide +kernel
theorem dX9_in_0 : decode cX9_in 0 = .ok (.iload_n 1, 1) := by decide +kernel
theorem dX9_in_1 : decode cX9_in 1 = .ok (.iload_n 2, 1) := by decide +kernel
theorem dX9_in_2 : decode cX9_in 2 = .ok (.if_icmp .lt 12, 3) := by decide +kernel
theorem dX9_in_5 : decode cX9_in 5 = .ok (.iload_n 1, 1) := by decide +kernel
theorem dX9_in_6 : decode cX9_in 6 = .ok (.iload_n 3, 1) := by decide +kernel
theorem dX9_in_7 : decode cX9_in 7 = .ok (.if_icmp .gt 7, 3) := by decide +kernel
theorem dX9_in_10 : decode cX9_in 10 = .ok (.iconst 1, 1) := by decide +kernel
theorem dX9_in_11 : decode cX9_in 11 = .ok (.goto 4, 3) := by decide +kernel
theorem dX9_in_14 : decode cX9_in 14 = .ok (.iconst 0, 1) := by decide +kernel
theorem dX9_in_15 : decode cX9_in 15 = .ok (.ireturn, 1) := by decide +kernel
theorem dX9_has_0 : decode cX9_has 0 = .ok (.iload_n 1, 1) := by decide +kernel
theorem dX9_has_1 : decode cX9_has 1 = .ok (.iload_n 2, 1) := by decide +kernel
theorem dX9_has_2 : decode cX9_has 2 = .ok (.ishr, 1) := by decide +kernel
theorem dX9_has_3 : decode cX9_has 3 = .ok (.iconst 1, 1) := by decide +kernel
theorem dX9_has_4 : decode cX9_has 4 = .ok (.iand, 1) := by decide +kernel
theorem dX9_has_5 : decode cX9_has 5 = .ok (.iconst 1, 1) := by decide +kernel
theorem dX9_has_6 : decode cX9_has 6 = .ok (.if_icmp .ne 7, 3) := by decide +kernel
theorem dX9_has_9 : decode cX9_has 9 = .ok (.iconst 1, 1) := by decide +kernel
theorem dX9_has_10 : decode cX9_has 10 = .ok (.goto 4, 3) := by decide +kernel
theorem dX9_has_13 : decode cX9_has 13 = .ok (.iconst 0, 1) := by decide +kernel
theorem dX9_has_14 : decode cX9_has 14 = .ok (.ireturn, 1) := by decide +kernel
theorem dX9_least_0 : decode cX9_least 0 = .ok (.iload_n 1, 1) := by decide +kernel
theorem dX9_least_1 : decode cX9_least 1 = .ok (.iload_n 2, 1) := by decide +kernel
theorem dX9_least_2 : decode cX9_least 2 = .ok (.if_icmp .ge 7, 3) := by decide +kernel
theorem dX9_least_5 : decode cX9_least 5 = .ok (.iload_n 1, 1) := by decide +kernel
theorem dX9_least_6 : decode cX9_least 6 = .ok (.goto 4, 3) := by decide +kernel
theorem dX9_least_9 : decode cX9_least 9 = .ok (.iload_n 2, 1) := by decide +kernel
theorem dX9_least_10 : decode cX9_least 10 = .ok (.ireturn, 1) := by decide +kernel
theorem dX9_bits_0 : decode cX9_bits 0 = .ok (.iconst 0, 1) := by decide +kernel
theorem dX9_bits_1 : decode cX9_bits 1 = .ok (.istore_n 2, 1) := by decide +kernel
theorem dX9_bits_2 : decode cX9_bits 2 = .ok (.iconst 0, 1) := by decide +kernel
theorem dX9_bits_3 : decode cX9_bits 3 = .ok (.istore_n 3, 1) := by decide +kernel
theorem dX9_bits_4 : decode cX9_bits 4 = .ok (.iload_n 3, 1) := by decide +kernel
theorem dX9_bits_5 : decode cX9_bits 5 = .ok (.bipush 16, 2) := by decide +kernel
theorem dX9_bits_7 : decode cX9_bits 7 = .ok (.if_icmp .ge 26, 3) := by decide +kernel
theorem dX9_bits_10 : decode cX9_bits 10 = .ok (.iload_n 2, 1) := by decide +kernel
theorem dX9_bits_11 : decode cX9_bits 11 = .ok (.aload_n 0, 1) := by decide +kernel
theorem dX9_bits_12 : decode cX9_bits 12 = .ok (.iload_n 1, 1) := by decide +kernel
theorem dX9_bits_13 : decode cX9_bits 13 = .ok (.iload_n 3, 1) := by decide +kernel
theorem dX9_bits_14 : decode cX9_bits 14 = .ok (.invokevirtual 233, 3) := by decide +kernel
theorem dX9_bits_17 : decode cX9_bits 17 = .ok (.ifCond .eq 7, 3) := by decide +kernel
theorem dX9_bits_20 : decode cX9_bits 20 = .ok (.iconst 1, 1) := by decide +kernel
theorem dX9_bits_21 : decode cX9_bits 21 = .ok (.goto 4, 3) := by decide +kernel
theorem dX9_bits_24 : decode cX9_bits 24 = .ok (.iconst 0, 1) := by decide +kernel
theorem dX9_bits_25 : decode cX9_bits 25 = .ok (.iadd, 1) := by decide +kernel
theorem dX9_bits_26 : decode cX9_bits 26 = .ok (.istore_n 2, 1) := by decide +kernel
theorem dX9_bits_27 : decode cX9_bits 27 = .ok (.iinc 3 1, 3) := by decide +kernel
theorem dX9_bits_30 : decode cX9_bits 30 = .ok (.goto (-26), 3) := by decide +kernel
theorem dX9_bits_33 : decode cX9_bits 33 = .ok (.iload_n 2, 1) := by decide +kernel
theorem dX9_bits_34 : decode cX9_bits 34 = .ok (.ireturn, 1) := by decide +kernel
theorem dX9_isOne_0 : decode cX9_isOne 0 = .ok (.aload_n 0, 1) := by decide +kernel
theorem dX9_isOne_1 : decode cX9_isOne 1 = .ok (.iload_n 1, 1) := by decide +kernel
theorem dX9_isOne_2 : decode cX9_isOne 2 = .ok (.iconst 0, 1) := by decide +kernel
theorem dX9_isOne_3 : decode cX9_isOne 3 = .ok (.aload_n 0, 1) := by decide +kernel
theorem dX9_isOne_4 : decode cX9_isOne 4 = .ok (.getfield 7, 3) := by decide +kernel
theorem dX9_isOne_7 : decode cX9_isOne 7 = .ok (.iconst 1, 1) := by decide +kernel
theorem dX9_isOne_8 : decode cX9_isOne 8 = .ok (.isub, 1) := by decide +kernel
theorem dX9_isOne_9 : decode cX9_isOne 9 = .ok (.invokevirtual 237, 3) := by decide +kernel
theorem dX9_isOne_12 : decode cX9_isOne 12 = .ok (.ireturn, 1) := by decide +kernel
theorem dX9_isCell_0 : decode cX9_isCell 0 = .ok (.aload_n 0, 1) := by decide +kernel
theorem dX9_isCell_1 : decode cX9_isCell 1 = .ok (.iload_n 1, 1) := by decide +kernel
theorem dX9_isCell_2 : decode cX9_isCell 2 = .ok (.iconst 0, 1) := by decide +kernel
theorem dX9_isCell_3 : decode cX9_isCell 3 = .ok (.bipush 15, 2) := by decide +kernel
theorem dX9_isCell_5 : decode cX9_isCell 5 = .ok (.invokevirtual 237, 3) := by decide +kernel
theorem dX9_isCell_8 : decode cX9_isCell 8 = .ok (.ireturn, 1) := by decide +kernel
theorem dX9_isHours_0 : decode cX9_isHours 0 = .ok (.aload_n 0, 1) := by decide +kernel
theorem dX9_isHours_1 : decode cX9_isHours 1 = .ok (.iload_n 1, 1) := by decide +kernel
theorem dX9_isHours_2 : decode cX9_isHours 2 = .ok (.iconst 0, 1) := by decide +kernel
theorem dX9_isHours_3 : decode cX9_isHours 3 = .ok (.bipush 40, 2) := by decide +kernel
theorem dX9_isHours_5 : decode cX9_isHours 5 = .ok (.invokevirtual 237, 3) := by decide +kernel
theorem dX9_isHours_8 : decode cX9_isHours 8 = .ok (.ireturn, 1) := by decide +kernel
theorem dX9_traveller_0 : decode cX9_traveller 0 = .ok (.aload_n 0, 1) := by decide +kernel
theorem dX9_traveller_1 : decode cX9_traveller 1 = .ok (.iload_n 1, 1) := by decide +kernel
theorem dX9_traveller_2 : decode cX9_traveller 2 = .ok (.iconst 0, 1) := by decide +kernel
theorem dX9_traveller_3 : decode cX9_traveller 3 = .ok (.bipush 6, 2) := by decide +kernel
theorem dX9_traveller_5 : decode cX9_traveller 5 = .ok (.invokevirtual 237, 3) := by decide +kernel
theorem dX9_traveller_8 : decode cX9_traveller 8 = .ok (.ifCond .eq 11, 3) := by decide +kernel
theorem dX9_traveller_11 : decode cX9_traveller 11 = .ok (.aload_n 0, 1) := by decide +kernel
theorem dX9_traveller_12 : decode cX9_traveller 12 = .ok (.iload_n 3, 1) := by decide +kernel
theorem dX9_traveller_13 : decode cX9_traveller 13 = .ok (.invokevirtual 241, 3) := by decide +kernel
theorem dX9_traveller_16 : decode cX9_traveller 16 = .ok (.ifCond .ne 5, 3) := by decide +kernel
theorem dX9_traveller_19 : decode cX9_traveller 19 = .ok (.iconst (-1), 1) := by decide +kernel
theorem dX9_traveller_20 : decode cX9_traveller 20 = .ok (.ireturn, 1) := by decide +kernel
theorem dX9_traveller_21 : decode cX9_traveller 21 = .ok (.aload_n 0, 1) := by decide +kernel
theorem dX9_traveller_22 : decode cX9_traveller 22 = .ok (.iload_n 2, 1) := by decide +kernel
theorem dX9_traveller_23 : decode cX9_traveller 23 = .ok (.iconst 0, 1) := by decide +kernel
theorem dX9_traveller_24 : decode cX9_traveller 24 = .ok (.bipush 9, 2) := by decide +kernel
theorem dX9_traveller_26 : decode cX9_traveller 26 = .ok (.invokevirtual 237, 3) := by decide +kernel
theorem dX9_traveller_29 : decode cX9_traveller 29 = .ok (.ifCond .ne 6, 3) := by decide +kernel
theorem dX9_traveller_32 : decode cX9_traveller 32 = .ok (.bipush (-2), 2) := by decide +kernel
theorem dX9_traveller_34 : decode cX9_traveller 34 = .ok (.ireturn, 1) := by decide +kernel
theorem dX9_traveller_35 : decode cX9_traveller 35 = .ok (.aload_n 0, 1) := by decide +kernel
theorem dX9_traveller_36 : decode cX9_traveller 36 = .ok (.getfield 7, 3) := by decide +kernel
theorem dX9_traveller_39 : decode cX9_traveller 39 = .ok (.bipush 6, 2) := by decide +kernel
theorem dX9_traveller_41 : decode cX9_traveller 41 = .ok (.if_icmp .ne 6, 3) := by decide +kernel
theorem dX9_traveller_44 : decode cX9_traveller 44 = .ok (.bipush (-4), 2) := by decide +kernel
theorem dX9_traveller_46 : decode cX9_traveller 46 = .ok (.ireturn, 1) := by decide +kernel
theorem dX9_traveller_47 : decode cX9_traveller 47 = .ok (.aload_n 0, 1) := by decide +kernel
theorem dX9_traveller_48 : decode cX9_traveller 48 = .ok (.getfield 20, 3) := by decide +kernel
theorem dX9_traveller_51 : decode cX9_traveller 51 = .ok (.aload_n 0, 1) := by decide +kernel
theorem dX9_traveller_52 : decode cX9_traveller 52 = .ok (.getfield 7, 3) := by decide +kernel
theorem dX9_traveller_55 : decode cX9_traveller 55 = .ok (.iload_n 1, 1) := by decide +kernel
theorem dX9_traveller_56 : decode cX9_traveller 56 = .ok (.iastore, 1) := by decide +kernel
theorem dX9_traveller_57 : decode cX9_traveller 57 = .ok (.aload_n 0, 1) := by decide +kernel
theorem dX9_traveller_58 : decode cX9_traveller 58 = .ok (.getfield 23, 3) := by decide +kernel
theorem dX9_traveller_61 : decode cX9_traveller 61 = .ok (.aload_n 0, 1) := by decide +kernel
theorem dX9_traveller_62 : decode cX9_traveller 62 = .ok (.getfield 7, 3) := by decide +kernel
theorem dX9_traveller_65 : decode cX9_traveller 65 = .ok (.iload_n 2, 1) := by decide +kernel
theorem dX9_traveller_66 : decode cX9_traveller 66 = .ok (.iastore, 1) := by decide +kernel
theorem dX9_traveller_67 : decode cX9_traveller 67 = .ok (.aload_n 0, 1) := by decide +kernel
theorem dX9_traveller_68 : decode cX9_traveller 68 = .ok (.getfield 26, 3) := by decide +kernel
theorem dX9_traveller_71 : decode cX9_traveller 71 = .ok (.aload_n 0, 1) := by decide +kernel
theorem dX9_traveller_72 : decode cX9_traveller 72 = .ok (.getfield 7, 3) := by decide +kernel
theorem dX9_traveller_75 : decode cX9_traveller 75 = .ok (.iload_n 3, 1) := by decide +kernel
theorem dX9_traveller_76 : decode cX9_traveller 76 = .ok (.iastore, 1) := by decide +kernel
theorem dX9_traveller_77 : decode cX9_traveller 77 = .ok (.aload_n 0, 1) := by decide +kernel
theorem dX9_traveller_78 : decode cX9_traveller 78 = .ok (.getfield 29, 3) := by decide +kernel
theorem dX9_traveller_81 : decode cX9_traveller 81 = .ok (.aload_n 0, 1) := by decide +kernel
theorem dX9_traveller_82 : decode cX9_traveller 82 = .ok (.getfield 7, 3) := by decide +kernel
theorem dX9_traveller_85 : decode cX9_traveller 85 = .ok (.bipush (-5), 2) := by decide +kernel
theorem dX9_traveller_87 : decode cX9_traveller 87 = .ok (.iastore, 1) := by decide +kernel
theorem dX9_traveller_88 : decode cX9_traveller 88 = .ok (.aload_n 0, 1) := by decide +kernel
theorem dX9_traveller_89 : decode cX9_traveller 89 = .ok (.getfield 32, 3) := by decide +kernel
theorem dX9_traveller_92 : decode cX9_traveller 92 = .ok (.aload_n 0, 1) := by decide +kernel
theorem dX9_traveller_93 : decode cX9_traveller 93 = .ok (.getfield 7, 3) := by decide +kernel
theorem dX9_traveller_96 : decode cX9_traveller 96 = .ok (.iconst 0, 1) := by decide +kernel
theorem dX9_traveller_97 : decode cX9_traveller 97 = .ok (.iastore, 1) := by decide +kernel
theorem dX9_traveller_98 : decode cX9_traveller 98 = .ok (.aload_n 0, 1) := by decide +kernel
theorem dX9_traveller_99 : decode cX9_traveller 99 = .ok (.getfield 35, 3) := by decide +kernel
theorem dX9_traveller_102 : decode cX9_traveller 102 = .ok (.aload_n 0, 1) := by decide +kernel
theorem dX9_traveller_103 : decode cX9_traveller 103 = .ok (.getfield 7, 3) := by decide +kernel
theorem dX9_traveller_106 : decode cX9_traveller 106 = .ok (.iconst 0, 1) := by decide +kernel
theorem dX9_traveller_107 : decode cX9_traveller 107 = .ok (.iastore, 1) := by decide +kernel
theorem dX9_traveller_108 : decode cX9_traveller 108 = .ok (.iconst 0, 1) := by decide +kernel
theorem dX9_traveller_109 : decode cX9_traveller 109 = .ok (.istore 4, 2) := by decide +kernel
theorem dX9_traveller_111 : decode cX9_traveller 111 = .ok (.iload 4, 2) := by decide +kernel
theorem dX9_traveller_113 : decode cX9_traveller 113 = .ok (.iconst 4, 1) := by decide +kernel
theorem dX9_traveller_114 : decode cX9_traveller 114 = .ok (.if_icmp .ge 24, 3) := by decide +kernel
theorem dX9_traveller_117 : decode cX9_traveller 117 = .ok (.aload_n 0, 1) := by decide +kernel
theorem dX9_traveller_118 : decode cX9_traveller 118 = .ok (.getfield 38, 3) := by decide +kernel
theorem dX9_traveller_121 : decode cX9_traveller 121 = .ok (.iconst 4, 1) := by decide +kernel
theorem dX9_traveller_122 : decode cX9_traveller 122 = .ok (.aload_n 0, 1) := by decide +kernel
theorem dX9_traveller_123 : decode cX9_traveller 123 = .ok (.getfield 7, 3) := by decide +kernel
theorem dX9_traveller_126 : decode cX9_traveller 126 = .ok (.imul, 1) := by decide +kernel
theorem dX9_traveller_127 : decode cX9_traveller 127 = .ok (.iload 4, 2) := by decide +kernel
theorem dX9_traveller_129 : decode cX9_traveller 129 = .ok (.iadd, 1) := by decide +kernel
theorem dX9_traveller_130 : decode cX9_traveller 130 = .ok (.iconst 0, 1) := by decide +kernel
theorem dX9_traveller_131 : decode cX9_traveller 131 = .ok (.iastore, 1) := by decide +kernel
theorem dX9_traveller_132 : decode cX9_traveller 132 = .ok (.iinc 4 1, 3) := by decide +kernel
theorem dX9_traveller_135 : decode cX9_traveller 135 = .ok (.goto (-24), 3) := by decide +kernel
theorem dX9_traveller_138 : decode cX9_traveller 138 = .ok (.aload_n 0, 1) := by decide +kernel
theorem dX9_traveller_139 : decode cX9_traveller 139 = .ok (.dup, 1) := by decide +kernel
theorem dX9_traveller_140 : decode cX9_traveller 140 = .ok (.getfield 7, 3) := by decide +kernel
theorem dX9_traveller_143 : decode cX9_traveller 143 = .ok (.iconst 1, 1) := by decide +kernel
theorem dX9_traveller_144 : decode cX9_traveller 144 = .ok (.iadd, 1) := by decide +kernel
theorem dX9_traveller_145 : decode cX9_traveller 145 = .ok (.putfield 7, 3) := by decide +kernel
theorem dX9_traveller_148 : decode cX9_traveller 148 = .ok (.aload_n 0, 1) := by decide +kernel
theorem dX9_traveller_149 : decode cX9_traveller 149 = .ok (.getfield 7, 3) := by decide +kernel
theorem dX9_traveller_152 : decode cX9_traveller 152 = .ok (.iconst 1, 1) := by decide +kernel
theorem dX9_traveller_153 : decode cX9_traveller 153 = .ok (.isub, 1) := by decide +kernel
theorem dX9_traveller_154 : decode cX9_traveller 154 = .ok (.ireturn, 1) := by decide +kernel
theorem dX9_goal_0 : decode cX9_goal 0 = .ok (.aload_n 0, 1) := by decide +kernel
theorem dX9_goal_1 : decode cX9_goal 1 = .ok (.iload_n 1, 1) := by decide +kernel
theorem dX9_goal_2 : decode cX9_goal 2 = .ok (.invokevirtual 245, 3) := by decide +kernel
theorem dX9_goal_5 : decode cX9_goal 5 = .ok (.ifCond .eq 16, 3) := by decide +kernel
theorem dX9_goal_8 : decode cX9_goal 8 = .ok (.iload_n 2, 1) := by decide +kernel
theorem dX9_goal_9 : decode cX9_goal 9 = .ok (.iconst (-1), 1) := by decide +kernel
theorem dX9_goal_10 : decode cX9_goal 10 = .ok (.if_icmp .eq 13, 3) := by decide +kernel
theorem dX9_goal_13 : decode cX9_goal 13 = .ok (.aload_n 0, 1) := by decide +kernel
theorem dX9_goal_14 : decode cX9_goal 14 = .ok (.iload_n 2, 1) := by decide +kernel
theorem dX9_goal_15 : decode cX9_goal 15 = .ok (.invokevirtual 241, 3) := by decide +kernel
theorem dX9_goal_18 : decode cX9_goal 18 = .ok (.ifCond .ne 5, 3) := by decide +kernel
theorem dX9_goal_21 : decode cX9_goal 21 = .ok (.iconst (-1), 1) := by decide +kernel
theorem dX9_goal_22 : decode cX9_goal 22 = .ok (.ireturn, 1) := by decide +kernel
theorem dX9_goal_23 : decode cX9_goal 23 = .ok (.aload_n 0, 1) := by decide +kernel
theorem dX9_goal_24 : decode cX9_goal 24 = .ok (.getfield 29, 3) := by decide +kernel
theorem dX9_goal_27 : decode cX9_goal 27 = .ok (.iload_n 1, 1) := by decide +kernel
theorem dX9_goal_28 : decode cX9_goal 28 = .ok (.iaload, 1) := by decide +kernel
theorem dX9_goal_29 : decode cX9_goal 29 = .ok (.istore_n 3, 1) := by decide +kernel
theorem dX9_goal_30 : decode cX9_goal 30 = .ok (.aload_n 0, 1) := by decide +kernel
theorem dX9_goal_31 : decode cX9_goal 31 = .ok (.getfield 29, 3) := by decide +kernel
theorem dX9_goal_34 : decode cX9_goal 34 = .ok (.iload_n 1, 1) := by decide +kernel
theorem dX9_goal_35 : decode cX9_goal 35 = .ok (.iload_n 2, 1) := by decide +kernel
theorem dX9_goal_36 : decode cX9_goal 36 = .ok (.ifCond .ge 8, 3) := by decide +kernel
theorem dX9_goal_39 : decode cX9_goal 39 = .ok (.bipush (-5), 2) := by decide +kernel
theorem dX9_goal_41 : decode cX9_goal 41 = .ok (.goto 4, 3) := by decide +kernel
theorem dX9_goal_44 : decode cX9_goal 44 = .ok (.iload_n 2, 1) := by decide +kernel
theorem dX9_goal_45 : decode cX9_goal 45 = .ok (.iastore, 1) := by decide +kernel
theorem dX9_goal_46 : decode cX9_goal 46 = .ok (.iload_n 3, 1) := by decide +kernel
theorem dX9_goal_47 : decode cX9_goal 47 = .ok (.ireturn, 1) := by decide +kernel
theorem dX9_put_0 : decode cX9_put 0 = .ok (.aload_n 0, 1) := by decide +kernel
theorem dX9_put_1 : decode cX9_put 1 = .ok (.iload_n 1, 1) := by decide +kernel
theorem dX9_put_2 : decode cX9_put 2 = .ok (.invokevirtual 245, 3) := by decide +kernel
theorem dX9_put_5 : decode cX9_put 5 = .ok (.ifCond .eq 11, 3) := by decide +kernel
theorem dX9_put_8 : decode cX9_put 8 = .ok (.aload_n 0, 1) := by decide +kernel
theorem dX9_put_9 : decode cX9_put 9 = .ok (.iload_n 2, 1) := by decide +kernel
theorem dX9_put_10 : decode cX9_put 10 = .ok (.invokevirtual 241, 3) := by decide +kernel
theorem dX9_put_13 : decode cX9_put 13 = .ok (.ifCond .ne 5, 3) := by decide +kernel
theorem dX9_put_16 : decode cX9_put 16 = .ok (.iconst (-1), 1) := by decide +kernel
theorem dX9_put_17 : decode cX9_put 17 = .ok (.ireturn, 1) := by decide +kernel
theorem dX9_put_18 : decode cX9_put 18 = .ok (.aload_n 0, 1) := by decide +kernel
theorem dX9_put_19 : decode cX9_put 19 = .ok (.getfield 26, 3) := by decide +kernel
theorem dX9_put_22 : decode cX9_put 22 = .ok (.iload_n 1, 1) := by decide +kernel
theorem dX9_put_23 : decode cX9_put 23 = .ok (.iaload, 1) := by decide +kernel
theorem dX9_put_24 : decode cX9_put 24 = .ok (.istore_n 3, 1) := by decide +kernel
theorem dX9_put_25 : decode cX9_put 25 = .ok (.aload_n 0, 1) := by decide +kernel
theorem dX9_put_26 : decode cX9_put 26 = .ok (.getfield 26, 3) := by decide +kernel
theorem dX9_put_29 : decode cX9_put 29 = .ok (.iload_n 1, 1) := by decide +kernel
theorem dX9_put_30 : decode cX9_put 30 = .ok (.iload_n 2, 1) := by decide +kernel
theorem dX9_put_31 : decode cX9_put 31 = .ok (.iastore, 1) := by decide +kernel
theorem dX9_put_32 : decode cX9_put 32 = .ok (.iload_n 3, 1) := by decide +kernel
theorem dX9_put_33 : decode cX9_put 33 = .ok (.ireturn, 1) := by decide +kernel
theorem dX9_chart_0 : decode cX9_chart 0 = .ok (.aload_n 0, 1) := by decide +kernel
theorem dX9_chart_1 : decode cX9_chart 1 = .ok (.iload_n 1, 1) := by decide +kernel
theorem dX9_chart_2 : decode cX9_chart 2 = .ok (.invokevirtual 245, 3) := by decide +kernel
theorem dX9_chart_5 : decode cX9_chart 5 = .ok (.ifCond .ne 5, 3) := by decide +kernel
theorem dX9_chart_8 : decode cX9_chart 8 = .ok (.iconst (-1), 1) := by decide +kernel
theorem dX9_chart_9 : decode cX9_chart 9 = .ok (.ireturn, 1) := by decide +kernel
theorem dX9_chart_10 : decode cX9_chart 10 = .ok (.aload_n 0, 1) := by decide +kernel
theorem dX9_chart_11 : decode cX9_chart 11 = .ok (.iload_n 2, 1) := by decide +kernel
theorem dX9_chart_12 : decode cX9_chart 12 = .ok (.iconst 0, 1) := by decide +kernel
theorem dX9_chart_13 : decode cX9_chart 13 = .ok (.ldc 248, 2) := by decide +kernel
theorem dX9_chart_15 : decode cX9_chart 15 = .ok (.invokevirtual 237, 3) := by decide +kernel
theorem dX9_chart_18 : decode cX9_chart 18 = .ok (.ifCond .ne 6, 3) := by decide +kernel
theorem dX9_chart_21 : decode cX9_chart 21 = .ok (.bipush (-2), 2) := by decide +kernel
theorem dX9_chart_23 : decode cX9_chart 23 = .ok (.ireturn, 1) := by decide +kernel
theorem dX9_chart_24 : decode cX9_chart 24 = .ok (.aload_n 0, 1) := by decide +kernel
theorem dX9_chart_25 : decode cX9_chart 25 = .ok (.getfield 32, 3) := by decide +kernel
theorem dX9_chart_28 : decode cX9_chart 28 = .ok (.iload_n 1, 1) := by decide +kernel
theorem dX9_chart_29 : decode cX9_chart 29 = .ok (.iaload, 1) := by decide +kernel
theorem dX9_chart_30 : decode cX9_chart 30 = .ok (.istore_n 3, 1) := by decide +kernel
theorem dX9_chart_31 : decode cX9_chart 31 = .ok (.aload_n 0, 1) := by decide +kernel
theorem dX9_chart_32 : decode cX9_chart 32 = .ok (.getfield 32, 3) := by decide +kernel
theorem dX9_chart_35 : decode cX9_chart 35 = .ok (.iload_n 1, 1) := by decide +kernel
theorem dX9_chart_36 : decode cX9_chart 36 = .ok (.iload_n 2, 1) := by decide +kernel
theorem dX9_chart_37 : decode cX9_chart 37 = .ok (.iastore, 1) := by decide +kernel
theorem dX9_chart_38 : decode cX9_chart 38 = .ok (.iload_n 3, 1) := by decide +kernel
theorem dX9_chart_39 : decode cX9_chart 39 = .ok (.ireturn, 1) := by decide +kernel
theorem dX9_gate_0 : decode cX9_gate 0 = .ok (.aload_n 0, 1) := by decide +kernel
theorem dX9_gate_1 : decode cX9_gate 1 = .ok (.iload_n 1, 1) := by decide +kernel
theorem dX9_gate_2 : decode cX9_gate 2 = .ok (.invokevirtual 241, 3) := by decide +kernel
theorem dX9_gate_5 : decode cX9_gate 5 = .ok (.ifCond .ne 5, 3) := by decide +kernel
theorem dX9_gate_8 : decode cX9_gate 8 = .ok (.iconst (-1), 1) := by decide +kernel
theorem dX9_gate_9 : decode cX9_gate 9 = .ok (.ireturn, 1) := by decide +kernel
theorem dX9_gate_10 : decode cX9_gate 10 = .ok (.aload_n 0, 1) := by decide +kernel
theorem dX9_gate_11 : decode cX9_gate 11 = .ok (.iload_n 2, 1) := by decide +kernel
theorem dX9_gate_12 : decode cX9_gate 12 = .ok (.iconst 0, 1) := by decide +kernel
theorem dX9_gate_13 : decode cX9_gate 13 = .ok (.bipush 9, 2) := by decide +kernel
theorem dX9_gate_15 : decode cX9_gate 15 = .ok (.invokevirtual 237, 3) := by decide +kernel
theorem dX9_gate_18 : decode cX9_gate 18 = .ok (.ifCond .ne 6, 3) := by decide +kernel
theorem dX9_gate_21 : decode cX9_gate 21 = .ok (.bipush (-2), 2) := by decide +kernel
theorem dX9_gate_23 : decode cX9_gate 23 = .ok (.ireturn, 1) := by decide +kernel
theorem dX9_gate_24 : decode cX9_gate 24 = .ok (.aload_n 0, 1) := by decide +kernel
theorem dX9_gate_25 : decode cX9_gate 25 = .ok (.getfield 16, 3) := by decide +kernel
theorem dX9_gate_28 : decode cX9_gate 28 = .ok (.iload_n 1, 1) := by decide +kernel
theorem dX9_gate_29 : decode cX9_gate 29 = .ok (.iaload, 1) := by decide +kernel
theorem dX9_gate_30 : decode cX9_gate 30 = .ok (.istore_n 3, 1) := by decide +kernel
theorem dX9_gate_31 : decode cX9_gate 31 = .ok (.aload_n 0, 1) := by decide +kernel
theorem dX9_gate_32 : decode cX9_gate 32 = .ok (.getfield 16, 3) := by decide +kernel
theorem dX9_gate_35 : decode cX9_gate 35 = .ok (.iload_n 1, 1) := by decide +kernel
theorem dX9_gate_36 : decode cX9_gate 36 = .ok (.iload_n 2, 1) := by decide +kernel
theorem dX9_gate_37 : decode cX9_gate 37 = .ok (.iastore, 1) := by decide +kernel
theorem dX9_gate_38 : decode cX9_gate 38 = .ok (.iload_n 3, 1) := by decide +kernel
theorem dX9_gate_39 : decode cX9_gate 39 = .ok (.ireturn, 1) := by decide +kernel
theorem dX9_row_0 : decode cX9_row 0 = .ok (.aload_n 0, 1) := by decide +kernel
theorem dX9_row_1 : decode cX9_row 1 = .ok (.iload_n 1, 1) := by decide +kernel
theorem dX9_row_2 : decode cX9_row 2 = .ok (.invokevirtual 245, 3) := by decide +kernel
theorem dX9_row_5 : decode cX9_row 5 = .ok (.ifCond .eq 13, 3) := by decide +kernel
theorem dX9_row_8 : decode cX9_row 8 = .ok (.aload_n 0, 1) := by decide +kernel
theorem dX9_row_9 : decode cX9_row 9 = .ok (.iload_n 2, 1) := by decide +kernel
theorem dX9_row_10 : decode cX9_row 10 = .ok (.iconst 0, 1) := by decide +kernel
theorem dX9_row_11 : decode cX9_row 11 = .ok (.iconst 3, 1) := by decide +kernel
theorem dX9_row_12 : decode cX9_row 12 = .ok (.invokevirtual 237, 3) := by decide +kernel
theorem dX9_row_15 : decode cX9_row 15 = .ok (.ifCond .ne 5, 3) := by decide +kernel
theorem dX9_row_18 : decode cX9_row 18 = .ok (.iconst (-1), 1) := by decide +kernel
theorem dX9_row_19 : decode cX9_row 19 = .ok (.ireturn, 1) := by decide +kernel
theorem dX9_row_20 : decode cX9_row 20 = .ok (.aload_n 0, 1) := by decide +kernel
theorem dX9_row_21 : decode cX9_row 21 = .ok (.iload_n 3, 1) := by decide +kernel
theorem dX9_row_22 : decode cX9_row 22 = .ok (.iconst 0, 1) := by decide +kernel
theorem dX9_row_23 : decode cX9_row 23 = .ok (.bipush 9, 2) := by decide +kernel
theorem dX9_row_25 : decode cX9_row 25 = .ok (.invokevirtual 237, 3) := by decide +kernel
theorem dX9_row_28 : decode cX9_row 28 = .ok (.ifCond .ne 6, 3) := by decide +kernel
theorem dX9_row_31 : decode cX9_row 31 = .ok (.bipush (-2), 2) := by decide +kernel
theorem dX9_row_33 : decode cX9_row 33 = .ok (.ireturn, 1) := by decide +kernel
theorem dX9_row_34 : decode cX9_row 34 = .ok (.aload_n 0, 1) := by decide +kernel
theorem dX9_row_35 : decode cX9_row 35 = .ok (.getfield 20, 3) := by decide +kernel
theorem dX9_row_38 : decode cX9_row 38 = .ok (.iload_n 1, 1) := by decide +kernel
theorem dX9_row_39 : decode cX9_row 39 = .ok (.iaload, 1) := by decide +kernel
theorem dX9_row_40 : decode cX9_row 40 = .ok (.bipush 6, 2) := by decide +kernel
theorem dX9_row_42 : decode cX9_row 42 = .ok (.if_icmp .eq 6, 3) := by decide +kernel
theorem dX9_row_45 : decode cX9_row 45 = .ok (.bipush (-3), 2) := by decide +kernel
theorem dX9_row_47 : decode cX9_row 47 = .ok (.ireturn, 1) := by decide +kernel
theorem dX9_row_48 : decode cX9_row 48 = .ok (.aload_n 0, 1) := by decide +kernel
theorem dX9_row_49 : decode cX9_row 49 = .ok (.getfield 38, 3) := by decide +kernel
theorem dX9_row_52 : decode cX9_row 52 = .ok (.iconst 4, 1) := by decide +kernel
theorem dX9_row_53 : decode cX9_row 53 = .ok (.iload_n 1, 1) := by decide +kernel
theorem dX9_row_54 : decode cX9_row 54 = .ok (.imul, 1) := by decide +kernel
theorem dX9_row_55 : decode cX9_row 55 = .ok (.iload_n 2, 1) := by decide +kernel
theorem dX9_row_56 : decode cX9_row 56 = .ok (.iadd, 1) := by decide +kernel
theorem dX9_row_57 : decode cX9_row 57 = .ok (.iaload, 1) := by decide +kernel
theorem dX9_row_58 : decode cX9_row 58 = .ok (.istore 4, 2) := by decide +kernel
theorem dX9_row_60 : decode cX9_row 60 = .ok (.aload_n 0, 1) := by decide +kernel
theorem dX9_row_61 : decode cX9_row 61 = .ok (.getfield 38, 3) := by decide +kernel
theorem dX9_row_64 : decode cX9_row 64 = .ok (.iconst 4, 1) := by decide +kernel
theorem dX9_row_65 : decode cX9_row 65 = .ok (.iload_n 1, 1) := by decide +kernel
theorem dX9_row_66 : decode cX9_row 66 = .ok (.imul, 1) := by decide +kernel
theorem dX9_row_67 : decode cX9_row 67 = .ok (.iload_n 2, 1) := by decide +kernel
theorem dX9_row_68 : decode cX9_row 68 = .ok (.iadd, 1) := by decide +kernel
theorem dX9_row_69 : decode cX9_row 69 = .ok (.iload_n 3, 1) := by decide +kernel
theorem dX9_row_70 : decode cX9_row 70 = .ok (.iastore, 1) := by decide +kernel
theorem dX9_row_71 : decode cX9_row 71 = .ok (.iload 4, 2) := by decide +kernel
theorem dX9_row_73 : decode cX9_row 73 = .ok (.ireturn, 1) := by decide +kernel
theorem dX9_feed_0 : decode cX9_feed 0 = .ok (.aload_n 0, 1) := by decide +kernel
theorem dX9_feed_1 : decode cX9_feed 1 = .ok (.iload_n 1, 1) := by decide +kernel
theorem dX9_feed_2 : decode cX9_feed 2 = .ok (.iconst 0, 1) := by decide +kernel
theorem dX9_feed_3 : decode cX9_feed 3 = .ok (.bipush 127, 2) := by decide +kernel
theorem dX9_feed_5 : decode cX9_feed 5 = .ok (.invokevirtual 237, 3) := by decide +kernel
theorem dX9_feed_8 : decode cX9_feed 8 = .ok (.ifCond .ne 6, 3) := by decide +kernel
theorem dX9_feed_11 : decode cX9_feed 11 = .ok (.bipush (-2), 2) := by decide +kernel
theorem dX9_feed_13 : decode cX9_feed 13 = .ok (.ireturn, 1) := by decide +kernel
theorem dX9_feed_14 : decode cX9_feed 14 = .ok (.aload_n 0, 1) := by decide +kernel
theorem dX9_feed_15 : decode cX9_feed 15 = .ok (.getfield 47, 3) := by decide +kernel
theorem dX9_feed_18 : decode cX9_feed 18 = .ok (.bipush 100, 2) := by decide +kernel
theorem dX9_feed_20 : decode cX9_feed 20 = .ok (.if_icmp .ne 6, 3) := by decide +kernel
theorem dX9_feed_23 : decode cX9_feed 23 = .ok (.bipush (-4), 2) := by decide +kernel
theorem dX9_feed_25 : decode cX9_feed 25 = .ok (.ireturn, 1) := by decide +kernel
theorem dX9_feed_26 : decode cX9_feed 26 = .ok (.aload_n 0, 1) := by decide +kernel
theorem dX9_feed_27 : decode cX9_feed 27 = .ok (.getfield 56, 3) := by decide +kernel
theorem dX9_feed_30 : decode cX9_feed 30 = .ok (.aload_n 0, 1) := by decide +kernel
theorem dX9_feed_31 : decode cX9_feed 31 = .ok (.getfield 47, 3) := by decide +kernel
theorem dX9_feed_34 : decode cX9_feed 34 = .ok (.iload_n 1, 1) := by decide +kernel
theorem dX9_feed_35 : decode cX9_feed 35 = .ok (.iastore, 1) := by decide +kernel
theorem dX9_feed_36 : decode cX9_feed 36 = .ok (.aload_n 0, 1) := by decide +kernel
theorem dX9_feed_37 : decode cX9_feed 37 = .ok (.dup, 1) := by decide +kernel
theorem dX9_feed_38 : decode cX9_feed 38 = .ok (.getfield 47, 3) := by decide +kernel
theorem dX9_feed_41 : decode cX9_feed 41 = .ok (.iconst 1, 1) := by decide +kernel
theorem dX9_feed_42 : decode cX9_feed 42 = .ok (.iadd, 1) := by decide +kernel
theorem dX9_feed_43 : decode cX9_feed 43 = .ok (.putfield 47, 3) := by decide +kernel
theorem dX9_feed_46 : decode cX9_feed 46 = .ok (.aload_n 0, 1) := by decide +kernel
theorem dX9_feed_47 : decode cX9_feed 47 = .ok (.getfield 47, 3) := by decide +kernel
theorem dX9_feed_50 : decode cX9_feed 50 = .ok (.ireturn, 1) := by decide +kernel
theorem dX9_next_0 : decode cX9_next 0 = .ok (.aload_n 0, 1) := by decide +kernel
theorem dX9_next_1 : decode cX9_next 1 = .ok (.getfield 50, 3) := by decide +kernel
theorem dX9_next_4 : decode cX9_next 4 = .ok (.aload_n 0, 1) := by decide +kernel
theorem dX9_next_5 : decode cX9_next 5 = .ok (.getfield 47, 3) := by decide +kernel
theorem dX9_next_8 : decode cX9_next 8 = .ok (.if_icmp .ge 15, 3) := by decide +kernel
theorem dX9_next_11 : decode cX9_next 11 = .ok (.aload_n 0, 1) := by decide +kernel
theorem dX9_next_12 : decode cX9_next 12 = .ok (.getfield 56, 3) := by decide +kernel
theorem dX9_next_15 : decode cX9_next 15 = .ok (.aload_n 0, 1) := by decide +kernel
theorem dX9_next_16 : decode cX9_next 16 = .ok (.getfield 50, 3) := by decide +kernel
theorem dX9_next_19 : decode cX9_next 19 = .ok (.iaload, 1) := by decide +kernel
theorem dX9_next_20 : decode cX9_next 20 = .ok (.goto 4, 3) := by decide +kernel
theorem dX9_next_23 : decode cX9_next 23 = .ok (.iconst (-1), 1) := by decide +kernel
theorem dX9_next_24 : decode cX9_next 24 = .ok (.ireturn, 1) := by decide +kernel
theorem dX9_takes_0 : decode cX9_takes 0 = .ok (.aload_n 0, 1) := by decide +kernel
theorem dX9_takes_1 : decode cX9_takes 1 = .ok (.invokevirtual 249, 3) := by decide +kernel
theorem dX9_takes_4 : decode cX9_takes 4 = .ok (.iload_n 1, 1) := by decide +kernel
theorem dX9_takes_5 : decode cX9_takes 5 = .ok (.if_icmp .eq 5, 3) := by decide +kernel
theorem dX9_takes_8 : decode cX9_takes 8 = .ok (.iconst 0, 1) := by decide +kernel
theorem dX9_takes_9 : decode cX9_takes 9 = .ok (.ireturn, 1) := by decide +kernel
theorem dX9_takes_10 : decode cX9_takes 10 = .ok (.aload_n 0, 1) := by decide +kernel
theorem dX9_takes_11 : decode cX9_takes 11 = .ok (.dup, 1) := by decide +kernel
theorem dX9_takes_12 : decode cX9_takes 12 = .ok (.getfield 50, 3) := by decide +kernel
theorem dX9_takes_15 : decode cX9_takes 15 = .ok (.iconst 1, 1) := by decide +kernel
theorem dX9_takes_16 : decode cX9_takes 16 = .ok (.iadd, 1) := by decide +kernel
theorem dX9_takes_17 : decode cX9_takes 17 = .ok (.putfield 50, 3) := by decide +kernel
theorem dX9_takes_20 : decode cX9_takes 20 = .ok (.iconst 1, 1) := by decide +kernel
theorem dX9_takes_21 : decode cX9_takes 21 = .ok (.ireturn, 1) := by decide +kernel
theorem dX9_takesWord_0 : decode cX9_takesWord 0 = .ok (.iconst 0, 1) := by decide +kernel
theorem dX9_takesWord_1 : decode cX9_takesWord 1 = .ok (.istore_n 3, 1) := by decide +kernel
theorem dX9_takesWord_2 : decode cX9_takesWord 2 = .ok (.iload_n 3, 1) := by decide +kernel
theorem dX9_takesWord_3 : decode cX9_takesWord 3 = .ok (.iload_n 2, 1) := by decide +kernel
theorem dX9_takesWord_4 : decode cX9_takesWord 4 = .ok (.if_icmp .ge 26, 3) := by decide +kernel
theorem dX9_takesWord_7 : decode cX9_takesWord 7 = .ok (.aload_n 0, 1) := by decide +kernel
theorem dX9_takesWord_8 : decode cX9_takesWord 8 = .ok (.aload_n 0, 1) := by decide +kernel
theorem dX9_takesWord_9 : decode cX9_takesWord 9 = .ok (.getfield 89, 3) := by decide +kernel
theorem dX9_takesWord_12 : decode cX9_takesWord 12 = .ok (.iload_n 1, 1) := by decide +kernel
theorem dX9_takesWord_13 : decode cX9_takesWord 13 = .ok (.iload_n 3, 1) := by decide +kernel
theorem dX9_takesWord_14 : decode cX9_takesWord 14 = .ok (.iadd, 1) := by decide +kernel
theorem dX9_takesWord_15 : decode cX9_takesWord 15 = .ok (.iaload, 1) := by decide +kernel
theorem dX9_takesWord_16 : decode cX9_takesWord 16 = .ok (.invokevirtual 253, 3) := by decide +kernel
theorem dX9_takesWord_19 : decode cX9_takesWord 19 = .ok (.ifCond .ne 5, 3) := by decide +kernel
theorem dX9_takesWord_22 : decode cX9_takesWord 22 = .ok (.iconst 0, 1) := by decide +kernel
theorem dX9_takesWord_23 : decode cX9_takesWord 23 = .ok (.ireturn, 1) := by decide +kernel
theorem dX9_takesWord_24 : decode cX9_takesWord 24 = .ok (.iinc 3 1, 3) := by decide +kernel
theorem dX9_takesWord_27 : decode cX9_takesWord 27 = .ok (.goto (-25), 3) := by decide +kernel
theorem dX9_takesWord_30 : decode cX9_takesWord 30 = .ok (.aload_n 0, 1) := by decide +kernel
theorem dX9_takesWord_31 : decode cX9_takesWord 31 = .ok (.bipush 32, 2) := by decide +kernel
theorem dX9_takesWord_33 : decode cX9_takesWord 33 = .ok (.invokevirtual 253, 3) := by decide +kernel
theorem dX9_takesWord_36 : decode cX9_takesWord 36 = .ok (.ireturn, 1) := by decide +kernel
theorem dX9_isDigit_0 : decode cX9_isDigit 0 = .ok (.aload_n 0, 1) := by decide +kernel
theorem dX9_isDigit_1 : decode cX9_isDigit 1 = .ok (.aload_n 0, 1) := by decide +kernel
theorem dX9_isDigit_2 : decode cX9_isDigit 2 = .ok (.invokevirtual 249, 3) := by decide +kernel
theorem dX9_isDigit_5 : decode cX9_isDigit 5 = .ok (.bipush 48, 2) := by decide +kernel
theorem dX9_isDigit_7 : decode cX9_isDigit 7 = .ok (.bipush 57, 2) := by decide +kernel
theorem dX9_isDigit_9 : decode cX9_isDigit 9 = .ok (.invokevirtual 237, 3) := by decide +kernel
theorem dX9_isDigit_12 : decode cX9_isDigit 12 = .ok (.ireturn, 1) := by decide +kernel
theorem dX9_takesNumber_0 : decode cX9_takesNumber 0 = .ok (.aload_n 0, 1) := by decide +kernel
theorem dX9_takesNumber_1 : decode cX9_takesNumber 1 = .ok (.invokevirtual 256, 3) := by decide +kernel
theorem dX9_takesNumber_4 : decode cX9_takesNumber 4 = .ok (.ifCond .ne 5, 3) := by decide +kernel
theorem dX9_takesNumber_7 : decode cX9_takesNumber 7 = .ok (.iconst 0, 1) := by decide +kernel
theorem dX9_takesNumber_8 : decode cX9_takesNumber 8 = .ok (.ireturn, 1) := by decide +kernel
theorem dX9_takesNumber_9 : decode cX9_takesNumber 9 = .ok (.aload_n 0, 1) := by decide +kernel
theorem dX9_takesNumber_10 : decode cX9_takesNumber 10 = .ok (.iconst 0, 1) := by decide +kernel
theorem dX9_takesNumber_11 : decode cX9_takesNumber 11 = .ok (.putfield 53, 3) := by decide +kernel
theorem dX9_takesNumber_14 : decode cX9_takesNumber 14 = .ok (.iconst 0, 1) := by decide +kernel
theorem dX9_takesNumber_15 : decode cX9_takesNumber 15 = .ok (.istore_n 1, 1) := by decide +kernel
theorem dX9_takesNumber_16 : decode cX9_takesNumber 16 = .ok (.iload_n 1, 1) := by decide +kernel
theorem dX9_takesNumber_17 : decode cX9_takesNumber 17 = .ok (.iconst 2, 1) := by decide +kernel
theorem dX9_takesNumber_18 : decode cX9_takesNumber 18 = .ok (.if_icmp .ge 45, 3) := by decide +kernel
theorem dX9_takesNumber_21 : decode cX9_takesNumber 21 = .ok (.aload_n 0, 1) := by decide +kernel
theorem dX9_takesNumber_22 : decode cX9_takesNumber 22 = .ok (.invokevirtual 256, 3) := by decide +kernel
theorem dX9_takesNumber_25 : decode cX9_takesNumber 25 = .ok (.ifCond .eq 38, 3) := by decide +kernel
theorem dX9_takesNumber_28 : decode cX9_takesNumber 28 = .ok (.aload_n 0, 1) := by decide +kernel
theorem dX9_takesNumber_29 : decode cX9_takesNumber 29 = .ok (.bipush 10, 2) := by decide +kernel
theorem dX9_takesNumber_31 : decode cX9_takesNumber 31 = .ok (.aload_n 0, 1) := by decide +kernel
theorem dX9_takesNumber_32 : decode cX9_takesNumber 32 = .ok (.getfield 53, 3) := by decide +kernel
theorem dX9_takesNumber_35 : decode cX9_takesNumber 35 = .ok (.imul, 1) := by decide +kernel
theorem dX9_takesNumber_36 : decode cX9_takesNumber 36 = .ok (.aload_n 0, 1) := by decide +kernel
theorem dX9_takesNumber_37 : decode cX9_takesNumber 37 = .ok (.invokevirtual 249, 3) := by decide +kernel
theorem dX9_takesNumber_40 : decode cX9_takesNumber 40 = .ok (.iadd, 1) := by decide +kernel
theorem dX9_takesNumber_41 : decode cX9_takesNumber 41 = .ok (.bipush 48, 2) := by decide +kernel
theorem dX9_takesNumber_43 : decode cX9_takesNumber 43 = .ok (.isub, 1) := by decide +kernel
theorem dX9_takesNumber_44 : decode cX9_takesNumber 44 = .ok (.putfield 53, 3) := by decide +kernel
theorem dX9_takesNumber_47 : decode cX9_takesNumber 47 = .ok (.aload_n 0, 1) := by decide +kernel
theorem dX9_takesNumber_48 : decode cX9_takesNumber 48 = .ok (.dup, 1) := by decide +kernel
theorem dX9_takesNumber_49 : decode cX9_takesNumber 49 = .ok (.getfield 50, 3) := by decide +kernel
theorem dX9_takesNumber_52 : decode cX9_takesNumber 52 = .ok (.iconst 1, 1) := by decide +kernel
theorem dX9_takesNumber_53 : decode cX9_takesNumber 53 = .ok (.iadd, 1) := by decide +kernel
theorem dX9_takesNumber_54 : decode cX9_takesNumber 54 = .ok (.putfield 50, 3) := by decide +kernel
theorem dX9_takesNumber_57 : decode cX9_takesNumber 57 = .ok (.iinc 1 1, 3) := by decide +kernel
theorem dX9_takesNumber_60 : decode cX9_takesNumber 60 = .ok (.goto (-44), 3) := by decide +kernel
theorem dX9_takesNumber_63 : decode cX9_takesNumber 63 = .ok (.iconst 1, 1) := by decide +kernel
theorem dX9_takesNumber_64 : decode cX9_takesNumber 64 = .ok (.ireturn, 1) := by decide +kernel
theorem dX9_emits_0 : decode cX9_emits 0 = .ok (.aload_n 0, 1) := by decide +kernel
theorem dX9_emits_1 : decode cX9_emits 1 = .ok (.getfield 74, 3) := by decide +kernel
theorem dX9_emits_4 : decode cX9_emits 4 = .ok (.aload_n 0, 1) := by decide +kernel
theorem dX9_emits_5 : decode cX9_emits 5 = .ok (.getfield 80, 3) := by decide +kernel
theorem dX9_emits_8 : decode cX9_emits 8 = .ok (.iload_n 1, 1) := by decide +kernel
theorem dX9_emits_9 : decode cX9_emits 9 = .ok (.iastore, 1) := by decide +kernel
theorem dX9_emits_10 : decode cX9_emits 10 = .ok (.aload_n 0, 1) := by decide +kernel
theorem dX9_emits_11 : decode cX9_emits 11 = .ok (.dup, 1) := by decide +kernel
theorem dX9_emits_12 : decode cX9_emits 12 = .ok (.getfield 80, 3) := by decide +kernel
theorem dX9_emits_15 : decode cX9_emits 15 = .ok (.iconst 1, 1) := by decide +kernel
theorem dX9_emits_16 : decode cX9_emits 16 = .ok (.iadd, 1) := by decide +kernel
theorem dX9_emits_17 : decode cX9_emits 17 = .ok (.putfield 80, 3) := by decide +kernel
theorem dX9_emits_20 : decode cX9_emits 20 = .ok (.return_, 1) := by decide +kernel
theorem dX9_whole_0 : decode cX9_whole 0 = .ok (.aload_n 0, 1) := by decide +kernel
theorem dX9_whole_1 : decode cX9_whole 1 = .ok (.getfield 83, 3) := by decide +kernel
theorem dX9_whole_4 : decode cX9_whole 4 = .ok (.ifCond .le 48, 3) := by decide +kernel
theorem dX9_whole_7 : decode cX9_whole 7 = .ok (.aload_n 0, 1) := by decide +kernel
theorem dX9_whole_8 : decode cX9_whole 8 = .ok (.getfield 77, 3) := by decide +kernel
theorem dX9_whole_11 : decode cX9_whole 11 = .ok (.aload_n 0, 1) := by decide +kernel
theorem dX9_whole_12 : decode cX9_whole 12 = .ok (.getfield 83, 3) := by decide +kernel
theorem dX9_whole_15 : decode cX9_whole 15 = .ok (.iconst 1, 1) := by decide +kernel
theorem dX9_whole_16 : decode cX9_whole 16 = .ok (.isub, 1) := by decide +kernel
theorem dX9_whole_17 : decode cX9_whole 17 = .ok (.iaload, 1) := by decide +kernel
theorem dX9_whole_18 : decode cX9_whole 18 = .ok (.bipush 33, 2) := by decide +kernel
theorem dX9_whole_20 : decode cX9_whole 20 = .ok (.if_icmp .ne 32, 3) := by decide +kernel
theorem dX9_whole_23 : decode cX9_whole 23 = .ok (.aload_n 0, 1) := by decide +kernel
theorem dX9_whole_24 : decode cX9_whole 24 = .ok (.bipush (-33), 2) := by decide +kernel
theorem dX9_whole_26 : decode cX9_whole 26 = .ok (.invokevirtual 260, 3) := by decide +kernel
theorem dX9_whole_29 : decode cX9_whole 29 = .ok (.aload_n 0, 1) := by decide +kernel
theorem dX9_whole_30 : decode cX9_whole 30 = .ok (.dup, 1) := by decide +kernel
theorem dX9_whole_31 : decode cX9_whole 31 = .ok (.getfield 83, 3) := by decide +kernel
theorem dX9_whole_34 : decode cX9_whole 34 = .ok (.iconst 1, 1) := by decide +kernel
theorem dX9_whole_35 : decode cX9_whole 35 = .ok (.isub, 1) := by decide +kernel
theorem dX9_whole_36 : decode cX9_whole 36 = .ok (.putfield 83, 3) := by decide +kernel
theorem dX9_whole_39 : decode cX9_whole 39 = .ok (.aload_n 0, 1) := by decide +kernel
theorem dX9_whole_40 : decode cX9_whole 40 = .ok (.dup, 1) := by decide +kernel
theorem dX9_whole_41 : decode cX9_whole 41 = .ok (.getfield 86, 3) := by decide +kernel
theorem dX9_whole_44 : decode cX9_whole 44 = .ok (.iconst 1, 1) := by decide +kernel
theorem dX9_whole_45 : decode cX9_whole 45 = .ok (.isub, 1) := by decide +kernel
theorem dX9_whole_46 : decode cX9_whole 46 = .ok (.putfield 86, 3) := by decide +kernel
theorem dX9_whole_49 : decode cX9_whole 49 = .ok (.goto (-49), 3) := by decide +kernel
theorem dX9_whole_52 : decode cX9_whole 52 = .ok (.return_, 1) := by decide +kernel
theorem dX9_settle_0 : decode cX9_settle 0 = .ok (.aload_n 0, 1) := by decide +kernel
theorem dX9_settle_1 : decode cX9_settle 1 = .ok (.getfield 83, 3) := by decide +kernel
theorem dX9_settle_4 : decode cX9_settle 4 = .ok (.ifCond .le 68, 3) := by decide +kernel
theorem dX9_settle_7 : decode cX9_settle 7 = .ok (.aload_n 0, 1) := by decide +kernel
theorem dX9_settle_8 : decode cX9_settle 8 = .ok (.getfield 77, 3) := by decide +kernel
theorem dX9_settle_11 : decode cX9_settle 11 = .ok (.aload_n 0, 1) := by decide +kernel
theorem dX9_settle_12 : decode cX9_settle 12 = .ok (.getfield 83, 3) := by decide +kernel
theorem dX9_settle_15 : decode cX9_settle 15 = .ok (.iconst 1, 1) := by decide +kernel
theorem dX9_settle_16 : decode cX9_settle 16 = .ok (.isub, 1) := by decide +kernel
theorem dX9_settle_17 : decode cX9_settle 17 = .ok (.iaload, 1) := by decide +kernel
theorem dX9_settle_18 : decode cX9_settle 18 = .ok (.bipush 38, 2) := by decide +kernel
theorem dX9_settle_20 : decode cX9_settle 20 = .ok (.if_icmp .eq 25, 3) := by decide +kernel
theorem dX9_settle_23 : decode cX9_settle 23 = .ok (.aload_n 0, 1) := by decide +kernel
theorem dX9_settle_24 : decode cX9_settle 24 = .ok (.getfield 77, 3) := by decide +kernel
theorem dX9_settle_27 : decode cX9_settle 27 = .ok (.aload_n 0, 1) := by decide +kernel
theorem dX9_settle_28 : decode cX9_settle 28 = .ok (.getfield 83, 3) := by decide +kernel
theorem dX9_settle_31 : decode cX9_settle 31 = .ok (.iconst 1, 1) := by decide +kernel
theorem dX9_settle_32 : decode cX9_settle 32 = .ok (.isub, 1) := by decide +kernel
theorem dX9_settle_33 : decode cX9_settle 33 = .ok (.iaload, 1) := by decide +kernel
theorem dX9_settle_34 : decode cX9_settle 34 = .ok (.bipush 124, 2) := by decide +kernel
theorem dX9_settle_36 : decode cX9_settle 36 = .ok (.if_icmp .ne 36, 3) := by decide +kernel
theorem dX9_settle_39 : decode cX9_settle 39 = .ok (.iload_n 1, 1) := by decide +kernel
theorem dX9_settle_40 : decode cX9_settle 40 = .ok (.bipush 38, 2) := by decide +kernel
theorem dX9_settle_42 : decode cX9_settle 42 = .ok (.if_icmp .eq 30, 3) := by decide +kernel
theorem dX9_settle_45 : decode cX9_settle 45 = .ok (.aload_n 0, 1) := by decide +kernel
theorem dX9_settle_46 : decode cX9_settle 46 = .ok (.dup, 1) := by decide +kernel
theorem dX9_settle_47 : decode cX9_settle 47 = .ok (.getfield 83, 3) := by decide +kernel
theorem dX9_settle_50 : decode cX9_settle 50 = .ok (.iconst 1, 1) := by decide +kernel
theorem dX9_settle_51 : decode cX9_settle 51 = .ok (.isub, 1) := by decide +kernel
theorem dX9_settle_52 : decode cX9_settle 52 = .ok (.putfield 83, 3) := by decide +kernel
theorem dX9_settle_55 : decode cX9_settle 55 = .ok (.aload_n 0, 1) := by decide +kernel
theorem dX9_settle_56 : decode cX9_settle 56 = .ok (.aload_n 0, 1) := by decide +kernel
theorem dX9_settle_57 : decode cX9_settle 57 = .ok (.getfield 77, 3) := by decide +kernel
theorem dX9_settle_60 : decode cX9_settle 60 = .ok (.aload_n 0, 1) := by decide +kernel
theorem dX9_settle_61 : decode cX9_settle 61 = .ok (.getfield 83, 3) := by decide +kernel
theorem dX9_settle_64 : decode cX9_settle 64 = .ok (.iaload, 1) := by decide +kernel
theorem dX9_settle_65 : decode cX9_settle 65 = .ok (.ineg, 1) := by decide +kernel
theorem dX9_settle_66 : decode cX9_settle 66 = .ok (.invokevirtual 260, 3) := by decide +kernel
theorem dX9_settle_69 : decode cX9_settle 69 = .ok (.goto (-69), 3) := by decide +kernel
theorem dX9_settle_72 : decode cX9_settle 72 = .ok (.return_, 1) := by decide +kernel
theorem dX9_place_0 : decode cX9_place 0 = .ok (.iload_n 1, 1) := by decide +kernel
theorem dX9_place_1 : decode cX9_place 1 = .ok (.tableswitch 107 99 118 #[101, 107, 107, 107, 103, 105, 107, 107, 97, 107, 107, 107, 107, 95, 107, 107, 107, 107, 107, 99], 95) := by decide +kernel
theorem dX9_place_96 : decode cX9_place 96 = .ok (.iconst 0, 1) := by decide +kernel
theorem dX9_place_97 : decode cX9_place 97 = .ok (.ireturn, 1) := by decide +kernel
theorem dX9_place_98 : decode cX9_place 98 = .ok (.iconst 1, 1) := by decide +kernel
theorem dX9_place_99 : decode cX9_place 99 = .ok (.ireturn, 1) := by decide +kernel
theorem dX9_place_100 : decode cX9_place 100 = .ok (.iconst 2, 1) := by decide +kernel
theorem dX9_place_101 : decode cX9_place 101 = .ok (.ireturn, 1) := by decide +kernel
theorem dX9_place_102 : decode cX9_place 102 = .ok (.iconst 3, 1) := by decide +kernel
theorem dX9_place_103 : decode cX9_place 103 = .ok (.ireturn, 1) := by decide +kernel
theorem dX9_place_104 : decode cX9_place 104 = .ok (.iconst 4, 1) := by decide +kernel
theorem dX9_place_105 : decode cX9_place 105 = .ok (.ireturn, 1) := by decide +kernel
theorem dX9_place_106 : decode cX9_place 106 = .ok (.iconst 5, 1) := by decide +kernel
theorem dX9_place_107 : decode cX9_place 107 = .ok (.ireturn, 1) := by decide +kernel
theorem dX9_place_108 : decode cX9_place 108 = .ok (.iconst (-1), 1) := by decide +kernel
theorem dX9_place_109 : decode cX9_place 109 = .ok (.ireturn, 1) := by decide +kernel
theorem dX9_takesTest_0 : decode cX9_takesTest 0 = .ok (.aload_n 0, 1) := by decide +kernel
theorem dX9_takesTest_1 : decode cX9_takesTest 1 = .ok (.aload_n 0, 1) := by decide +kernel
theorem dX9_takesTest_2 : decode cX9_takesTest 2 = .ok (.invokevirtual 249, 3) := by decide +kernel
theorem dX9_takesTest_5 : decode cX9_takesTest 5 = .ok (.invokevirtual 264, 3) := by decide +kernel
theorem dX9_takesTest_8 : decode cX9_takesTest 8 = .ok (.istore_n 1, 1) := by decide +kernel
theorem dX9_takesTest_9 : decode cX9_takesTest 9 = .ok (.iload_n 1, 1) := by decide +kernel
theorem dX9_takesTest_10 : decode cX9_takesTest 10 = .ok (.ifCond .ge 5, 3) := by decide +kernel
theorem dX9_takesTest_13 : decode cX9_takesTest 13 = .ok (.iconst 0, 1) := by decide +kernel
theorem dX9_takesTest_14 : decode cX9_takesTest 14 = .ok (.ireturn, 1) := by decide +kernel
theorem dX9_takesTest_15 : decode cX9_takesTest 15 = .ok (.aload_n 0, 1) := by decide +kernel
theorem dX9_takesTest_16 : decode cX9_takesTest 16 = .ok (.dup, 1) := by decide +kernel
theorem dX9_takesTest_17 : decode cX9_takesTest 17 = .ok (.getfield 50, 3) := by decide +kernel
theorem dX9_takesTest_20 : decode cX9_takesTest 20 = .ok (.iconst 1, 1) := by decide +kernel
theorem dX9_takesTest_21 : decode cX9_takesTest 21 = .ok (.iadd, 1) := by decide +kernel
theorem dX9_takesTest_22 : decode cX9_takesTest 22 = .ok (.putfield 50, 3) := by decide +kernel
theorem dX9_takesTest_25 : decode cX9_takesTest 25 = .ok (.aload_n 0, 1) := by decide +kernel
theorem dX9_takesTest_26 : decode cX9_takesTest 26 = .ok (.invokevirtual 249, 3) := by decide +kernel
theorem dX9_takesTest_29 : decode cX9_takesTest 29 = .ok (.istore_n 2, 1) := by decide +kernel
theorem dX9_takesTest_30 : decode cX9_takesTest 30 = .ok (.aload_n 0, 1) := by decide +kernel
theorem dX9_takesTest_31 : decode cX9_takesTest 31 = .ok (.iload_n 2, 1) := by decide +kernel
theorem dX9_takesTest_32 : decode cX9_takesTest 32 = .ok (.bipush 60, 2) := by decide +kernel
theorem dX9_takesTest_34 : decode cX9_takesTest 34 = .ok (.bipush 62, 2) := by decide +kernel
theorem dX9_takesTest_36 : decode cX9_takesTest 36 = .ok (.invokevirtual 237, 3) := by decide +kernel
theorem dX9_takesTest_39 : decode cX9_takesTest 39 = .ok (.ifCond .ne 5, 3) := by decide +kernel
theorem dX9_takesTest_42 : decode cX9_takesTest 42 = .ok (.iconst 0, 1) := by decide +kernel
theorem dX9_takesTest_43 : decode cX9_takesTest 43 = .ok (.ireturn, 1) := by decide +kernel
theorem dX9_takesTest_44 : decode cX9_takesTest 44 = .ok (.aload_n 0, 1) := by decide +kernel
theorem dX9_takesTest_45 : decode cX9_takesTest 45 = .ok (.dup, 1) := by decide +kernel
theorem dX9_takesTest_46 : decode cX9_takesTest 46 = .ok (.getfield 50, 3) := by decide +kernel
theorem dX9_takesTest_49 : decode cX9_takesTest 49 = .ok (.iconst 1, 1) := by decide +kernel
theorem dX9_takesTest_50 : decode cX9_takesTest 50 = .ok (.iadd, 1) := by decide +kernel
theorem dX9_takesTest_51 : decode cX9_takesTest 51 = .ok (.putfield 50, 3) := by decide +kernel
theorem dX9_takesTest_54 : decode cX9_takesTest 54 = .ok (.aload_n 0, 1) := by decide +kernel
theorem dX9_takesTest_55 : decode cX9_takesTest 55 = .ok (.invokevirtual 268, 3) := by decide +kernel
theorem dX9_takesTest_58 : decode cX9_takesTest 58 = .ok (.ifCond .ne 5, 3) := by decide +kernel
theorem dX9_takesTest_61 : decode cX9_takesTest 61 = .ok (.iconst 0, 1) := by decide +kernel
theorem dX9_takesTest_62 : decode cX9_takesTest 62 = .ok (.ireturn, 1) := by decide +kernel
theorem dX9_takesTest_63 : decode cX9_takesTest 63 = .ok (.aload_n 0, 1) := by decide +kernel
theorem dX9_takesTest_64 : decode cX9_takesTest 64 = .ok (.sipush 1000, 3) := by decide +kernel
theorem dX9_takesTest_67 : decode cX9_takesTest 67 = .ok (.iload_n 1, 1) := by decide +kernel
theorem dX9_takesTest_68 : decode cX9_takesTest 68 = .ok (.imul, 1) := by decide +kernel
theorem dX9_takesTest_69 : decode cX9_takesTest 69 = .ok (.bipush 100, 2) := by decide +kernel
theorem dX9_takesTest_71 : decode cX9_takesTest 71 = .ok (.iload_n 2, 1) := by decide +kernel
theorem dX9_takesTest_72 : decode cX9_takesTest 72 = .ok (.bipush 60, 2) := by decide +kernel
theorem dX9_takesTest_74 : decode cX9_takesTest 74 = .ok (.isub, 1) := by decide +kernel
theorem dX9_takesTest_75 : decode cX9_takesTest 75 = .ok (.imul, 1) := by decide +kernel
theorem dX9_takesTest_76 : decode cX9_takesTest 76 = .ok (.iadd, 1) := by decide +kernel
theorem dX9_takesTest_77 : decode cX9_takesTest 77 = .ok (.aload_n 0, 1) := by decide +kernel
theorem dX9_takesTest_78 : decode cX9_takesTest 78 = .ok (.getfield 53, 3) := by decide +kernel
theorem dX9_takesTest_81 : decode cX9_takesTest 81 = .ok (.iadd, 1) := by decide +kernel
theorem dX9_takesTest_82 : decode cX9_takesTest 82 = .ok (.invokevirtual 260, 3) := by decide +kernel
theorem dX9_takesTest_85 : decode cX9_takesTest 85 = .ok (.aload_n 0, 1) := by decide +kernel
theorem dX9_takesTest_86 : decode cX9_takesTest 86 = .ok (.invokevirtual 271, 3) := by decide +kernel
theorem dX9_takesTest_89 : decode cX9_takesTest 89 = .ok (.iconst 1, 1) := by decide +kernel
theorem dX9_takesTest_90 : decode cX9_takesTest 90 = .ok (.ireturn, 1) := by decide +kernel
theorem dX9_takesE_0 : decode cX9_takesE 0 = .ok (.aload_n 0, 1) := by decide +kernel
theorem dX9_takesE_1 : decode cX9_takesE 1 = .ok (.iconst 0, 1) := by decide +kernel
theorem dX9_takesE_2 : decode cX9_takesE 2 = .ok (.putfield 83, 3) := by decide +kernel
theorem dX9_takesE_5 : decode cX9_takesE 5 = .ok (.aload_n 0, 1) := by decide +kernel
theorem dX9_takesE_6 : decode cX9_takesE 6 = .ok (.iconst 0, 1) := by decide +kernel
theorem dX9_takesE_7 : decode cX9_takesE 7 = .ok (.putfield 86, 3) := by decide +kernel
theorem dX9_takesE_10 : decode cX9_takesE 10 = .ok (.aload_n 0, 1) := by decide +kernel
theorem dX9_takesE_11 : decode cX9_takesE 11 = .ok (.getfield 68, 3) := by decide +kernel
theorem dX9_takesE_14 : decode cX9_takesE 14 = .ok (.iload_n 1, 1) := by decide +kernel
theorem dX9_takesE_15 : decode cX9_takesE 15 = .ok (.aload_n 0, 1) := by decide +kernel
theorem dX9_takesE_16 : decode cX9_takesE 16 = .ok (.getfield 80, 3) := by decide +kernel
theorem dX9_takesE_19 : decode cX9_takesE 19 = .ok (.iastore, 1) := by decide +kernel
theorem dX9_takesE_20 : decode cX9_takesE 20 = .ok (.iconst 1, 1) := by decide +kernel
theorem dX9_takesE_21 : decode cX9_takesE 21 = .ok (.istore_n 2, 1) := by decide +kernel
theorem dX9_takesE_22 : decode cX9_takesE 22 = .ok (.aload_n 0, 1) := by decide +kernel
theorem dX9_takesE_23 : decode cX9_takesE 23 = .ok (.invokevirtual 249, 3) := by decide +kernel
theorem dX9_takesE_26 : decode cX9_takesE 26 = .ok (.istore_n 3, 1) := by decide +kernel
theorem dX9_takesE_27 : decode cX9_takesE 27 = .ok (.iload_n 2, 1) := by decide +kernel
theorem dX9_takesE_28 : decode cX9_takesE 28 = .ok (.ifCond .eq 82, 3) := by decide +kernel
theorem dX9_takesE_31 : decode cX9_takesE 31 = .ok (.iload_n 3, 1) := by decide +kernel
theorem dX9_takesE_32 : decode cX9_takesE 32 = .ok (.bipush 33, 2) := by decide +kernel
theorem dX9_takesE_34 : decode cX9_takesE 34 = .ok (.if_icmp .eq 9, 3) := by decide +kernel
theorem dX9_takesE_37 : decode cX9_takesE 37 = .ok (.iload_n 3, 1) := by decide +kernel
theorem dX9_takesE_38 : decode cX9_takesE 38 = .ok (.bipush 40, 2) := by decide +kernel
theorem dX9_takesE_40 : decode cX9_takesE 40 = .ok (.if_icmp .ne 56, 3) := by decide +kernel
theorem dX9_takesE_43 : decode cX9_takesE 43 = .ok (.aload_n 0, 1) := by decide +kernel
theorem dX9_takesE_44 : decode cX9_takesE 44 = .ok (.getfield 86, 3) := by decide +kernel
theorem dX9_takesE_47 : decode cX9_takesE 47 = .ok (.iconst 4, 1) := by decide +kernel
theorem dX9_takesE_48 : decode cX9_takesE 48 = .ok (.if_icmp .ne 5, 3) := by decide +kernel
theorem dX9_takesE_51 : decode cX9_takesE 51 = .ok (.iconst 0, 1) := by decide +kernel
theorem dX9_takesE_52 : decode cX9_takesE 52 = .ok (.ireturn, 1) := by decide +kernel
theorem dX9_takesE_53 : decode cX9_takesE 53 = .ok (.aload_n 0, 1) := by decide +kernel
theorem dX9_takesE_54 : decode cX9_takesE 54 = .ok (.dup, 1) := by decide +kernel
theorem dX9_takesE_55 : decode cX9_takesE 55 = .ok (.getfield 86, 3) := by decide +kernel
theorem dX9_takesE_58 : decode cX9_takesE 58 = .ok (.iconst 1, 1) := by decide +kernel
theorem dX9_takesE_59 : decode cX9_takesE 59 = .ok (.iadd, 1) := by decide +kernel
theorem dX9_takesE_60 : decode cX9_takesE 60 = .ok (.putfield 86, 3) := by decide +kernel
theorem dX9_takesE_63 : decode cX9_takesE 63 = .ok (.aload_n 0, 1) := by decide +kernel
theorem dX9_takesE_64 : decode cX9_takesE 64 = .ok (.getfield 77, 3) := by decide +kernel
theorem dX9_takesE_67 : decode cX9_takesE 67 = .ok (.aload_n 0, 1) := by decide +kernel
theorem dX9_takesE_68 : decode cX9_takesE 68 = .ok (.getfield 83, 3) := by decide +kernel
theorem dX9_takesE_71 : decode cX9_takesE 71 = .ok (.iload_n 3, 1) := by decide +kernel
theorem dX9_takesE_72 : decode cX9_takesE 72 = .ok (.iastore, 1) := by decide +kernel
theorem dX9_takesE_73 : decode cX9_takesE 73 = .ok (.aload_n 0, 1) := by decide +kernel
theorem dX9_takesE_74 : decode cX9_takesE 74 = .ok (.dup, 1) := by decide +kernel
theorem dX9_takesE_75 : decode cX9_takesE 75 = .ok (.getfield 83, 3) := by decide +kernel
theorem dX9_takesE_78 : decode cX9_takesE 78 = .ok (.iconst 1, 1) := by decide +kernel
theorem dX9_takesE_79 : decode cX9_takesE 79 = .ok (.iadd, 1) := by decide +kernel
theorem dX9_takesE_80 : decode cX9_takesE 80 = .ok (.putfield 83, 3) := by decide +kernel
theorem dX9_takesE_83 : decode cX9_takesE 83 = .ok (.aload_n 0, 1) := by decide +kernel
theorem dX9_takesE_84 : decode cX9_takesE 84 = .ok (.dup, 1) := by decide +kernel
theorem dX9_takesE_85 : decode cX9_takesE 85 = .ok (.getfield 50, 3) := by decide +kernel
theorem dX9_takesE_88 : decode cX9_takesE 88 = .ok (.iconst 1, 1) := by decide +kernel
theorem dX9_takesE_89 : decode cX9_takesE 89 = .ok (.iadd, 1) := by decide +kernel
theorem dX9_takesE_90 : decode cX9_takesE 90 = .ok (.putfield 50, 3) := by decide +kernel
theorem dX9_takesE_93 : decode cX9_takesE 93 = .ok (.goto (-71), 3) := by decide +kernel
theorem dX9_takesE_96 : decode cX9_takesE 96 = .ok (.aload_n 0, 1) := by decide +kernel
theorem dX9_takesE_97 : decode cX9_takesE 97 = .ok (.invokevirtual 274, 3) := by decide +kernel
theorem dX9_takesE_100 : decode cX9_takesE 100 = .ok (.ifCond .eq 8, 3) := by decide +kernel
theorem dX9_takesE_103 : decode cX9_takesE 103 = .ok (.iconst 0, 1) := by decide +kernel
theorem dX9_takesE_104 : decode cX9_takesE 104 = .ok (.istore_n 2, 1) := by decide +kernel
theorem dX9_takesE_105 : decode cX9_takesE 105 = .ok (.goto (-83), 3) := by decide +kernel
theorem dX9_takesE_108 : decode cX9_takesE 108 = .ok (.iconst 0, 1) := by decide +kernel
theorem dX9_takesE_109 : decode cX9_takesE 109 = .ok (.ireturn, 1) := by decide +kernel
theorem dX9_takesE_110 : decode cX9_takesE 110 = .ok (.iload_n 3, 1) := by decide +kernel
theorem dX9_takesE_111 : decode cX9_takesE 111 = .ok (.bipush 38, 2) := by decide +kernel
theorem dX9_takesE_113 : decode cX9_takesE 113 = .ok (.if_icmp .eq 9, 3) := by decide +kernel
theorem dX9_takesE_116 : decode cX9_takesE 116 = .ok (.iload_n 3, 1) := by decide +kernel
theorem dX9_takesE_117 : decode cX9_takesE 117 = .ok (.bipush 124, 2) := by decide +kernel
theorem dX9_takesE_119 : decode cX9_takesE 119 = .ok (.if_icmp .ne 43, 3) := by decide +kernel
theorem dX9_takesE_122 : decode cX9_takesE 122 = .ok (.aload_n 0, 1) := by decide +kernel
theorem dX9_takesE_123 : decode cX9_takesE 123 = .ok (.iload_n 3, 1) := by decide +kernel
theorem dX9_takesE_124 : decode cX9_takesE 124 = .ok (.invokevirtual 277, 3) := by decide +kernel
theorem dX9_takesE_127 : decode cX9_takesE 127 = .ok (.aload_n 0, 1) := by decide +kernel
theorem dX9_takesE_128 : decode cX9_takesE 128 = .ok (.getfield 77, 3) := by decide +kernel
theorem dX9_takesE_131 : decode cX9_takesE 131 = .ok (.aload_n 0, 1) := by decide +kernel
theorem dX9_takesE_132 : decode cX9_takesE 132 = .ok (.getfield 83, 3) := by decide +kernel
theorem dX9_takesE_135 : decode cX9_takesE 135 = .ok (.iload_n 3, 1) := by decide +kernel
theorem dX9_takesE_136 : decode cX9_takesE 136 = .ok (.iastore, 1) := by decide +kernel
theorem dX9_takesE_137 : decode cX9_takesE 137 = .ok (.aload_n 0, 1) := by decide +kernel
theorem dX9_takesE_138 : decode cX9_takesE 138 = .ok (.dup, 1) := by decide +kernel
theorem dX9_takesE_139 : decode cX9_takesE 139 = .ok (.getfield 83, 3) := by decide +kernel
theorem dX9_takesE_142 : decode cX9_takesE 142 = .ok (.iconst 1, 1) := by decide +kernel
theorem dX9_takesE_143 : decode cX9_takesE 143 = .ok (.iadd, 1) := by decide +kernel
theorem dX9_takesE_144 : decode cX9_takesE 144 = .ok (.putfield 83, 3) := by decide +kernel
theorem dX9_takesE_147 : decode cX9_takesE 147 = .ok (.iconst 1, 1) := by decide +kernel
theorem dX9_takesE_148 : decode cX9_takesE 148 = .ok (.istore_n 2, 1) := by decide +kernel
theorem dX9_takesE_149 : decode cX9_takesE 149 = .ok (.aload_n 0, 1) := by decide +kernel
theorem dX9_takesE_150 : decode cX9_takesE 150 = .ok (.dup, 1) := by decide +kernel
theorem dX9_takesE_151 : decode cX9_takesE 151 = .ok (.getfield 50, 3) := by decide +kernel
theorem dX9_takesE_154 : decode cX9_takesE 154 = .ok (.iconst 1, 1) := by decide +kernel
theorem dX9_takesE_155 : decode cX9_takesE 155 = .ok (.iadd, 1) := by decide +kernel
theorem dX9_takesE_156 : decode cX9_takesE 156 = .ok (.putfield 50, 3) := by decide +kernel
theorem dX9_takesE_159 : decode cX9_takesE 159 = .ok (.goto (-137), 3) := by decide +kernel
theorem dX9_takesE_162 : decode cX9_takesE 162 = .ok (.aload_n 0, 1) := by decide +kernel
theorem dX9_takesE_163 : decode cX9_takesE 163 = .ok (.bipush 124, 2) := by decide +kernel
theorem dX9_takesE_165 : decode cX9_takesE 165 = .ok (.invokevirtual 277, 3) := by decide +kernel
theorem dX9_takesE_168 : decode cX9_takesE 168 = .ok (.aload_n 0, 1) := by decide +kernel
theorem dX9_takesE_169 : decode cX9_takesE 169 = .ok (.getfield 71, 3) := by decide +kernel
theorem dX9_takesE_172 : decode cX9_takesE 172 = .ok (.iload_n 1, 1) := by decide +kernel
theorem dX9_takesE_173 : decode cX9_takesE 173 = .ok (.aload_n 0, 1) := by decide +kernel
theorem dX9_takesE_174 : decode cX9_takesE 174 = .ok (.getfield 80, 3) := by decide +kernel
theorem dX9_takesE_177 : decode cX9_takesE 177 = .ok (.iastore, 1) := by decide +kernel
theorem dX9_takesE_178 : decode cX9_takesE 178 = .ok (.aload_n 0, 1) := by decide +kernel
theorem dX9_takesE_179 : decode cX9_takesE 179 = .ok (.getfield 83, 3) := by decide +kernel
theorem dX9_takesE_182 : decode cX9_takesE 182 = .ok (.ifCond .ne 5, 3) := by decide +kernel
theorem dX9_takesE_185 : decode cX9_takesE 185 = .ok (.iconst 1, 1) := by decide +kernel
theorem dX9_takesE_186 : decode cX9_takesE 186 = .ok (.ireturn, 1) := by decide +kernel
theorem dX9_takesE_187 : decode cX9_takesE 187 = .ok (.iload_n 3, 1) := by decide +kernel
theorem dX9_takesE_188 : decode cX9_takesE 188 = .ok (.bipush 41, 2) := by decide +kernel
theorem dX9_takesE_190 : decode cX9_takesE 190 = .ok (.if_icmp .eq 5, 3) := by decide +kernel
theorem dX9_takesE_193 : decode cX9_takesE 193 = .ok (.iconst 0, 1) := by decide +kernel
theorem dX9_takesE_194 : decode cX9_takesE 194 = .ok (.ireturn, 1) := by decide +kernel
theorem dX9_takesE_195 : decode cX9_takesE 195 = .ok (.aload_n 0, 1) := by decide +kernel
theorem dX9_takesE_196 : decode cX9_takesE 196 = .ok (.dup, 1) := by decide +kernel
theorem dX9_takesE_197 : decode cX9_takesE 197 = .ok (.getfield 83, 3) := by decide +kernel
theorem dX9_takesE_200 : decode cX9_takesE 200 = .ok (.iconst 1, 1) := by decide +kernel
theorem dX9_takesE_201 : decode cX9_takesE 201 = .ok (.isub, 1) := by decide +kernel
theorem dX9_takesE_202 : decode cX9_takesE 202 = .ok (.putfield 83, 3) := by decide +kernel
theorem dX9_takesE_205 : decode cX9_takesE 205 = .ok (.aload_n 0, 1) := by decide +kernel
theorem dX9_takesE_206 : decode cX9_takesE 206 = .ok (.dup, 1) := by decide +kernel
theorem dX9_takesE_207 : decode cX9_takesE 207 = .ok (.getfield 86, 3) := by decide +kernel
theorem dX9_takesE_210 : decode cX9_takesE 210 = .ok (.iconst 1, 1) := by decide +kernel
theorem dX9_takesE_211 : decode cX9_takesE 211 = .ok (.isub, 1) := by decide +kernel
theorem dX9_takesE_212 : decode cX9_takesE 212 = .ok (.putfield 86, 3) := by decide +kernel
theorem dX9_takesE_215 : decode cX9_takesE 215 = .ok (.aload_n 0, 1) := by decide +kernel
theorem dX9_takesE_216 : decode cX9_takesE 216 = .ok (.dup, 1) := by decide +kernel
theorem dX9_takesE_217 : decode cX9_takesE 217 = .ok (.getfield 50, 3) := by decide +kernel
theorem dX9_takesE_220 : decode cX9_takesE 220 = .ok (.iconst 1, 1) := by decide +kernel
theorem dX9_takesE_221 : decode cX9_takesE 221 = .ok (.iadd, 1) := by decide +kernel
theorem dX9_takesE_222 : decode cX9_takesE 222 = .ok (.putfield 50, 3) := by decide +kernel
theorem dX9_takesE_225 : decode cX9_takesE 225 = .ok (.aload_n 0, 1) := by decide +kernel
theorem dX9_takesE_226 : decode cX9_takesE 226 = .ok (.invokevirtual 271, 3) := by decide +kernel
theorem dX9_takesE_229 : decode cX9_takesE 229 = .ok (.goto (-207), 3) := by decide +kernel
theorem dX9_takesHead_0 : decode cX9_takesHead 0 = .ok (.aload_n 0, 1) := by decide +kernel
theorem dX9_takesHead_1 : decode cX9_takesHead 1 = .ok (.invokevirtual 249, 3) := by decide +kernel
theorem dX9_takesHead_4 : decode cX9_takesHead 4 = .ok (.lookupswitch 56 #[(111, 28), (115, 42)], 28) := by decide +kernel
theorem dX9_takesHead_32 : decode cX9_takesHead 32 = .ok (.aload_n 0, 1) := by decide +kernel
theorem dX9_takesHead_33 : decode cX9_takesHead 33 = .ok (.getfield 62, 3) := by decide +kernel
theorem dX9_takesHead_36 : decode cX9_takesHead 36 = .ok (.iload_n 1, 1) := by decide +kernel
theorem dX9_takesHead_37 : decode cX9_takesHead 37 = .ok (.iconst 0, 1) := by decide +kernel
theorem dX9_takesHead_38 : decode cX9_takesHead 38 = .ok (.iastore, 1) := by decide +kernel
theorem dX9_takesHead_39 : decode cX9_takesHead 39 = .ok (.aload_n 0, 1) := by decide +kernel
theorem dX9_takesHead_40 : decode cX9_takesHead 40 = .ok (.iconst 0, 1) := by decide +kernel
theorem dX9_takesHead_41 : decode cX9_takesHead 41 = .ok (.iconst 4, 1) := by decide +kernel
theorem dX9_takesHead_42 : decode cX9_takesHead 42 = .ok (.invokevirtual 280, 3) := by decide +kernel
theorem dX9_takesHead_45 : decode cX9_takesHead 45 = .ok (.ireturn, 1) := by decide +kernel
theorem dX9_takesHead_46 : decode cX9_takesHead 46 = .ok (.aload_n 0, 1) := by decide +kernel
theorem dX9_takesHead_47 : decode cX9_takesHead 47 = .ok (.getfield 62, 3) := by decide +kernel
theorem dX9_takesHead_50 : decode cX9_takesHead 50 = .ok (.iload_n 1, 1) := by decide +kernel
theorem dX9_takesHead_51 : decode cX9_takesHead 51 = .ok (.iconst 1, 1) := by decide +kernel
theorem dX9_takesHead_52 : decode cX9_takesHead 52 = .ok (.iastore, 1) := by decide +kernel
theorem dX9_takesHead_53 : decode cX9_takesHead 53 = .ok (.aload_n 0, 1) := by decide +kernel
theorem dX9_takesHead_54 : decode cX9_takesHead 54 = .ok (.iconst 4, 1) := by decide +kernel
theorem dX9_takesHead_55 : decode cX9_takesHead 55 = .ok (.iconst 4, 1) := by decide +kernel
theorem dX9_takesHead_56 : decode cX9_takesHead 56 = .ok (.invokevirtual 280, 3) := by decide +kernel
theorem dX9_takesHead_59 : decode cX9_takesHead 59 = .ok (.ireturn, 1) := by decide +kernel
theorem dX9_takesHead_60 : decode cX9_takesHead 60 = .ok (.aload_n 0, 1) := by decide +kernel
theorem dX9_takesHead_61 : decode cX9_takesHead 61 = .ok (.getfield 62, 3) := by decide +kernel
theorem dX9_takesHead_64 : decode cX9_takesHead 64 = .ok (.iload_n 1, 1) := by decide +kernel
theorem dX9_takesHead_65 : decode cX9_takesHead 65 = .ok (.iconst 2, 1) := by decide +kernel
theorem dX9_takesHead_66 : decode cX9_takesHead 66 = .ok (.iastore, 1) := by decide +kernel
theorem dX9_takesHead_67 : decode cX9_takesHead 67 = .ok (.aload_n 0, 1) := by decide +kernel
theorem dX9_takesHead_68 : decode cX9_takesHead 68 = .ok (.bipush 8, 2) := by decide +kernel
theorem dX9_takesHead_70 : decode cX9_takesHead 70 = .ok (.iconst 4, 1) := by decide +kernel
theorem dX9_takesHead_71 : decode cX9_takesHead 71 = .ok (.invokevirtual 280, 3) := by decide +kernel
theorem dX9_takesHead_74 : decode cX9_takesHead 74 = .ok (.ireturn, 1) := by decide +kernel
theorem dX9_takesClause_0 : decode cX9_takesClause 0 = .ok (.aload_n 0, 1) := by decide +kernel
theorem dX9_takesClause_1 : decode cX9_takesClause 1 = .ok (.iload_n 1, 1) := by decide +kernel
theorem dX9_takesClause_2 : decode cX9_takesClause 2 = .ok (.invokevirtual 283, 3) := by decide +kernel
theorem dX9_takesClause_5 : decode cX9_takesClause 5 = .ok (.ifCond .eq 10, 3) := by decide +kernel
theorem dX9_takesClause_8 : decode cX9_takesClause 8 = .ok (.aload_n 0, 1) := by decide +kernel
theorem dX9_takesClause_9 : decode cX9_takesClause 9 = .ok (.invokevirtual 268, 3) := by decide +kernel
theorem dX9_takesClause_12 : decode cX9_takesClause 12 = .ok (.ifCond .ne 5, 3) := by decide +kernel
theorem dX9_takesClause_15 : decode cX9_takesClause 15 = .ok (.iconst 0, 1) := by decide +kernel
theorem dX9_takesClause_16 : decode cX9_takesClause 16 = .ok (.ireturn, 1) := by decide +kernel
theorem dX9_takesClause_17 : decode cX9_takesClause 17 = .ok (.aload_n 0, 1) := by decide +kernel
theorem dX9_takesClause_18 : decode cX9_takesClause 18 = .ok (.getfield 65, 3) := by decide +kernel
theorem dX9_takesClause_21 : decode cX9_takesClause 21 = .ok (.iload_n 1, 1) := by decide +kernel
theorem dX9_takesClause_22 : decode cX9_takesClause 22 = .ok (.aload_n 0, 1) := by decide +kernel
theorem dX9_takesClause_23 : decode cX9_takesClause 23 = .ok (.getfield 53, 3) := by decide +kernel
theorem dX9_takesClause_26 : decode cX9_takesClause 26 = .ok (.iastore, 1) := by decide +kernel
theorem dX9_takesClause_27 : decode cX9_takesClause 27 = .ok (.aload_n 0, 1) := by decide +kernel
theorem dX9_takesClause_28 : decode cX9_takesClause 28 = .ok (.getfield 62, 3) := by decide +kernel
theorem dX9_takesClause_31 : decode cX9_takesClause 31 = .ok (.iload_n 1, 1) := by decide +kernel
theorem dX9_takesClause_32 : decode cX9_takesClause 32 = .ok (.iaload, 1) := by decide +kernel
theorem dX9_takesClause_33 : decode cX9_takesClause 33 = .ok (.iconst 2, 1) := by decide +kernel
theorem dX9_takesClause_34 : decode cX9_takesClause 34 = .ok (.if_icmp .eq 20, 3) := by decide +kernel
theorem dX9_takesClause_37 : decode cX9_takesClause 37 = .ok (.aload_n 0, 1) := by decide +kernel
theorem dX9_takesClause_38 : decode cX9_takesClause 38 = .ok (.bipush 32, 2) := by decide +kernel
theorem dX9_takesClause_40 : decode cX9_takesClause 40 = .ok (.invokevirtual 253, 3) := by decide +kernel
theorem dX9_takesClause_43 : decode cX9_takesClause 43 = .ok (.ifCond .eq 15, 3) := by decide +kernel
theorem dX9_takesClause_46 : decode cX9_takesClause 46 = .ok (.aload_n 0, 1) := by decide +kernel
theorem dX9_takesClause_47 : decode cX9_takesClause 47 = .ok (.iload_n 1, 1) := by decide +kernel
theorem dX9_takesClause_48 : decode cX9_takesClause 48 = .ok (.invokevirtual 286, 3) := by decide +kernel
theorem dX9_takesClause_51 : decode cX9_takesClause 51 = .ok (.ifCond .eq 7, 3) := by decide +kernel
theorem dX9_takesClause_54 : decode cX9_takesClause 54 = .ok (.iconst 1, 1) := by decide +kernel
theorem dX9_takesClause_55 : decode cX9_takesClause 55 = .ok (.goto 4, 3) := by decide +kernel
theorem dX9_takesClause_58 : decode cX9_takesClause 58 = .ok (.iconst 0, 1) := by decide +kernel
theorem dX9_takesClause_59 : decode cX9_takesClause 59 = .ok (.ireturn, 1) := by decide +kernel
theorem dX9_goesText_0 : decode cX9_goesText 0 = .ok (.aload_n 0, 1) := by decide +kernel
theorem dX9_goesText_1 : decode cX9_goesText 1 = .ok (.iconst 0, 1) := by decide +kernel
theorem dX9_goesText_2 : decode cX9_goesText 2 = .ok (.putfield 50, 3) := by decide +kernel
theorem dX9_goesText_5 : decode cX9_goesText 5 = .ok (.aload_n 0, 1) := by decide +kernel
theorem dX9_goesText_6 : decode cX9_goesText 6 = .ok (.bipush 100, 2) := by decide +kernel
theorem dX9_goesText_8 : decode cX9_goesText 8 = .ok (.iload_n 1, 1) := by decide +kernel
theorem dX9_goesText_9 : decode cX9_goesText 9 = .ok (.imul, 1) := by decide +kernel
theorem dX9_goesText_10 : decode cX9_goesText 10 = .ok (.putfield 80, 3) := by decide +kernel
theorem dX9_goesText_13 : decode cX9_goesText 13 = .ok (.iconst 0, 1) := by decide +kernel
theorem dX9_goesText_14 : decode cX9_goesText 14 = .ok (.istore_n 2, 1) := by decide +kernel
theorem dX9_goesText_15 : decode cX9_goesText 15 = .ok (.aload_n 0, 1) := by decide +kernel
theorem dX9_goesText_16 : decode cX9_goesText 16 = .ok (.bipush 10, 2) := by decide +kernel
theorem dX9_goesText_18 : decode cX9_goesText 18 = .ok (.iload_n 1, 1) := by decide +kernel
theorem dX9_goesText_19 : decode cX9_goesText 19 = .ok (.imul, 1) := by decide +kernel
theorem dX9_goesText_20 : decode cX9_goesText 20 = .ok (.iload_n 2, 1) := by decide +kernel
theorem dX9_goesText_21 : decode cX9_goesText 21 = .ok (.iadd, 1) := by decide +kernel
theorem dX9_goesText_22 : decode cX9_goesText 22 = .ok (.invokevirtual 289, 3) := by decide +kernel
theorem dX9_goesText_25 : decode cX9_goesText 25 = .ok (.ifCond .ne 5, 3) := by decide +kernel
theorem dX9_goesText_28 : decode cX9_goesText 28 = .ok (.iconst 0, 1) := by decide +kernel
theorem dX9_goesText_29 : decode cX9_goesText 29 = .ok (.ireturn, 1) := by decide +kernel
theorem dX9_goesText_30 : decode cX9_goesText 30 = .ok (.iinc 2 1, 3) := by decide +kernel
theorem dX9_goesText_33 : decode cX9_goesText 33 = .ok (.aload_n 0, 1) := by decide +kernel
theorem dX9_goesText_34 : decode cX9_goesText 34 = .ok (.getfield 59, 3) := by decide +kernel
theorem dX9_goesText_37 : decode cX9_goesText 37 = .ok (.iload_n 1, 1) := by decide +kernel
theorem dX9_goesText_38 : decode cX9_goesText 38 = .ok (.iload_n 2, 1) := by decide +kernel
theorem dX9_goesText_39 : decode cX9_goesText 39 = .ok (.iastore, 1) := by decide +kernel
theorem dX9_goesText_40 : decode cX9_goesText 40 = .ok (.aload_n 0, 1) := by decide +kernel
theorem dX9_goesText_41 : decode cX9_goesText 41 = .ok (.getfield 50, 3) := by decide +kernel
theorem dX9_goesText_44 : decode cX9_goesText 44 = .ok (.aload_n 0, 1) := by decide +kernel
theorem dX9_goesText_45 : decode cX9_goesText 45 = .ok (.getfield 47, 3) := by decide +kernel
theorem dX9_goesText_48 : decode cX9_goesText 48 = .ok (.if_icmp .ne 5, 3) := by decide +kernel
theorem dX9_goesText_51 : decode cX9_goesText 51 = .ok (.iconst 1, 1) := by decide +kernel
theorem dX9_goesText_52 : decode cX9_goesText 52 = .ok (.ireturn, 1) := by decide +kernel
theorem dX9_goesText_53 : decode cX9_goesText 53 = .ok (.iload_n 2, 1) := by decide +kernel
theorem dX9_goesText_54 : decode cX9_goesText 54 = .ok (.bipush 10, 2) := by decide +kernel
theorem dX9_goesText_56 : decode cX9_goesText 56 = .ok (.if_icmp .eq 12, 3) := by decide +kernel
theorem dX9_goesText_59 : decode cX9_goesText 59 = .ok (.aload_n 0, 1) := by decide +kernel
theorem dX9_goesText_60 : decode cX9_goesText 60 = .ok (.bipush 59, 2) := by decide +kernel
theorem dX9_goesText_62 : decode cX9_goesText 62 = .ok (.invokevirtual 253, 3) := by decide +kernel
theorem dX9_goesText_65 : decode cX9_goesText 65 = .ok (.ifCond .ne (-50), 3) := by decide +kernel
theorem dX9_goesText_68 : decode cX9_goesText 68 = .ok (.iconst 0, 1) := by decide +kernel
theorem dX9_goesText_69 : decode cX9_goesText 69 = .ok (.ireturn, 1) := by decide +kernel
theorem dX9_nation_0 : decode cX9_nation 0 = .ok (.aload_n 0, 1) := by decide +kernel
theorem dX9_nation_1 : decode cX9_nation 1 = .ok (.getfield 41, 3) := by decide +kernel
theorem dX9_nation_4 : decode cX9_nation 4 = .ok (.bipush 6, 2) := by decide +kernel
theorem dX9_nation_6 : decode cX9_nation 6 = .ok (.if_icmp .ne 6, 3) := by decide +kernel
theorem dX9_nation_9 : decode cX9_nation 9 = .ok (.bipush (-4), 2) := by decide +kernel
theorem dX9_nation_11 : decode cX9_nation 11 = .ok (.ireturn, 1) := by decide +kernel
theorem dX9_nation_12 : decode cX9_nation 12 = .ok (.aload_n 0, 1) := by decide +kernel
theorem dX9_nation_13 : decode cX9_nation 13 = .ok (.aload_n 0, 1) := by decide +kernel
theorem dX9_nation_14 : decode cX9_nation 14 = .ok (.getfield 41, 3) := by decide +kernel
theorem dX9_nation_17 : decode cX9_nation 17 = .ok (.invokevirtual 292, 3) := by decide +kernel
theorem dX9_nation_20 : decode cX9_nation 20 = .ok (.istore_n 1, 1) := by decide +kernel
theorem dX9_nation_21 : decode cX9_nation 21 = .ok (.aload_n 0, 1) := by decide +kernel
theorem dX9_nation_22 : decode cX9_nation 22 = .ok (.iconst 0, 1) := by decide +kernel
theorem dX9_nation_23 : decode cX9_nation 23 = .ok (.putfield 47, 3) := by decide +kernel
theorem dX9_nation_26 : decode cX9_nation 26 = .ok (.iload_n 1, 1) := by decide +kernel
theorem dX9_nation_27 : decode cX9_nation 27 = .ok (.ifCond .ne 11, 3) := by decide +kernel
theorem dX9_nation_30 : decode cX9_nation 30 = .ok (.bipush (-10), 2) := by decide +kernel
theorem dX9_nation_32 : decode cX9_nation 32 = .ok (.aload_n 0, 1) := by decide +kernel
theorem dX9_nation_33 : decode cX9_nation 33 = .ok (.getfield 50, 3) := by decide +kernel
theorem dX9_nation_36 : decode cX9_nation 36 = .ok (.isub, 1) := by decide +kernel
theorem dX9_nation_37 : decode cX9_nation 37 = .ok (.ireturn, 1) := by decide +kernel
theorem dX9_nation_38 : decode cX9_nation 38 = .ok (.aload_n 0, 1) := by decide +kernel
theorem dX9_nation_39 : decode cX9_nation 39 = .ok (.aload_n 0, 1) := by decide +kernel
theorem dX9_nation_40 : decode cX9_nation 40 = .ok (.getfield 41, 3) := by decide +kernel
theorem dX9_nation_43 : decode cX9_nation 43 = .ok (.putfield 44, 3) := by decide +kernel
theorem dX9_nation_46 : decode cX9_nation 46 = .ok (.aload_n 0, 1) := by decide +kernel
theorem dX9_nation_47 : decode cX9_nation 47 = .ok (.dup, 1) := by decide +kernel
theorem dX9_nation_48 : decode cX9_nation 48 = .ok (.getfield 41, 3) := by decide +kernel
theorem dX9_nation_51 : decode cX9_nation 51 = .ok (.iconst 1, 1) := by decide +kernel
theorem dX9_nation_52 : decode cX9_nation 52 = .ok (.iadd, 1) := by decide +kernel
theorem dX9_nation_53 : decode cX9_nation 53 = .ok (.putfield 41, 3) := by decide +kernel
theorem dX9_nation_56 : decode cX9_nation 56 = .ok (.aload_n 0, 1) := by decide +kernel
theorem dX9_nation_57 : decode cX9_nation 57 = .ok (.getfield 44, 3) := by decide +kernel
theorem dX9_nation_60 : decode cX9_nation 60 = .ok (.ireturn, 1) := by decide +kernel
theorem dX9_begin_0 : decode cX9_begin 0 = .ok (.aload_n 0, 1) := by decide +kernel
theorem dX9_begin_1 : decode cX9_begin 1 = .ok (.getfield 44, 3) := by decide +kernel
theorem dX9_begin_4 : decode cX9_begin 4 = .ok (.ifCond .ge 7, 3) := by decide +kernel
theorem dX9_begin_7 : decode cX9_begin 7 = .ok (.iconst 0, 1) := by decide +kernel
theorem dX9_begin_8 : decode cX9_begin 8 = .ok (.goto 10, 3) := by decide +kernel
theorem dX9_begin_11 : decode cX9_begin 11 = .ok (.bipush 10, 2) := by decide +kernel
theorem dX9_begin_13 : decode cX9_begin 13 = .ok (.aload_n 0, 1) := by decide +kernel
theorem dX9_begin_14 : decode cX9_begin 14 = .ok (.getfield 44, 3) := by decide +kernel
theorem dX9_begin_17 : decode cX9_begin 17 = .ok (.imul, 1) := by decide +kernel
theorem dX9_begin_18 : decode cX9_begin 18 = .ok (.ireturn, 1) := by decide +kernel
theorem dX9_behind_0 : decode cX9_behind 0 = .ok (.aload_n 0, 1) := by decide +kernel
theorem dX9_behind_1 : decode cX9_behind 1 = .ok (.getfield 44, 3) := by decide +kernel
theorem dX9_behind_4 : decode cX9_behind 4 = .ok (.ifCond .ge 7, 3) := by decide +kernel
theorem dX9_behind_7 : decode cX9_behind 7 = .ok (.iconst 0, 1) := by decide +kernel
theorem dX9_behind_8 : decode cX9_behind 8 = .ok (.goto 20, 3) := by decide +kernel
theorem dX9_behind_11 : decode cX9_behind 11 = .ok (.bipush 10, 2) := by decide +kernel
theorem dX9_behind_13 : decode cX9_behind 13 = .ok (.aload_n 0, 1) := by decide +kernel
theorem dX9_behind_14 : decode cX9_behind 14 = .ok (.getfield 44, 3) := by decide +kernel
theorem dX9_behind_17 : decode cX9_behind 17 = .ok (.imul, 1) := by decide +kernel
theorem dX9_behind_18 : decode cX9_behind 18 = .ok (.aload_n 0, 1) := by decide +kernel
theorem dX9_behind_19 : decode cX9_behind 19 = .ok (.getfield 59, 3) := by decide +kernel
theorem dX9_behind_22 : decode cX9_behind 22 = .ok (.aload_n 0, 1) := by decide +kernel
theorem dX9_behind_23 : decode cX9_behind 23 = .ok (.getfield 44, 3) := by decide +kernel
theorem dX9_behind_26 : decode cX9_behind 26 = .ok (.iaload, 1) := by decide +kernel
theorem dX9_behind_27 : decode cX9_behind 27 = .ok (.iadd, 1) := by decide +kernel
theorem dX9_behind_28 : decode cX9_behind 28 = .ok (.ireturn, 1) := by decide +kernel
theorem dX9_fade_0 : decode cX9_fade 0 = .ok (.iconst 0, 1) := by decide +kernel
theorem dX9_fade_1 : decode cX9_fade 1 = .ok (.istore_n 1, 1) := by decide +kernel
theorem dX9_fade_2 : decode cX9_fade 2 = .ok (.aload_n 0, 1) := by decide +kernel
theorem dX9_fade_3 : decode cX9_fade 3 = .ok (.invokevirtual 295, 3) := by decide +kernel
theorem dX9_fade_6 : decode cX9_fade 6 = .ok (.istore_n 2, 1) := by decide +kernel
theorem dX9_fade_7 : decode cX9_fade 7 = .ok (.iload_n 2, 1) := by decide +kernel
theorem dX9_fade_8 : decode cX9_fade 8 = .ok (.aload_n 0, 1) := by decide +kernel
theorem dX9_fade_9 : decode cX9_fade 9 = .ok (.invokevirtual 298, 3) := by decide +kernel
theorem dX9_fade_12 : decode cX9_fade 12 = .ok (.if_icmp .ge 30, 3) := by decide +kernel
theorem dX9_fade_15 : decode cX9_fade 15 = .ok (.aload_n 0, 1) := by decide +kernel
theorem dX9_fade_16 : decode cX9_fade 16 = .ok (.getfield 62, 3) := by decide +kernel
theorem dX9_fade_19 : decode cX9_fade 19 = .ok (.iload_n 2, 1) := by decide +kernel
theorem dX9_fade_20 : decode cX9_fade 20 = .ok (.iaload, 1) := by decide +kernel
theorem dX9_fade_21 : decode cX9_fade 21 = .ok (.iconst 2, 1) := by decide +kernel
theorem dX9_fade_22 : decode cX9_fade 22 = .ok (.if_icmp .ne 12, 3) := by decide +kernel
theorem dX9_fade_25 : decode cX9_fade 25 = .ok (.aload_n 0, 1) := by decide +kernel
theorem dX9_fade_26 : decode cX9_fade 26 = .ok (.getfield 65, 3) := by decide +kernel
theorem dX9_fade_29 : decode cX9_fade 29 = .ok (.iload_n 2, 1) := by decide +kernel
theorem dX9_fade_30 : decode cX9_fade 30 = .ok (.iaload, 1) := by decide +kernel
theorem dX9_fade_31 : decode cX9_fade 31 = .ok (.goto 4, 3) := by decide +kernel
theorem dX9_fade_34 : decode cX9_fade 34 = .ok (.iload_n 1, 1) := by decide +kernel
theorem dX9_fade_35 : decode cX9_fade 35 = .ok (.istore_n 1, 1) := by decide +kernel
theorem dX9_fade_36 : decode cX9_fade 36 = .ok (.iinc 2 1, 3) := by decide +kernel
theorem dX9_fade_39 : decode cX9_fade 39 = .ok (.goto (-32), 3) := by decide +kernel
theorem dX9_fade_42 : decode cX9_fade 42 = .ok (.iload_n 1, 1) := by decide +kernel
theorem dX9_fade_43 : decode cX9_fade 43 = .ok (.ireturn, 1) := by decide +kernel
theorem dX9_factOf_0 : decode cX9_factOf 0 = .ok (.iload_n 1, 1) := by decide +kernel
theorem dX9_factOf_1 : decode cX9_factOf 1 = .ok (.tableswitch 60 0 4 #[35, 37, 44, 51, 53], 35) := by decide +kernel
theorem dX9_factOf_36 : decode cX9_factOf 36 = .ok (.iload_n 2, 1) := by decide +kernel
theorem dX9_factOf_37 : decode cX9_factOf 37 = .ok (.ireturn, 1) := by decide +kernel
theorem dX9_factOf_38 : decode cX9_factOf 38 = .ok (.aload_n 0, 1) := by decide +kernel
theorem dX9_factOf_39 : decode cX9_factOf 39 = .ok (.getfield 20, 3) := by decide +kernel
theorem dX9_factOf_42 : decode cX9_factOf 42 = .ok (.iload_n 2, 1) := by decide +kernel
theorem dX9_factOf_43 : decode cX9_factOf 43 = .ok (.iaload, 1) := by decide +kernel
theorem dX9_factOf_44 : decode cX9_factOf 44 = .ok (.ireturn, 1) := by decide +kernel
theorem dX9_factOf_45 : decode cX9_factOf 45 = .ok (.aload_n 0, 1) := by decide +kernel
theorem dX9_factOf_46 : decode cX9_factOf 46 = .ok (.getfield 23, 3) := by decide +kernel
theorem dX9_factOf_49 : decode cX9_factOf 49 = .ok (.iload_n 2, 1) := by decide +kernel
theorem dX9_factOf_50 : decode cX9_factOf 50 = .ok (.iaload, 1) := by decide +kernel
theorem dX9_factOf_51 : decode cX9_factOf 51 = .ok (.ireturn, 1) := by decide +kernel
theorem dX9_factOf_52 : decode cX9_factOf 52 = .ok (.iload_n 3, 1) := by decide +kernel
theorem dX9_factOf_53 : decode cX9_factOf 53 = .ok (.ireturn, 1) := by decide +kernel
theorem dX9_factOf_54 : decode cX9_factOf 54 = .ok (.aload_n 0, 1) := by decide +kernel
theorem dX9_factOf_55 : decode cX9_factOf 55 = .ok (.getfield 16, 3) := by decide +kernel
theorem dX9_factOf_58 : decode cX9_factOf 58 = .ok (.iload_n 3, 1) := by decide +kernel
theorem dX9_factOf_59 : decode cX9_factOf 59 = .ok (.iaload, 1) := by decide +kernel
theorem dX9_factOf_60 : decode cX9_factOf 60 = .ok (.ireturn, 1) := by decide +kernel
theorem dX9_factOf_61 : decode cX9_factOf 61 = .ok (.aload_n 0, 1) := by decide +kernel
theorem dX9_factOf_62 : decode cX9_factOf 62 = .ok (.getfield 13, 3) := by decide +kernel
theorem dX9_factOf_65 : decode cX9_factOf 65 = .ok (.bipush 10, 2) := by decide +kernel
theorem dX9_factOf_67 : decode cX9_factOf 67 = .ok (.irem, 1) := by decide +kernel
theorem dX9_factOf_68 : decode cX9_factOf 68 = .ok (.ireturn, 1) := by decide +kernel
theorem dX9_holds_0 : decode cX9_holds 0 = .ok (.iconst 0, 1) := by decide +kernel
theorem dX9_holds_1 : decode cX9_holds 1 = .ok (.istore 4, 2) := by decide +kernel
theorem dX9_holds_3 : decode cX9_holds 3 = .ok (.aload_n 0, 1) := by decide +kernel
theorem dX9_holds_4 : decode cX9_holds 4 = .ok (.getfield 68, 3) := by decide +kernel
theorem dX9_holds_7 : decode cX9_holds 7 = .ok (.iload_n 1, 1) := by decide +kernel
theorem dX9_holds_8 : decode cX9_holds 8 = .ok (.iaload, 1) := by decide +kernel
theorem dX9_holds_9 : decode cX9_holds 9 = .ok (.istore 5, 2) := by decide +kernel
theorem dX9_holds_11 : decode cX9_holds 11 = .ok (.iload 5, 2) := by decide +kernel
theorem dX9_holds_13 : decode cX9_holds 13 = .ok (.aload_n 0, 1) := by decide +kernel
theorem dX9_holds_14 : decode cX9_holds 14 = .ok (.getfield 71, 3) := by decide +kernel
theorem dX9_holds_17 : decode cX9_holds 17 = .ok (.iload_n 1, 1) := by decide +kernel
theorem dX9_holds_18 : decode cX9_holds 18 = .ok (.iaload, 1) := by decide +kernel
theorem dX9_holds_19 : decode cX9_holds 19 = .ok (.if_icmp .ge 234, 3) := by decide +kernel
theorem dX9_holds_22 : decode cX9_holds 22 = .ok (.aload_n 0, 1) := by decide +kernel
theorem dX9_holds_23 : decode cX9_holds 23 = .ok (.getfield 74, 3) := by decide +kernel
theorem dX9_holds_26 : decode cX9_holds 26 = .ok (.iload 5, 2) := by decide +kernel
theorem dX9_holds_28 : decode cX9_holds 28 = .ok (.iaload, 1) := by decide +kernel
theorem dX9_holds_29 : decode cX9_holds 29 = .ok (.istore 6, 2) := by decide +kernel
theorem dX9_holds_31 : decode cX9_holds 31 = .ok (.iload 6, 2) := by decide +kernel
theorem dX9_holds_33 : decode cX9_holds 33 = .ok (.bipush (-33), 2) := by decide +kernel
theorem dX9_holds_35 : decode cX9_holds 35 = .ok (.if_icmp .ne 32, 3) := by decide +kernel
theorem dX9_holds_38 : decode cX9_holds 38 = .ok (.aload_n 0, 1) := by decide +kernel
theorem dX9_holds_39 : decode cX9_holds 39 = .ok (.getfield 92, 3) := by decide +kernel
theorem dX9_holds_42 : decode cX9_holds 42 = .ok (.iload 4, 2) := by decide +kernel
theorem dX9_holds_44 : decode cX9_holds 44 = .ok (.iconst 1, 1) := by decide +kernel
theorem dX9_holds_45 : decode cX9_holds 45 = .ok (.isub, 1) := by decide +kernel
theorem dX9_holds_46 : decode cX9_holds 46 = .ok (.aload_n 0, 1) := by decide +kernel
theorem dX9_holds_47 : decode cX9_holds 47 = .ok (.getfield 92, 3) := by decide +kernel
theorem dX9_holds_50 : decode cX9_holds 50 = .ok (.iload 4, 2) := by decide +kernel
theorem dX9_holds_52 : decode cX9_holds 52 = .ok (.iconst 1, 1) := by decide +kernel
theorem dX9_holds_53 : decode cX9_holds 53 = .ok (.isub, 1) := by decide +kernel
theorem dX9_holds_54 : decode cX9_holds 54 = .ok (.baload, 1) := by decide +kernel
theorem dX9_holds_55 : decode cX9_holds 55 = .ok (.ifCond .ne 7, 3) := by decide +kernel
theorem dX9_holds_58 : decode cX9_holds 58 = .ok (.iconst 1, 1) := by decide +kernel
theorem dX9_holds_59 : decode cX9_holds 59 = .ok (.goto 4, 3) := by decide +kernel
theorem dX9_holds_62 : decode cX9_holds 62 = .ok (.iconst 0, 1) := by decide +kernel
theorem dX9_holds_63 : decode cX9_holds 63 = .ok (.bastore, 1) := by decide +kernel
theorem dX9_holds_64 : decode cX9_holds 64 = .ok (.goto 183, 3) := by decide +kernel
theorem dX9_holds_67 : decode cX9_holds 67 = .ok (.iload 6, 2) := by decide +kernel
theorem dX9_holds_69 : decode cX9_holds 69 = .ok (.ifCond .ge 82, 3) := by decide +kernel
theorem dX9_holds_72 : decode cX9_holds 72 = .ok (.iinc 4 (-1), 3) := by decide +kernel
theorem dX9_holds_75 : decode cX9_holds 75 = .ok (.aload_n 0, 1) := by decide +kernel
theorem dX9_holds_76 : decode cX9_holds 76 = .ok (.getfield 92, 3) := by decide +kernel
theorem dX9_holds_79 : decode cX9_holds 79 = .ok (.iload 4, 2) := by decide +kernel
theorem dX9_holds_81 : decode cX9_holds 81 = .ok (.iconst 1, 1) := by decide +kernel
theorem dX9_holds_82 : decode cX9_holds 82 = .ok (.isub, 1) := by decide +kernel
theorem dX9_holds_83 : decode cX9_holds 83 = .ok (.iload 6, 2) := by decide +kernel
theorem dX9_holds_85 : decode cX9_holds 85 = .ok (.bipush (-38), 2) := by decide +kernel
theorem dX9_holds_87 : decode cX9_holds 87 = .ok (.if_icmp .ne 33, 3) := by decide +kernel
theorem dX9_holds_90 : decode cX9_holds 90 = .ok (.aload_n 0, 1) := by decide +kernel
theorem dX9_holds_91 : decode cX9_holds 91 = .ok (.getfield 92, 3) := by decide +kernel
theorem dX9_holds_94 : decode cX9_holds 94 = .ok (.iload 4, 2) := by decide +kernel
theorem dX9_holds_96 : decode cX9_holds 96 = .ok (.iconst 1, 1) := by decide +kernel
theorem dX9_holds_97 : decode cX9_holds 97 = .ok (.isub, 1) := by decide +kernel
theorem dX9_holds_98 : decode cX9_holds 98 = .ok (.baload, 1) := by decide +kernel
theorem dX9_holds_99 : decode cX9_holds 99 = .ok (.ifCond .eq 17, 3) := by decide +kernel
theorem dX9_holds_102 : decode cX9_holds 102 = .ok (.aload_n 0, 1) := by decide +kernel
theorem dX9_holds_103 : decode cX9_holds 103 = .ok (.getfield 92, 3) := by decide +kernel
theorem dX9_holds_106 : decode cX9_holds 106 = .ok (.iload 4, 2) := by decide +kernel
theorem dX9_holds_108 : decode cX9_holds 108 = .ok (.baload, 1) := by decide +kernel
theorem dX9_holds_109 : decode cX9_holds 109 = .ok (.ifCond .eq 7, 3) := by decide +kernel
theorem dX9_holds_112 : decode cX9_holds 112 = .ok (.iconst 1, 1) := by decide +kernel
theorem dX9_holds_113 : decode cX9_holds 113 = .ok (.goto 34, 3) := by decide +kernel
theorem dX9_holds_116 : decode cX9_holds 116 = .ok (.iconst 0, 1) := by decide +kernel
theorem dX9_holds_117 : decode cX9_holds 117 = .ok (.goto 30, 3) := by decide +kernel
theorem dX9_holds_120 : decode cX9_holds 120 = .ok (.aload_n 0, 1) := by decide +kernel
theorem dX9_holds_121 : decode cX9_holds 121 = .ok (.getfield 92, 3) := by decide +kernel
theorem dX9_holds_124 : decode cX9_holds 124 = .ok (.iload 4, 2) := by decide +kernel
theorem dX9_holds_126 : decode cX9_holds 126 = .ok (.iconst 1, 1) := by decide +kernel
theorem dX9_holds_127 : decode cX9_holds 127 = .ok (.isub, 1) := by decide +kernel
theorem dX9_holds_128 : decode cX9_holds 128 = .ok (.baload, 1) := by decide +kernel
theorem dX9_holds_129 : decode cX9_holds 129 = .ok (.ifCond .ne 13, 3) := by decide +kernel
theorem dX9_holds_132 : decode cX9_holds 132 = .ok (.aload_n 0, 1) := by decide +kernel
theorem dX9_holds_133 : decode cX9_holds 133 = .ok (.getfield 92, 3) := by decide +kernel
theorem dX9_holds_136 : decode cX9_holds 136 = .ok (.iload 4, 2) := by decide +kernel
theorem dX9_holds_138 : decode cX9_holds 138 = .ok (.baload, 1) := by decide +kernel
theorem dX9_holds_139 : decode cX9_holds 139 = .ok (.ifCond .eq 7, 3) := by decide +kernel
theorem dX9_holds_142 : decode cX9_holds 142 = .ok (.iconst 1, 1) := by decide +kernel
theorem dX9_holds_143 : decode cX9_holds 143 = .ok (.goto 4, 3) := by decide +kernel
theorem dX9_holds_146 : decode cX9_holds 146 = .ok (.iconst 0, 1) := by decide +kernel
theorem dX9_holds_147 : decode cX9_holds 147 = .ok (.bastore, 1) := by decide +kernel
theorem dX9_holds_148 : decode cX9_holds 148 = .ok (.goto 99, 3) := by decide +kernel
theorem dX9_holds_151 : decode cX9_holds 151 = .ok (.aload_n 0, 1) := by decide +kernel
theorem dX9_holds_152 : decode cX9_holds 152 = .ok (.iload 6, 2) := by decide +kernel
theorem dX9_holds_154 : decode cX9_holds 154 = .ok (.sipush 1000, 3) := by decide +kernel
theorem dX9_holds_157 : decode cX9_holds 157 = .ok (.idiv, 1) := by decide +kernel
theorem dX9_holds_158 : decode cX9_holds 158 = .ok (.iload_n 2, 1) := by decide +kernel
theorem dX9_holds_159 : decode cX9_holds 159 = .ok (.iload_n 3, 1) := by decide +kernel
theorem dX9_holds_160 : decode cX9_holds 160 = .ok (.invokevirtual 301, 3) := by decide +kernel
theorem dX9_holds_163 : decode cX9_holds 163 = .ok (.istore 7, 2) := by decide +kernel
theorem dX9_holds_165 : decode cX9_holds 165 = .ok (.iload 6, 2) := by decide +kernel
theorem dX9_holds_167 : decode cX9_holds 167 = .ok (.bipush 100, 2) := by decide +kernel
theorem dX9_holds_169 : decode cX9_holds 169 = .ok (.idiv, 1) := by decide +kernel
theorem dX9_holds_170 : decode cX9_holds 170 = .ok (.bipush 10, 2) := by decide +kernel
theorem dX9_holds_172 : decode cX9_holds 172 = .ok (.irem, 1) := by decide +kernel
theorem dX9_holds_173 : decode cX9_holds 173 = .ok (.istore 8, 2) := by decide +kernel
theorem dX9_holds_175 : decode cX9_holds 175 = .ok (.aload_n 0, 1) := by decide +kernel
theorem dX9_holds_176 : decode cX9_holds 176 = .ok (.getfield 92, 3) := by decide +kernel
theorem dX9_holds_179 : decode cX9_holds 179 = .ok (.iload 4, 2) := by decide +kernel
theorem dX9_holds_181 : decode cX9_holds 181 = .ok (.iload 8, 2) := by decide +kernel
theorem dX9_holds_183 : decode cX9_holds 183 = .ok (.ifCond .ne 21, 3) := by decide +kernel
theorem dX9_holds_186 : decode cX9_holds 186 = .ok (.iload 7, 2) := by decide +kernel
theorem dX9_holds_188 : decode cX9_holds 188 = .ok (.iload 6, 2) := by decide +kernel
theorem dX9_holds_190 : decode cX9_holds 190 = .ok (.bipush 100, 2) := by decide +kernel
theorem dX9_holds_192 : decode cX9_holds 192 = .ok (.irem, 1) := by decide +kernel
theorem dX9_holds_193 : decode cX9_holds 193 = .ok (.if_icmp .ge 7, 3) := by decide +kernel
theorem dX9_holds_196 : decode cX9_holds 196 = .ok (.iconst 1, 1) := by decide +kernel
theorem dX9_holds_197 : decode cX9_holds 197 = .ok (.goto 46, 3) := by decide +kernel
theorem dX9_holds_200 : decode cX9_holds 200 = .ok (.iconst 0, 1) := by decide +kernel
theorem dX9_holds_201 : decode cX9_holds 201 = .ok (.goto 42, 3) := by decide +kernel
theorem dX9_holds_204 : decode cX9_holds 204 = .ok (.iload 8, 2) := by decide +kernel
theorem dX9_holds_206 : decode cX9_holds 206 = .ok (.iconst 1, 1) := by decide +kernel
theorem dX9_holds_207 : decode cX9_holds 207 = .ok (.if_icmp .ne 21, 3) := by decide +kernel
theorem dX9_holds_210 : decode cX9_holds 210 = .ok (.iload 7, 2) := by decide +kernel
theorem dX9_holds_212 : decode cX9_holds 212 = .ok (.iload 6, 2) := by decide +kernel
theorem dX9_holds_214 : decode cX9_holds 214 = .ok (.bipush 100, 2) := by decide +kernel
theorem dX9_holds_216 : decode cX9_holds 216 = .ok (.irem, 1) := by decide +kernel
theorem dX9_holds_217 : decode cX9_holds 217 = .ok (.if_icmp .ne 7, 3) := by decide +kernel
theorem dX9_holds_220 : decode cX9_holds 220 = .ok (.iconst 1, 1) := by decide +kernel
theorem dX9_holds_221 : decode cX9_holds 221 = .ok (.goto 22, 3) := by decide +kernel
theorem dX9_holds_224 : decode cX9_holds 224 = .ok (.iconst 0, 1) := by decide +kernel
theorem dX9_holds_225 : decode cX9_holds 225 = .ok (.goto 18, 3) := by decide +kernel
theorem dX9_holds_228 : decode cX9_holds 228 = .ok (.iload 7, 2) := by decide +kernel
theorem dX9_holds_230 : decode cX9_holds 230 = .ok (.iload 6, 2) := by decide +kernel
theorem dX9_holds_232 : decode cX9_holds 232 = .ok (.bipush 100, 2) := by decide +kernel
theorem dX9_holds_234 : decode cX9_holds 234 = .ok (.irem, 1) := by decide +kernel
theorem dX9_holds_235 : decode cX9_holds 235 = .ok (.if_icmp .le 7, 3) := by decide +kernel
theorem dX9_holds_238 : decode cX9_holds 238 = .ok (.iconst 1, 1) := by decide +kernel
theorem dX9_holds_239 : decode cX9_holds 239 = .ok (.goto 4, 3) := by decide +kernel
theorem dX9_holds_242 : decode cX9_holds 242 = .ok (.iconst 0, 1) := by decide +kernel
theorem dX9_holds_243 : decode cX9_holds 243 = .ok (.bastore, 1) := by decide +kernel
theorem dX9_holds_244 : decode cX9_holds 244 = .ok (.iinc 4 1, 3) := by decide +kernel
theorem dX9_holds_247 : decode cX9_holds 247 = .ok (.iinc 5 1, 3) := by decide +kernel
theorem dX9_holds_250 : decode cX9_holds 250 = .ok (.goto (-239), 3) := by decide +kernel
theorem dX9_holds_253 : decode cX9_holds 253 = .ok (.aload_n 0, 1) := by decide +kernel
theorem dX9_holds_254 : decode cX9_holds 254 = .ok (.getfield 92, 3) := by decide +kernel
theorem dX9_holds_257 : decode cX9_holds 257 = .ok (.iconst 0, 1) := by decide +kernel
theorem dX9_holds_258 : decode cX9_holds 258 = .ok (.baload, 1) := by decide +kernel
theorem dX9_holds_259 : decode cX9_holds 259 = .ok (.ireturn, 1) := by decide +kernel
theorem dX9_sum_0 : decode cX9_sum 0 = .ok (.aload_n 0, 1) := by decide +kernel
theorem dX9_sum_1 : decode cX9_sum 1 = .ok (.getfield 16, 3) := by decide +kernel
theorem dX9_sum_4 : decode cX9_sum 4 = .ok (.iload_n 2, 1) := by decide +kernel
theorem dX9_sum_5 : decode cX9_sum 5 = .ok (.iaload, 1) := by decide +kernel
theorem dX9_sum_6 : decode cX9_sum 6 = .ok (.istore_n 3, 1) := by decide +kernel
theorem dX9_sum_7 : decode cX9_sum 7 = .ok (.aload_n 0, 1) := by decide +kernel
theorem dX9_sum_8 : decode cX9_sum 8 = .ok (.invokevirtual 295, 3) := by decide +kernel
theorem dX9_sum_11 : decode cX9_sum 11 = .ok (.istore 4, 2) := by decide +kernel
theorem dX9_sum_13 : decode cX9_sum 13 = .ok (.iload 4, 2) := by decide +kernel
theorem dX9_sum_15 : decode cX9_sum 15 = .ok (.aload_n 0, 1) := by decide +kernel
theorem dX9_sum_16 : decode cX9_sum 16 = .ok (.invokevirtual 298, 3) := by decide +kernel
theorem dX9_sum_19 : decode cX9_sum 19 = .ok (.if_icmp .ge 65, 3) := by decide +kernel
theorem dX9_sum_22 : decode cX9_sum 22 = .ok (.aload_n 0, 1) := by decide +kernel
theorem dX9_sum_23 : decode cX9_sum 23 = .ok (.getfield 62, 3) := by decide +kernel
theorem dX9_sum_26 : decode cX9_sum 26 = .ok (.iload 4, 2) := by decide +kernel
theorem dX9_sum_28 : decode cX9_sum 28 = .ok (.iaload, 1) := by decide +kernel
theorem dX9_sum_29 : decode cX9_sum 29 = .ok (.iconst 1, 1) := by decide +kernel
theorem dX9_sum_30 : decode cX9_sum 30 = .ok (.if_icmp .gt 48, 3) := by decide +kernel
theorem dX9_sum_33 : decode cX9_sum 33 = .ok (.aload_n 0, 1) := by decide +kernel
theorem dX9_sum_34 : decode cX9_sum 34 = .ok (.iload 4, 2) := by decide +kernel
theorem dX9_sum_36 : decode cX9_sum 36 = .ok (.iload_n 1, 1) := by decide +kernel
theorem dX9_sum_37 : decode cX9_sum 37 = .ok (.iload_n 2, 1) := by decide +kernel
theorem dX9_sum_38 : decode cX9_sum 38 = .ok (.invokevirtual 305, 3) := by decide +kernel
theorem dX9_sum_41 : decode cX9_sum 41 = .ok (.ifCond .ne 6, 3) := by decide +kernel
theorem dX9_sum_44 : decode cX9_sum 44 = .ok (.goto 34, 3) := by decide +kernel
theorem dX9_sum_47 : decode cX9_sum 47 = .ok (.iload_n 3, 1) := by decide +kernel
theorem dX9_sum_48 : decode cX9_sum 48 = .ok (.aload_n 0, 1) := by decide +kernel
theorem dX9_sum_49 : decode cX9_sum 49 = .ok (.getfield 62, 3) := by decide +kernel
theorem dX9_sum_52 : decode cX9_sum 52 = .ok (.iload 4, 2) := by decide +kernel
theorem dX9_sum_54 : decode cX9_sum 54 = .ok (.iaload, 1) := by decide +kernel
theorem dX9_sum_55 : decode cX9_sum 55 = .ok (.ifCond .ne 13, 3) := by decide +kernel
theorem dX9_sum_58 : decode cX9_sum 58 = .ok (.aload_n 0, 1) := by decide +kernel
theorem dX9_sum_59 : decode cX9_sum 59 = .ok (.getfield 65, 3) := by decide +kernel
theorem dX9_sum_62 : decode cX9_sum 62 = .ok (.iload 4, 2) := by decide +kernel
theorem dX9_sum_64 : decode cX9_sum 64 = .ok (.iaload, 1) := by decide +kernel
theorem dX9_sum_65 : decode cX9_sum 65 = .ok (.goto 11, 3) := by decide +kernel
theorem dX9_sum_68 : decode cX9_sum 68 = .ok (.aload_n 0, 1) := by decide +kernel
theorem dX9_sum_69 : decode cX9_sum 69 = .ok (.getfield 65, 3) := by decide +kernel
theorem dX9_sum_72 : decode cX9_sum 72 = .ok (.iload 4, 2) := by decide +kernel
theorem dX9_sum_74 : decode cX9_sum 74 = .ok (.iaload, 1) := by decide +kernel
theorem dX9_sum_75 : decode cX9_sum 75 = .ok (.ineg, 1) := by decide +kernel
theorem dX9_sum_76 : decode cX9_sum 76 = .ok (.iadd, 1) := by decide +kernel
theorem dX9_sum_77 : decode cX9_sum 77 = .ok (.istore_n 3, 1) := by decide +kernel
theorem dX9_sum_78 : decode cX9_sum 78 = .ok (.iinc 4 1, 3) := by decide +kernel
theorem dX9_sum_81 : decode cX9_sum 81 = .ok (.goto (-68), 3) := by decide +kernel
theorem dX9_sum_84 : decode cX9_sum 84 = .ok (.iload_n 3, 1) := by decide +kernel
theorem dX9_sum_85 : decode cX9_sum 85 = .ok (.ireturn, 1) := by decide +kernel
theorem dX9_isOtherAt_0 : decode cX9_isOtherAt 0 = .ok (.iconst 0, 1) := by decide +kernel
theorem dX9_isOtherAt_1 : decode cX9_isOtherAt 1 = .ok (.istore_n 3, 1) := by decide +kernel
theorem dX9_isOtherAt_2 : decode cX9_isOtherAt 2 = .ok (.iload_n 3, 1) := by decide +kernel
theorem dX9_isOtherAt_3 : decode cX9_isOtherAt 3 = .ok (.aload_n 0, 1) := by decide +kernel
theorem dX9_isOtherAt_4 : decode cX9_isOtherAt 4 = .ok (.getfield 7, 3) := by decide +kernel
theorem dX9_isOtherAt_7 : decode cX9_isOtherAt 7 = .ok (.if_icmp .ge 26, 3) := by decide +kernel
theorem dX9_isOtherAt_10 : decode cX9_isOtherAt 10 = .ok (.iload_n 3, 1) := by decide +kernel
theorem dX9_isOtherAt_11 : decode cX9_isOtherAt 11 = .ok (.iload_n 1, 1) := by decide +kernel
theorem dX9_isOtherAt_12 : decode cX9_isOtherAt 12 = .ok (.if_icmp .eq 15, 3) := by decide +kernel
theorem dX9_isOtherAt_15 : decode cX9_isOtherAt 15 = .ok (.aload_n 0, 1) := by decide +kernel
theorem dX9_isOtherAt_16 : decode cX9_isOtherAt 16 = .ok (.getfield 26, 3) := by decide +kernel
theorem dX9_isOtherAt_19 : decode cX9_isOtherAt 19 = .ok (.iload_n 3, 1) := by decide +kernel
theorem dX9_isOtherAt_20 : decode cX9_isOtherAt 20 = .ok (.iaload, 1) := by decide +kernel
theorem dX9_isOtherAt_21 : decode cX9_isOtherAt 21 = .ok (.iload_n 2, 1) := by decide +kernel
theorem dX9_isOtherAt_22 : decode cX9_isOtherAt 22 = .ok (.if_icmp .ne 5, 3) := by decide +kernel
theorem dX9_isOtherAt_25 : decode cX9_isOtherAt 25 = .ok (.iconst 1, 1) := by decide +kernel
theorem dX9_isOtherAt_26 : decode cX9_isOtherAt 26 = .ok (.ireturn, 1) := by decide +kernel
theorem dX9_isOtherAt_27 : decode cX9_isOtherAt 27 = .ok (.iinc 3 1, 3) := by decide +kernel
theorem dX9_isOtherAt_30 : decode cX9_isOtherAt 30 = .ok (.goto (-28), 3) := by decide +kernel
theorem dX9_isOtherAt_33 : decode cX9_isOtherAt 33 = .ok (.iconst 0, 1) := by decide +kernel
theorem dX9_isOtherAt_34 : decode cX9_isOtherAt 34 = .ok (.ireturn, 1) := by decide +kernel
theorem dX9_welcomeOf_0 : decode cX9_welcomeOf 0 = .ok (.aload_n 0, 1) := by decide +kernel
theorem dX9_welcomeOf_1 : decode cX9_welcomeOf 1 = .ok (.iload_n 1, 1) := by decide +kernel
theorem dX9_welcomeOf_2 : decode cX9_welcomeOf 2 = .ok (.iload_n 2, 1) := by decide +kernel
theorem dX9_welcomeOf_3 : decode cX9_welcomeOf 3 = .ok (.invokevirtual 308, 3) := by decide +kernel
theorem dX9_welcomeOf_6 : decode cX9_welcomeOf 6 = .ok (.istore_n 3, 1) := by decide +kernel
theorem dX9_welcomeOf_7 : decode cX9_welcomeOf 7 = .ok (.iload_n 2, 1) := by decide +kernel
theorem dX9_welcomeOf_8 : decode cX9_welcomeOf 8 = .ok (.aload_n 0, 1) := by decide +kernel
theorem dX9_welcomeOf_9 : decode cX9_welcomeOf 9 = .ok (.getfield 23, 3) := by decide +kernel
theorem dX9_welcomeOf_12 : decode cX9_welcomeOf 12 = .ok (.iload_n 1, 1) := by decide +kernel
theorem dX9_welcomeOf_13 : decode cX9_welcomeOf 13 = .ok (.iaload, 1) := by decide +kernel
theorem dX9_welcomeOf_14 : decode cX9_welcomeOf 14 = .ok (.if_icmp .ge 8, 3) := by decide +kernel
theorem dX9_welcomeOf_17 : decode cX9_welcomeOf 17 = .ok (.bipush 9, 2) := by decide +kernel
theorem dX9_welcomeOf_19 : decode cX9_welcomeOf 19 = .ok (.goto 4, 3) := by decide +kernel
theorem dX9_welcomeOf_22 : decode cX9_welcomeOf 22 = .ok (.iload_n 3, 1) := by decide +kernel
theorem dX9_welcomeOf_23 : decode cX9_welcomeOf 23 = .ok (.istore 4, 2) := by decide +kernel
theorem dX9_welcomeOf_25 : decode cX9_welcomeOf 25 = .ok (.aload_n 0, 1) := by decide +kernel
theorem dX9_welcomeOf_26 : decode cX9_welcomeOf 26 = .ok (.getfield 20, 3) := by decide +kernel
theorem dX9_welcomeOf_29 : decode cX9_welcomeOf 29 = .ok (.iload_n 1, 1) := by decide +kernel
theorem dX9_welcomeOf_30 : decode cX9_welcomeOf 30 = .ok (.iaload, 1) := by decide +kernel
theorem dX9_welcomeOf_31 : decode cX9_welcomeOf 31 = .ok (.tableswitch 124 1 6 #[37, 46, 52, 55, 87, 106], 37) := by decide +kernel
theorem dX9_welcomeOf_68 : decode cX9_welcomeOf 68 = .ok (.iload_n 3, 1) := by decide +kernel
theorem dX9_welcomeOf_69 : decode cX9_welcomeOf 69 = .ok (.aload_n 0, 1) := by decide +kernel
theorem dX9_welcomeOf_70 : decode cX9_welcomeOf 70 = .ok (.getfield 23, 3) := by decide +kernel
theorem dX9_welcomeOf_73 : decode cX9_welcomeOf 73 = .ok (.iload_n 1, 1) := by decide +kernel
theorem dX9_welcomeOf_74 : decode cX9_welcomeOf 74 = .ok (.iaload, 1) := by decide +kernel
theorem dX9_welcomeOf_75 : decode cX9_welcomeOf 75 = .ok (.iadd, 1) := by decide +kernel
theorem dX9_welcomeOf_76 : decode cX9_welcomeOf 76 = .ok (.ireturn, 1) := by decide +kernel
theorem dX9_welcomeOf_77 : decode cX9_welcomeOf 77 = .ok (.iload_n 3, 1) := by decide +kernel
theorem dX9_welcomeOf_78 : decode cX9_welcomeOf 78 = .ok (.iconst 2, 1) := by decide +kernel
theorem dX9_welcomeOf_79 : decode cX9_welcomeOf 79 = .ok (.idiv, 1) := by decide +kernel
theorem dX9_welcomeOf_80 : decode cX9_welcomeOf 80 = .ok (.iconst 1, 1) := by decide +kernel
theorem dX9_welcomeOf_81 : decode cX9_welcomeOf 81 = .ok (.iadd, 1) := by decide +kernel
theorem dX9_welcomeOf_82 : decode cX9_welcomeOf 82 = .ok (.ireturn, 1) := by decide +kernel
theorem dX9_welcomeOf_83 : decode cX9_welcomeOf 83 = .ok (.iload 4, 2) := by decide +kernel
theorem dX9_welcomeOf_85 : decode cX9_welcomeOf 85 = .ok (.ireturn, 1) := by decide +kernel
theorem dX9_welcomeOf_86 : decode cX9_welcomeOf 86 = .ok (.aload_n 0, 1) := by decide +kernel
theorem dX9_welcomeOf_87 : decode cX9_welcomeOf 87 = .ok (.iload_n 1, 1) := by decide +kernel
theorem dX9_welcomeOf_88 : decode cX9_welcomeOf 88 = .ok (.iload_n 2, 1) := by decide +kernel
theorem dX9_welcomeOf_89 : decode cX9_welcomeOf 89 = .ok (.invokevirtual 312, 3) := by decide +kernel
theorem dX9_welcomeOf_92 : decode cX9_welcomeOf 92 = .ok (.ifCond .eq 17, 3) := by decide +kernel
theorem dX9_welcomeOf_95 : decode cX9_welcomeOf 95 = .ok (.iload_n 3, 1) := by decide +kernel
theorem dX9_welcomeOf_96 : decode cX9_welcomeOf 96 = .ok (.aload_n 0, 1) := by decide +kernel
theorem dX9_welcomeOf_97 : decode cX9_welcomeOf 97 = .ok (.getfield 23, 3) := by decide +kernel
theorem dX9_welcomeOf_100 : decode cX9_welcomeOf 100 = .ok (.iload_n 1, 1) := by decide +kernel
theorem dX9_welcomeOf_101 : decode cX9_welcomeOf 101 = .ok (.iaload, 1) := by decide +kernel
theorem dX9_welcomeOf_102 : decode cX9_welcomeOf 102 = .ok (.iadd, 1) := by decide +kernel
theorem dX9_welcomeOf_103 : decode cX9_welcomeOf 103 = .ok (.bipush 8, 2) := by decide +kernel
theorem dX9_welcomeOf_105 : decode cX9_welcomeOf 105 = .ok (.isub, 1) := by decide +kernel
theorem dX9_welcomeOf_106 : decode cX9_welcomeOf 106 = .ok (.goto 11, 3) := by decide +kernel
theorem dX9_welcomeOf_109 : decode cX9_welcomeOf 109 = .ok (.iload_n 3, 1) := by decide +kernel
theorem dX9_welcomeOf_110 : decode cX9_welcomeOf 110 = .ok (.aload_n 0, 1) := by decide +kernel
theorem dX9_welcomeOf_111 : decode cX9_welcomeOf 111 = .ok (.getfield 23, 3) := by decide +kernel
theorem dX9_welcomeOf_114 : decode cX9_welcomeOf 114 = .ok (.iload_n 1, 1) := by decide +kernel
theorem dX9_welcomeOf_115 : decode cX9_welcomeOf 115 = .ok (.iaload, 1) := by decide +kernel
theorem dX9_welcomeOf_116 : decode cX9_welcomeOf 116 = .ok (.iadd, 1) := by decide +kernel
theorem dX9_welcomeOf_117 : decode cX9_welcomeOf 117 = .ok (.ireturn, 1) := by decide +kernel
theorem dX9_welcomeOf_118 : decode cX9_welcomeOf 118 = .ok (.iload_n 3, 1) := by decide +kernel
theorem dX9_welcomeOf_119 : decode cX9_welcomeOf 119 = .ok (.iconst 2, 1) := by decide +kernel
theorem dX9_welcomeOf_120 : decode cX9_welcomeOf 120 = .ok (.idiv, 1) := by decide +kernel
theorem dX9_welcomeOf_121 : decode cX9_welcomeOf 121 = .ok (.iconst 1, 1) := by decide +kernel
theorem dX9_welcomeOf_122 : decode cX9_welcomeOf 122 = .ok (.iadd, 1) := by decide +kernel
theorem dX9_welcomeOf_123 : decode cX9_welcomeOf 123 = .ok (.aload_n 0, 1) := by decide +kernel
theorem dX9_welcomeOf_124 : decode cX9_welcomeOf 124 = .ok (.aload_n 0, 1) := by decide +kernel
theorem dX9_welcomeOf_125 : decode cX9_welcomeOf 125 = .ok (.getfield 32, 3) := by decide +kernel
theorem dX9_welcomeOf_128 : decode cX9_welcomeOf 128 = .ok (.iload_n 1, 1) := by decide +kernel
theorem dX9_welcomeOf_129 : decode cX9_welcomeOf 129 = .ok (.iaload, 1) := by decide +kernel
theorem dX9_welcomeOf_130 : decode cX9_welcomeOf 130 = .ok (.invokevirtual 315, 3) := by decide +kernel
theorem dX9_welcomeOf_133 : decode cX9_welcomeOf 133 = .ok (.iconst 2, 1) := by decide +kernel
theorem dX9_welcomeOf_134 : decode cX9_welcomeOf 134 = .ok (.idiv, 1) := by decide +kernel
theorem dX9_welcomeOf_135 : decode cX9_welcomeOf 135 = .ok (.iadd, 1) := by decide +kernel
theorem dX9_welcomeOf_136 : decode cX9_welcomeOf 136 = .ok (.ireturn, 1) := by decide +kernel
theorem dX9_welcomeOf_137 : decode cX9_welcomeOf 137 = .ok (.iload 4, 2) := by decide +kernel
theorem dX9_welcomeOf_139 : decode cX9_welcomeOf 139 = .ok (.aload_n 0, 1) := by decide +kernel
theorem dX9_welcomeOf_140 : decode cX9_welcomeOf 140 = .ok (.getfield 38, 3) := by decide +kernel
theorem dX9_welcomeOf_143 : decode cX9_welcomeOf 143 = .ok (.iconst 4, 1) := by decide +kernel
theorem dX9_welcomeOf_144 : decode cX9_welcomeOf 144 = .ok (.iload_n 1, 1) := by decide +kernel
theorem dX9_welcomeOf_145 : decode cX9_welcomeOf 145 = .ok (.imul, 1) := by decide +kernel
theorem dX9_welcomeOf_146 : decode cX9_welcomeOf 146 = .ok (.iload_n 2, 1) := by decide +kernel
theorem dX9_welcomeOf_147 : decode cX9_welcomeOf 147 = .ok (.iconst 4, 1) := by decide +kernel
theorem dX9_welcomeOf_148 : decode cX9_welcomeOf 148 = .ok (.irem, 1) := by decide +kernel
theorem dX9_welcomeOf_149 : decode cX9_welcomeOf 149 = .ok (.iadd, 1) := by decide +kernel
theorem dX9_welcomeOf_150 : decode cX9_welcomeOf 150 = .ok (.iaload, 1) := by decide +kernel
theorem dX9_welcomeOf_151 : decode cX9_welcomeOf 151 = .ok (.iadd, 1) := by decide +kernel
theorem dX9_welcomeOf_152 : decode cX9_welcomeOf 152 = .ok (.iconst 4, 1) := by decide +kernel
theorem dX9_welcomeOf_153 : decode cX9_welcomeOf 153 = .ok (.isub, 1) := by decide +kernel
theorem dX9_welcomeOf_154 : decode cX9_welcomeOf 154 = .ok (.ireturn, 1) := by decide +kernel
theorem dX9_welcomeOf_155 : decode cX9_welcomeOf 155 = .ok (.iload_n 3, 1) := by decide +kernel
theorem dX9_welcomeOf_156 : decode cX9_welcomeOf 156 = .ok (.ireturn, 1) := by decide +kernel
theorem dX9_welcome_0 : decode cX9_welcome 0 = .ok (.aload_n 0, 1) := by decide +kernel
theorem dX9_welcome_1 : decode cX9_welcome 1 = .ok (.iload_n 1, 1) := by decide +kernel
theorem dX9_welcome_2 : decode cX9_welcome 2 = .ok (.invokevirtual 245, 3) := by decide +kernel
theorem dX9_welcome_5 : decode cX9_welcome 5 = .ok (.ifCond .eq 20, 3) := by decide +kernel
theorem dX9_welcome_8 : decode cX9_welcome 8 = .ok (.aload_n 0, 1) := by decide +kernel
theorem dX9_welcome_9 : decode cX9_welcome 9 = .ok (.iload_n 2, 1) := by decide +kernel
theorem dX9_welcome_10 : decode cX9_welcome 10 = .ok (.invokevirtual 241, 3) := by decide +kernel
theorem dX9_welcome_13 : decode cX9_welcome 13 = .ok (.ifCond .eq 12, 3) := by decide +kernel
theorem dX9_welcome_16 : decode cX9_welcome 16 = .ok (.aload_n 0, 1) := by decide +kernel
theorem dX9_welcome_17 : decode cX9_welcome 17 = .ok (.iload_n 1, 1) := by decide +kernel
theorem dX9_welcome_18 : decode cX9_welcome 18 = .ok (.iload_n 2, 1) := by decide +kernel
theorem dX9_welcome_19 : decode cX9_welcome 19 = .ok (.invokevirtual 318, 3) := by decide +kernel
theorem dX9_welcome_22 : decode cX9_welcome 22 = .ok (.goto 6, 3) := by decide +kernel
theorem dX9_welcome_25 : decode cX9_welcome 25 = .ok (.sipush (-10001), 3) := by decide +kernel
theorem dX9_welcome_28 : decode cX9_welcome 28 = .ok (.ireturn, 1) := by decide +kernel
theorem dX9_refusals_0 : decode cX9_refusals 0 = .ok (.iconst 0, 1) := by decide +kernel
theorem dX9_refusals_1 : decode cX9_refusals 1 = .ok (.istore_n 2, 1) := by decide +kernel
theorem dX9_refusals_2 : decode cX9_refusals 2 = .ok (.iconst 0, 1) := by decide +kernel
theorem dX9_refusals_3 : decode cX9_refusals 3 = .ok (.istore_n 3, 1) := by decide +kernel
theorem dX9_refusals_4 : decode cX9_refusals 4 = .ok (.iload_n 3, 1) := by decide +kernel
theorem dX9_refusals_5 : decode cX9_refusals 5 = .ok (.bipush 16, 2) := by decide +kernel
theorem dX9_refusals_7 : decode cX9_refusals 7 = .ok (.if_icmp .ge 28, 3) := by decide +kernel
theorem dX9_refusals_10 : decode cX9_refusals 10 = .ok (.iload_n 2, 1) := by decide +kernel
theorem dX9_refusals_11 : decode cX9_refusals 11 = .ok (.aload_n 0, 1) := by decide +kernel
theorem dX9_refusals_12 : decode cX9_refusals 12 = .ok (.iload_n 1, 1) := by decide +kernel
theorem dX9_refusals_13 : decode cX9_refusals 13 = .ok (.iload_n 3, 1) := by decide +kernel
theorem dX9_refusals_14 : decode cX9_refusals 14 = .ok (.invokevirtual 318, 3) := by decide +kernel
theorem dX9_refusals_17 : decode cX9_refusals 17 = .ok (.ifCond .gt 9, 3) := by decide +kernel
theorem dX9_refusals_20 : decode cX9_refusals 20 = .ok (.iconst 1, 1) := by decide +kernel
theorem dX9_refusals_21 : decode cX9_refusals 21 = .ok (.iload_n 3, 1) := by decide +kernel
theorem dX9_refusals_22 : decode cX9_refusals 22 = .ok (.ishl, 1) := by decide +kernel
theorem dX9_refusals_23 : decode cX9_refusals 23 = .ok (.goto 4, 3) := by decide +kernel
theorem dX9_refusals_26 : decode cX9_refusals 26 = .ok (.iconst 0, 1) := by decide +kernel
theorem dX9_refusals_27 : decode cX9_refusals 27 = .ok (.ior, 1) := by decide +kernel
theorem dX9_refusals_28 : decode cX9_refusals 28 = .ok (.istore_n 2, 1) := by decide +kernel
theorem dX9_refusals_29 : decode cX9_refusals 29 = .ok (.iinc 3 1, 3) := by decide +kernel
theorem dX9_refusals_32 : decode cX9_refusals 32 = .ok (.goto (-28), 3) := by decide +kernel
theorem dX9_refusals_35 : decode cX9_refusals 35 = .ok (.iload_n 2, 1) := by decide +kernel
theorem dX9_refusals_36 : decode cX9_refusals 36 = .ok (.ireturn, 1) := by decide +kernel
theorem dX9_beside_0 : decode cX9_beside 0 = .ok (.iload_n 2, 1) := by decide +kernel
theorem dX9_beside_1 : decode cX9_beside 1 = .ok (.tableswitch 60 0 2 #[27, 31, 45], 27) := by decide +kernel
theorem dX9_beside_28 : decode cX9_beside 28 = .ok (.iload_n 1, 1) := by decide +kernel
theorem dX9_beside_29 : decode cX9_beside 29 = .ok (.iconst 4, 1) := by decide +kernel
theorem dX9_beside_30 : decode cX9_beside 30 = .ok (.isub, 1) := by decide +kernel
theorem dX9_beside_31 : decode cX9_beside 31 = .ok (.ireturn, 1) := by decide +kernel
theorem dX9_beside_32 : decode cX9_beside 32 = .ok (.iload_n 1, 1) := by decide +kernel
theorem dX9_beside_33 : decode cX9_beside 33 = .ok (.iconst 4, 1) := by decide +kernel
theorem dX9_beside_34 : decode cX9_beside 34 = .ok (.irem, 1) := by decide +kernel
theorem dX9_beside_35 : decode cX9_beside 35 = .ok (.ifCond .ne 7, 3) := by decide +kernel
theorem dX9_beside_38 : decode cX9_beside 38 = .ok (.iconst (-1), 1) := by decide +kernel
theorem dX9_beside_39 : decode cX9_beside 39 = .ok (.goto 6, 3) := by decide +kernel
theorem dX9_beside_42 : decode cX9_beside 42 = .ok (.iload_n 1, 1) := by decide +kernel
theorem dX9_beside_43 : decode cX9_beside 43 = .ok (.iconst 1, 1) := by decide +kernel
theorem dX9_beside_44 : decode cX9_beside 44 = .ok (.isub, 1) := by decide +kernel
theorem dX9_beside_45 : decode cX9_beside 45 = .ok (.ireturn, 1) := by decide +kernel
theorem dX9_beside_46 : decode cX9_beside 46 = .ok (.iload_n 1, 1) := by decide +kernel
theorem dX9_beside_47 : decode cX9_beside 47 = .ok (.iconst 4, 1) := by decide +kernel
theorem dX9_beside_48 : decode cX9_beside 48 = .ok (.irem, 1) := by decide +kernel
theorem dX9_beside_49 : decode cX9_beside 49 = .ok (.iconst 3, 1) := by decide +kernel
theorem dX9_beside_50 : decode cX9_beside 50 = .ok (.if_icmp .ne 7, 3) := by decide +kernel
theorem dX9_beside_53 : decode cX9_beside 53 = .ok (.iconst (-1), 1) := by decide +kernel
theorem dX9_beside_54 : decode cX9_beside 54 = .ok (.goto 6, 3) := by decide +kernel
theorem dX9_beside_57 : decode cX9_beside 57 = .ok (.iload_n 1, 1) := by decide +kernel
theorem dX9_beside_58 : decode cX9_beside 58 = .ok (.iconst 1, 1) := by decide +kernel
theorem dX9_beside_59 : decode cX9_beside 59 = .ok (.iadd, 1) := by decide +kernel
theorem dX9_beside_60 : decode cX9_beside 60 = .ok (.ireturn, 1) := by decide +kernel
theorem dX9_beside_61 : decode cX9_beside 61 = .ok (.iload_n 1, 1) := by decide +kernel
theorem dX9_beside_62 : decode cX9_beside 62 = .ok (.bipush 11, 2) := by decide +kernel
theorem dX9_beside_64 : decode cX9_beside 64 = .ok (.if_icmp .le 7, 3) := by decide +kernel
theorem dX9_beside_67 : decode cX9_beside 67 = .ok (.iconst (-1), 1) := by decide +kernel
theorem dX9_beside_68 : decode cX9_beside 68 = .ok (.goto 6, 3) := by decide +kernel
theorem dX9_beside_71 : decode cX9_beside 71 = .ok (.iload_n 1, 1) := by decide +kernel
theorem dX9_beside_72 : decode cX9_beside 72 = .ok (.iconst 4, 1) := by decide +kernel
theorem dX9_beside_73 : decode cX9_beside 73 = .ok (.iadd, 1) := by decide +kernel
theorem dX9_beside_74 : decode cX9_beside 74 = .ok (.ireturn, 1) := by decide +kernel
theorem dX9_nearest_0 : decode cX9_nearest 0 = .ok (.bipush 99, 2) := by decide +kernel
theorem dX9_nearest_2 : decode cX9_nearest 2 = .ok (.istore_n 2, 1) := by decide +kernel
theorem dX9_nearest_3 : decode cX9_nearest 3 = .ok (.iconst 0, 1) := by decide +kernel
theorem dX9_nearest_4 : decode cX9_nearest 4 = .ok (.istore_n 3, 1) := by decide +kernel
theorem dX9_nearest_5 : decode cX9_nearest 5 = .ok (.iload_n 3, 1) := by decide +kernel
theorem dX9_nearest_6 : decode cX9_nearest 6 = .ok (.iconst 4, 1) := by decide +kernel
theorem dX9_nearest_7 : decode cX9_nearest 7 = .ok (.if_icmp .ge 37, 3) := by decide +kernel
theorem dX9_nearest_10 : decode cX9_nearest 10 = .ok (.aload_n 0, 1) := by decide +kernel
theorem dX9_nearest_11 : decode cX9_nearest 11 = .ok (.iload_n 1, 1) := by decide +kernel
theorem dX9_nearest_12 : decode cX9_nearest 12 = .ok (.iload_n 3, 1) := by decide +kernel
theorem dX9_nearest_13 : decode cX9_nearest 13 = .ok (.invokevirtual 321, 3) := by decide +kernel
theorem dX9_nearest_16 : decode cX9_nearest 16 = .ok (.istore 4, 2) := by decide +kernel
theorem dX9_nearest_18 : decode cX9_nearest 18 = .ok (.iload 4, 2) := by decide +kernel
theorem dX9_nearest_20 : decode cX9_nearest 20 = .ok (.ifCond .lt 18, 3) := by decide +kernel
theorem dX9_nearest_23 : decode cX9_nearest 23 = .ok (.aload_n 0, 1) := by decide +kernel
theorem dX9_nearest_24 : decode cX9_nearest 24 = .ok (.iload_n 2, 1) := by decide +kernel
theorem dX9_nearest_25 : decode cX9_nearest 25 = .ok (.aload_n 0, 1) := by decide +kernel
theorem dX9_nearest_26 : decode cX9_nearest 26 = .ok (.getfield 96, 3) := by decide +kernel
theorem dX9_nearest_29 : decode cX9_nearest 29 = .ok (.iload 4, 2) := by decide +kernel
theorem dX9_nearest_31 : decode cX9_nearest 31 = .ok (.iaload, 1) := by decide +kernel
theorem dX9_nearest_32 : decode cX9_nearest 32 = .ok (.iconst 1, 1) := by decide +kernel
theorem dX9_nearest_33 : decode cX9_nearest 33 = .ok (.iadd, 1) := by decide +kernel
theorem dX9_nearest_34 : decode cX9_nearest 34 = .ok (.invokevirtual 324, 3) := by decide +kernel
theorem dX9_nearest_37 : decode cX9_nearest 37 = .ok (.istore_n 2, 1) := by decide +kernel
theorem dX9_nearest_38 : decode cX9_nearest 38 = .ok (.iinc 3 1, 3) := by decide +kernel
theorem dX9_nearest_41 : decode cX9_nearest 41 = .ok (.goto (-36), 3) := by decide +kernel
theorem dX9_nearest_44 : decode cX9_nearest 44 = .ok (.iload_n 2, 1) := by decide +kernel
theorem dX9_nearest_45 : decode cX9_nearest 45 = .ok (.ireturn, 1) := by decide +kernel
theorem dX9_layDistance_0 : decode cX9_layDistance 0 = .ok (.iconst 0, 1) := by decide +kernel
theorem dX9_layDistance_1 : decode cX9_layDistance 1 = .ok (.istore_n 3, 1) := by decide +kernel
theorem dX9_layDistance_2 : decode cX9_layDistance 2 = .ok (.iload_n 3, 1) := by decide +kernel
theorem dX9_layDistance_3 : decode cX9_layDistance 3 = .ok (.bipush 16, 2) := by decide +kernel
theorem dX9_layDistance_5 : decode cX9_layDistance 5 = .ok (.if_icmp .ge 17, 3) := by decide +kernel
theorem dX9_layDistance_8 : decode cX9_layDistance 8 = .ok (.aload_n 0, 1) := by decide +kernel
theorem dX9_layDistance_9 : decode cX9_layDistance 9 = .ok (.getfield 96, 3) := by decide +kernel
theorem dX9_layDistance_12 : decode cX9_layDistance 12 = .ok (.iload_n 3, 1) := by decide +kernel
theorem dX9_layDistance_13 : decode cX9_layDistance 13 = .ok (.bipush 99, 2) := by decide +kernel
theorem dX9_layDistance_15 : decode cX9_layDistance 15 = .ok (.iastore, 1) := by decide +kernel
theorem dX9_layDistance_16 : decode cX9_layDistance 16 = .ok (.iinc 3 1, 3) := by decide +kernel
theorem dX9_layDistance_19 : decode cX9_layDistance 19 = .ok (.goto (-17), 3) := by decide +kernel
theorem dX9_layDistance_22 : decode cX9_layDistance 22 = .ok (.aload_n 0, 1) := by decide +kernel
theorem dX9_layDistance_23 : decode cX9_layDistance 23 = .ok (.iload_n 1, 1) := by decide +kernel
theorem dX9_layDistance_24 : decode cX9_layDistance 24 = .ok (.iload_n 2, 1) := by decide +kernel
theorem dX9_layDistance_25 : decode cX9_layDistance 25 = .ok (.invokevirtual 233, 3) := by decide +kernel
theorem dX9_layDistance_28 : decode cX9_layDistance 28 = .ok (.ifCond .ne 10, 3) := by decide +kernel
theorem dX9_layDistance_31 : decode cX9_layDistance 31 = .ok (.aload_n 0, 1) := by decide +kernel
theorem dX9_layDistance_32 : decode cX9_layDistance 32 = .ok (.getfield 96, 3) := by decide +kernel
theorem dX9_layDistance_35 : decode cX9_layDistance 35 = .ok (.iload_n 2, 1) := by decide +kernel
theorem dX9_layDistance_36 : decode cX9_layDistance 36 = .ok (.iconst 0, 1) := by decide +kernel
theorem dX9_layDistance_37 : decode cX9_layDistance 37 = .ok (.iastore, 1) := by decide +kernel
theorem dX9_layDistance_38 : decode cX9_layDistance 38 = .ok (.iconst 1, 1) := by decide +kernel
theorem dX9_layDistance_39 : decode cX9_layDistance 39 = .ok (.istore_n 3, 1) := by decide +kernel
theorem dX9_layDistance_40 : decode cX9_layDistance 40 = .ok (.iload_n 3, 1) := by decide +kernel
theorem dX9_layDistance_41 : decode cX9_layDistance 41 = .ok (.ifCond .eq 68, 3) := by decide +kernel
theorem dX9_layDistance_44 : decode cX9_layDistance 44 = .ok (.iconst 0, 1) := by decide +kernel
theorem dX9_layDistance_45 : decode cX9_layDistance 45 = .ok (.istore_n 3, 1) := by decide +kernel
theorem dX9_layDistance_46 : decode cX9_layDistance 46 = .ok (.iconst 0, 1) := by decide +kernel
theorem dX9_layDistance_47 : decode cX9_layDistance 47 = .ok (.istore 4, 2) := by decide +kernel
theorem dX9_layDistance_49 : decode cX9_layDistance 49 = .ok (.iload 4, 2) := by decide +kernel
theorem dX9_layDistance_51 : decode cX9_layDistance 51 = .ok (.bipush 16, 2) := by decide +kernel
theorem dX9_layDistance_53 : decode cX9_layDistance 53 = .ok (.if_icmp .ge 53, 3) := by decide +kernel
theorem dX9_layDistance_56 : decode cX9_layDistance 56 = .ok (.aload_n 0, 1) := by decide +kernel
theorem dX9_layDistance_57 : decode cX9_layDistance 57 = .ok (.iload_n 1, 1) := by decide +kernel
theorem dX9_layDistance_58 : decode cX9_layDistance 58 = .ok (.iload 4, 2) := by decide +kernel
theorem dX9_layDistance_60 : decode cX9_layDistance 60 = .ok (.invokevirtual 233, 3) := by decide +kernel
theorem dX9_layDistance_63 : decode cX9_layDistance 63 = .ok (.ifCond .ne 37, 3) := by decide +kernel
theorem dX9_layDistance_66 : decode cX9_layDistance 66 = .ok (.aload_n 0, 1) := by decide +kernel
theorem dX9_layDistance_67 : decode cX9_layDistance 67 = .ok (.iload 4, 2) := by decide +kernel
theorem dX9_layDistance_69 : decode cX9_layDistance 69 = .ok (.invokevirtual 327, 3) := by decide +kernel
theorem dX9_layDistance_72 : decode cX9_layDistance 72 = .ok (.aload_n 0, 1) := by decide +kernel
theorem dX9_layDistance_73 : decode cX9_layDistance 73 = .ok (.getfield 96, 3) := by decide +kernel
theorem dX9_layDistance_76 : decode cX9_layDistance 76 = .ok (.iload 4, 2) := by decide +kernel
theorem dX9_layDistance_78 : decode cX9_layDistance 78 = .ok (.iaload, 1) := by decide +kernel
theorem dX9_layDistance_79 : decode cX9_layDistance 79 = .ok (.if_icmp .lt 6, 3) := by decide +kernel
theorem dX9_layDistance_82 : decode cX9_layDistance 82 = .ok (.goto 18, 3) := by decide +kernel
theorem dX9_layDistance_85 : decode cX9_layDistance 85 = .ok (.aload_n 0, 1) := by decide +kernel
theorem dX9_layDistance_86 : decode cX9_layDistance 86 = .ok (.getfield 96, 3) := by decide +kernel
theorem dX9_layDistance_89 : decode cX9_layDistance 89 = .ok (.iload 4, 2) := by decide +kernel
theorem dX9_layDistance_91 : decode cX9_layDistance 91 = .ok (.aload_n 0, 1) := by decide +kernel
theorem dX9_layDistance_92 : decode cX9_layDistance 92 = .ok (.iload 4, 2) := by decide +kernel
theorem dX9_layDistance_94 : decode cX9_layDistance 94 = .ok (.invokevirtual 327, 3) := by decide +kernel
theorem dX9_layDistance_97 : decode cX9_layDistance 97 = .ok (.iastore, 1) := by decide +kernel
theorem dX9_layDistance_98 : decode cX9_layDistance 98 = .ok (.iconst 1, 1) := by decide +kernel
theorem dX9_layDistance_99 : decode cX9_layDistance 99 = .ok (.istore_n 3, 1) := by decide +kernel
theorem dX9_layDistance_100 : decode cX9_layDistance 100 = .ok (.iinc 4 1, 3) := by decide +kernel
theorem dX9_layDistance_103 : decode cX9_layDistance 103 = .ok (.goto (-54), 3) := by decide +kernel
theorem dX9_layDistance_106 : decode cX9_layDistance 106 = .ok (.goto (-66), 3) := by decide +kernel
theorem dX9_layDistance_109 : decode cX9_layDistance 109 = .ok (.return_, 1) := by decide +kernel
theorem dX9_longWay_0 : decode cX9_longWay 0 = .ok (.aload_n 0, 1) := by decide +kernel
theorem dX9_longWay_1 : decode cX9_longWay 1 = .ok (.iload_n 1, 1) := by decide +kernel
theorem dX9_longWay_2 : decode cX9_longWay 2 = .ok (.iload_n 3, 1) := by decide +kernel
theorem dX9_longWay_3 : decode cX9_longWay 3 = .ok (.invokevirtual 330, 3) := by decide +kernel
theorem dX9_longWay_6 : decode cX9_longWay 6 = .ok (.iload_n 2, 1) := by decide +kernel
theorem dX9_longWay_7 : decode cX9_longWay 7 = .ok (.iload_n 3, 1) := by decide +kernel
theorem dX9_longWay_8 : decode cX9_longWay 8 = .ok (.if_icmp .ne 5, 3) := by decide +kernel
theorem dX9_longWay_11 : decode cX9_longWay 11 = .ok (.iconst 0, 1) := by decide +kernel
theorem dX9_longWay_12 : decode cX9_longWay 12 = .ok (.ireturn, 1) := by decide +kernel
theorem dX9_longWay_13 : decode cX9_longWay 13 = .ok (.aload_n 0, 1) := by decide +kernel
theorem dX9_longWay_14 : decode cX9_longWay 14 = .ok (.iload_n 2, 1) := by decide +kernel
theorem dX9_longWay_15 : decode cX9_longWay 15 = .ok (.invokevirtual 327, 3) := by decide +kernel
theorem dX9_longWay_18 : decode cX9_longWay 18 = .ok (.bipush 99, 2) := by decide +kernel
theorem dX9_longWay_20 : decode cX9_longWay 20 = .ok (.if_icmp .ge 11, 3) := by decide +kernel
theorem dX9_longWay_23 : decode cX9_longWay 23 = .ok (.aload_n 0, 1) := by decide +kernel
theorem dX9_longWay_24 : decode cX9_longWay 24 = .ok (.iload_n 2, 1) := by decide +kernel
theorem dX9_longWay_25 : decode cX9_longWay 25 = .ok (.invokevirtual 327, 3) := by decide +kernel
theorem dX9_longWay_28 : decode cX9_longWay 28 = .ok (.goto 5, 3) := by decide +kernel
theorem dX9_longWay_31 : decode cX9_longWay 31 = .ok (.bipush (-5), 2) := by decide +kernel
theorem dX9_longWay_33 : decode cX9_longWay 33 = .ok (.ireturn, 1) := by decide +kernel
theorem dX9_stepFrom_0 : decode cX9_stepFrom 0 = .ok (.iconst 0, 1) := by decide +kernel
theorem dX9_stepFrom_1 : decode cX9_stepFrom 1 = .ok (.istore_n 2, 1) := by decide +kernel
theorem dX9_stepFrom_2 : decode cX9_stepFrom 2 = .ok (.iload_n 2, 1) := by decide +kernel
theorem dX9_stepFrom_3 : decode cX9_stepFrom 3 = .ok (.iconst 4, 1) := by decide +kernel
theorem dX9_stepFrom_4 : decode cX9_stepFrom 4 = .ok (.if_icmp .ge 46, 3) := by decide +kernel
theorem dX9_stepFrom_7 : decode cX9_stepFrom 7 = .ok (.aload_n 0, 1) := by decide +kernel
theorem dX9_stepFrom_8 : decode cX9_stepFrom 8 = .ok (.iload_n 1, 1) := by decide +kernel
theorem dX9_stepFrom_9 : decode cX9_stepFrom 9 = .ok (.iload_n 2, 1) := by decide +kernel
theorem dX9_stepFrom_10 : decode cX9_stepFrom 10 = .ok (.invokevirtual 321, 3) := by decide +kernel
theorem dX9_stepFrom_13 : decode cX9_stepFrom 13 = .ok (.ifCond .lt 31, 3) := by decide +kernel
theorem dX9_stepFrom_16 : decode cX9_stepFrom 16 = .ok (.aload_n 0, 1) := by decide +kernel
theorem dX9_stepFrom_17 : decode cX9_stepFrom 17 = .ok (.getfield 96, 3) := by decide +kernel
theorem dX9_stepFrom_20 : decode cX9_stepFrom 20 = .ok (.aload_n 0, 1) := by decide +kernel
theorem dX9_stepFrom_21 : decode cX9_stepFrom 21 = .ok (.iload_n 1, 1) := by decide +kernel
theorem dX9_stepFrom_22 : decode cX9_stepFrom 22 = .ok (.iload_n 2, 1) := by decide +kernel
theorem dX9_stepFrom_23 : decode cX9_stepFrom 23 = .ok (.invokevirtual 321, 3) := by decide +kernel
theorem dX9_stepFrom_26 : decode cX9_stepFrom 26 = .ok (.iaload, 1) := by decide +kernel
theorem dX9_stepFrom_27 : decode cX9_stepFrom 27 = .ok (.iconst 1, 1) := by decide +kernel
theorem dX9_stepFrom_28 : decode cX9_stepFrom 28 = .ok (.iadd, 1) := by decide +kernel
theorem dX9_stepFrom_29 : decode cX9_stepFrom 29 = .ok (.aload_n 0, 1) := by decide +kernel
theorem dX9_stepFrom_30 : decode cX9_stepFrom 30 = .ok (.iload_n 1, 1) := by decide +kernel
theorem dX9_stepFrom_31 : decode cX9_stepFrom 31 = .ok (.invokevirtual 327, 3) := by decide +kernel
theorem dX9_stepFrom_34 : decode cX9_stepFrom 34 = .ok (.if_icmp .ne 10, 3) := by decide +kernel
theorem dX9_stepFrom_37 : decode cX9_stepFrom 37 = .ok (.aload_n 0, 1) := by decide +kernel
theorem dX9_stepFrom_38 : decode cX9_stepFrom 38 = .ok (.iload_n 1, 1) := by decide +kernel
theorem dX9_stepFrom_39 : decode cX9_stepFrom 39 = .ok (.iload_n 2, 1) := by decide +kernel
theorem dX9_stepFrom_40 : decode cX9_stepFrom 40 = .ok (.invokevirtual 321, 3) := by decide +kernel
theorem dX9_stepFrom_43 : decode cX9_stepFrom 43 = .ok (.ireturn, 1) := by decide +kernel
theorem dX9_stepFrom_44 : decode cX9_stepFrom 44 = .ok (.iinc 2 1, 3) := by decide +kernel
theorem dX9_stepFrom_47 : decode cX9_stepFrom 47 = .ok (.goto (-45), 3) := by decide +kernel
theorem dX9_stepFrom_50 : decode cX9_stepFrom 50 = .ok (.bipush (-5), 2) := by decide +kernel
theorem dX9_stepFrom_52 : decode cX9_stepFrom 52 = .ok (.ireturn, 1) := by decide +kernel
theorem dX9_way_0 : decode cX9_way 0 = .ok (.aload_n 0, 1) := by decide +kernel
theorem dX9_way_1 : decode cX9_way 1 = .ok (.iload_n 1, 1) := by decide +kernel
theorem dX9_way_2 : decode cX9_way 2 = .ok (.invokevirtual 245, 3) := by decide +kernel
theorem dX9_way_5 : decode cX9_way 5 = .ok (.ifCond .eq 22, 3) := by decide +kernel
theorem dX9_way_8 : decode cX9_way 8 = .ok (.aload_n 0, 1) := by decide +kernel
theorem dX9_way_9 : decode cX9_way 9 = .ok (.iload_n 2, 1) := by decide +kernel
theorem dX9_way_10 : decode cX9_way 10 = .ok (.invokevirtual 241, 3) := by decide +kernel
theorem dX9_way_13 : decode cX9_way 13 = .ok (.ifCond .eq 14, 3) := by decide +kernel
theorem dX9_way_16 : decode cX9_way 16 = .ok (.aload_n 0, 1) := by decide +kernel
theorem dX9_way_17 : decode cX9_way 17 = .ok (.iload_n 3, 1) := by decide +kernel
theorem dX9_way_18 : decode cX9_way 18 = .ok (.iconst (-1), 1) := by decide +kernel
theorem dX9_way_19 : decode cX9_way 19 = .ok (.bipush 14, 2) := by decide +kernel
theorem dX9_way_21 : decode cX9_way 21 = .ok (.invokevirtual 237, 3) := by decide +kernel
theorem dX9_way_24 : decode cX9_way 24 = .ok (.ifCond .ne 5, 3) := by decide +kernel
theorem dX9_way_27 : decode cX9_way 27 = .ok (.iconst (-1), 1) := by decide +kernel
theorem dX9_way_28 : decode cX9_way 28 = .ok (.ireturn, 1) := by decide +kernel
theorem dX9_way_29 : decode cX9_way 29 = .ok (.aload_n 0, 1) := by decide +kernel
theorem dX9_way_30 : decode cX9_way 30 = .ok (.aload_n 0, 1) := by decide +kernel
theorem dX9_way_31 : decode cX9_way 31 = .ok (.getfield 32, 3) := by decide +kernel
theorem dX9_way_34 : decode cX9_way 34 = .ok (.iload_n 1, 1) := by decide +kernel
theorem dX9_way_35 : decode cX9_way 35 = .ok (.iaload, 1) := by decide +kernel
theorem dX9_way_36 : decode cX9_way 36 = .ok (.aload_n 0, 1) := by decide +kernel
theorem dX9_way_37 : decode cX9_way 37 = .ok (.getfield 26, 3) := by decide +kernel
theorem dX9_way_40 : decode cX9_way 40 = .ok (.iload_n 1, 1) := by decide +kernel
theorem dX9_way_41 : decode cX9_way 41 = .ok (.iaload, 1) := by decide +kernel
theorem dX9_way_42 : decode cX9_way 42 = .ok (.iload_n 2, 1) := by decide +kernel
theorem dX9_way_43 : decode cX9_way 43 = .ok (.invokevirtual 334, 3) := by decide +kernel
theorem dX9_way_46 : decode cX9_way 46 = .ok (.istore 4, 2) := by decide +kernel
theorem dX9_way_48 : decode cX9_way 48 = .ok (.iload_n 3, 1) := by decide +kernel
theorem dX9_way_49 : decode cX9_way 49 = .ok (.ifCond .ge 6, 3) := by decide +kernel
theorem dX9_way_52 : decode cX9_way 52 = .ok (.iload 4, 2) := by decide +kernel
theorem dX9_way_54 : decode cX9_way 54 = .ok (.ireturn, 1) := by decide +kernel
theorem dX9_way_55 : decode cX9_way 55 = .ok (.iload_n 3, 1) := by decide +kernel
theorem dX9_way_56 : decode cX9_way 56 = .ok (.iload 4, 2) := by decide +kernel
theorem dX9_way_58 : decode cX9_way 58 = .ok (.if_icmp .lt 6, 3) := by decide +kernel
theorem dX9_way_61 : decode cX9_way 61 = .ok (.bipush (-5), 2) := by decide +kernel
theorem dX9_way_63 : decode cX9_way 63 = .ok (.ireturn, 1) := by decide +kernel
theorem dX9_way_64 : decode cX9_way 64 = .ok (.aload_n 0, 1) := by decide +kernel
theorem dX9_way_65 : decode cX9_way 65 = .ok (.getfield 26, 3) := by decide +kernel
theorem dX9_way_68 : decode cX9_way 68 = .ok (.iload_n 1, 1) := by decide +kernel
theorem dX9_way_69 : decode cX9_way 69 = .ok (.iaload, 1) := by decide +kernel
theorem dX9_way_70 : decode cX9_way 70 = .ok (.istore 5, 2) := by decide +kernel
theorem dX9_way_72 : decode cX9_way 72 = .ok (.iconst 0, 1) := by decide +kernel
theorem dX9_way_73 : decode cX9_way 73 = .ok (.istore 6, 2) := by decide +kernel
theorem dX9_way_75 : decode cX9_way 75 = .ok (.iload 6, 2) := by decide +kernel
theorem dX9_way_77 : decode cX9_way 77 = .ok (.iload_n 3, 1) := by decide +kernel
theorem dX9_way_78 : decode cX9_way 78 = .ok (.if_icmp .gt 17, 3) := by decide +kernel
theorem dX9_way_81 : decode cX9_way 81 = .ok (.aload_n 0, 1) := by decide +kernel
theorem dX9_way_82 : decode cX9_way 82 = .ok (.iload 5, 2) := by decide +kernel
theorem dX9_way_84 : decode cX9_way 84 = .ok (.invokevirtual 337, 3) := by decide +kernel
theorem dX9_way_87 : decode cX9_way 87 = .ok (.istore 5, 2) := by decide +kernel
theorem dX9_way_89 : decode cX9_way 89 = .ok (.iinc 6 1, 3) := by decide +kernel
theorem dX9_way_92 : decode cX9_way 92 = .ok (.goto (-17), 3) := by decide +kernel
theorem dX9_way_95 : decode cX9_way 95 = .ok (.iload 5, 2) := by decide +kernel
theorem dX9_way_97 : decode cX9_way 97 = .ok (.ireturn, 1) := by decide +kernel
theorem dX9_straight_0 : decode cX9_straight 0 = .ok (.aload_n 0, 1) := by decide +kernel
theorem dX9_straight_1 : decode cX9_straight 1 = .ok (.iload_n 1, 1) := by decide +kernel
theorem dX9_straight_2 : decode cX9_straight 2 = .ok (.invokevirtual 245, 3) := by decide +kernel
theorem dX9_straight_5 : decode cX9_straight 5 = .ok (.ifCond .eq 30, 3) := by decide +kernel
theorem dX9_straight_8 : decode cX9_straight 8 = .ok (.aload_n 0, 1) := by decide +kernel
theorem dX9_straight_9 : decode cX9_straight 9 = .ok (.iload_n 2, 1) := by decide +kernel
theorem dX9_straight_10 : decode cX9_straight 10 = .ok (.invokevirtual 241, 3) := by decide +kernel
theorem dX9_straight_13 : decode cX9_straight 13 = .ok (.ifCond .eq 22, 3) := by decide +kernel
theorem dX9_straight_16 : decode cX9_straight 16 = .ok (.aload_n 0, 1) := by decide +kernel
theorem dX9_straight_17 : decode cX9_straight 17 = .ok (.aload_n 0, 1) := by decide +kernel
theorem dX9_straight_18 : decode cX9_straight 18 = .ok (.iload_n 1, 1) := by decide +kernel
theorem dX9_straight_19 : decode cX9_straight 19 = .ok (.invokevirtual 340, 3) := by decide +kernel
theorem dX9_straight_22 : decode cX9_straight 22 = .ok (.aload_n 0, 1) := by decide +kernel
theorem dX9_straight_23 : decode cX9_straight 23 = .ok (.getfield 26, 3) := by decide +kernel
theorem dX9_straight_26 : decode cX9_straight 26 = .ok (.iload_n 1, 1) := by decide +kernel
theorem dX9_straight_27 : decode cX9_straight 27 = .ok (.iaload, 1) := by decide +kernel
theorem dX9_straight_28 : decode cX9_straight 28 = .ok (.iload_n 2, 1) := by decide +kernel
theorem dX9_straight_29 : decode cX9_straight 29 = .ok (.invokevirtual 334, 3) := by decide +kernel
theorem dX9_straight_32 : decode cX9_straight 32 = .ok (.goto 4, 3) := by decide +kernel
theorem dX9_straight_35 : decode cX9_straight 35 = .ok (.iconst (-1), 1) := by decide +kernel
theorem dX9_straight_36 : decode cX9_straight 36 = .ok (.ireturn, 1) := by decide +kernel
theorem dX9_goes_0 : decode cX9_goes 0 = .ok (.aload_n 0, 1) := by decide +kernel
theorem dX9_goes_1 : decode cX9_goes 1 = .ok (.getfield 29, 3) := by decide +kernel
theorem dX9_goes_4 : decode cX9_goes 4 = .ok (.iload_n 1, 1) := by decide +kernel
theorem dX9_goes_5 : decode cX9_goes 5 = .ok (.iaload, 1) := by decide +kernel
theorem dX9_goes_6 : decode cX9_goes 6 = .ok (.ifCond .lt 43, 3) := by decide +kernel
theorem dX9_goes_9 : decode cX9_goes 9 = .ok (.aload_n 0, 1) := by decide +kernel
theorem dX9_goes_10 : decode cX9_goes 10 = .ok (.getfield 29, 3) := by decide +kernel
theorem dX9_goes_13 : decode cX9_goes 13 = .ok (.iload_n 1, 1) := by decide +kernel
theorem dX9_goes_14 : decode cX9_goes 14 = .ok (.iaload, 1) := by decide +kernel
theorem dX9_goes_15 : decode cX9_goes 15 = .ok (.aload_n 0, 1) := by decide +kernel
theorem dX9_goes_16 : decode cX9_goes 16 = .ok (.getfield 26, 3) := by decide +kernel
theorem dX9_goes_19 : decode cX9_goes 19 = .ok (.iload_n 1, 1) := by decide +kernel
theorem dX9_goes_20 : decode cX9_goes 20 = .ok (.iaload, 1) := by decide +kernel
theorem dX9_goes_21 : decode cX9_goes 21 = .ok (.if_icmp .eq 28, 3) := by decide +kernel
theorem dX9_goes_24 : decode cX9_goes 24 = .ok (.aload_n 0, 1) := by decide +kernel
theorem dX9_goes_25 : decode cX9_goes 25 = .ok (.aload_n 0, 1) := by decide +kernel
theorem dX9_goes_26 : decode cX9_goes 26 = .ok (.getfield 32, 3) := by decide +kernel
theorem dX9_goes_29 : decode cX9_goes 29 = .ok (.iload_n 1, 1) := by decide +kernel
theorem dX9_goes_30 : decode cX9_goes 30 = .ok (.iaload, 1) := by decide +kernel
theorem dX9_goes_31 : decode cX9_goes 31 = .ok (.aload_n 0, 1) := by decide +kernel
theorem dX9_goes_32 : decode cX9_goes 32 = .ok (.getfield 26, 3) := by decide +kernel
theorem dX9_goes_35 : decode cX9_goes 35 = .ok (.iload_n 1, 1) := by decide +kernel
theorem dX9_goes_36 : decode cX9_goes 36 = .ok (.iaload, 1) := by decide +kernel
theorem dX9_goes_37 : decode cX9_goes 37 = .ok (.aload_n 0, 1) := by decide +kernel
theorem dX9_goes_38 : decode cX9_goes 38 = .ok (.getfield 29, 3) := by decide +kernel
theorem dX9_goes_41 : decode cX9_goes 41 = .ok (.iload_n 1, 1) := by decide +kernel
theorem dX9_goes_42 : decode cX9_goes 42 = .ok (.iaload, 1) := by decide +kernel
theorem dX9_goes_43 : decode cX9_goes 43 = .ok (.invokevirtual 334, 3) := by decide +kernel
theorem dX9_goes_46 : decode cX9_goes 46 = .ok (.ifCond .ge 4, 3) := by decide +kernel
theorem dX9_goes_49 : decode cX9_goes 49 = .ok (.return_, 1) := by decide +kernel
theorem dX9_goes_50 : decode cX9_goes 50 = .ok (.aload_n 0, 1) := by decide +kernel
theorem dX9_goes_51 : decode cX9_goes 51 = .ok (.aload_n 0, 1) := by decide +kernel
theorem dX9_goes_52 : decode cX9_goes 52 = .ok (.getfield 26, 3) := by decide +kernel
theorem dX9_goes_55 : decode cX9_goes 55 = .ok (.iload_n 1, 1) := by decide +kernel
theorem dX9_goes_56 : decode cX9_goes 56 = .ok (.iaload, 1) := by decide +kernel
theorem dX9_goes_57 : decode cX9_goes 57 = .ok (.invokevirtual 337, 3) := by decide +kernel
theorem dX9_goes_60 : decode cX9_goes 60 = .ok (.istore_n 2, 1) := by decide +kernel
theorem dX9_goes_61 : decode cX9_goes 61 = .ok (.aload_n 0, 1) := by decide +kernel
theorem dX9_goes_62 : decode cX9_goes 62 = .ok (.iload_n 1, 1) := by decide +kernel
theorem dX9_goes_63 : decode cX9_goes 63 = .ok (.iload_n 2, 1) := by decide +kernel
theorem dX9_goes_64 : decode cX9_goes 64 = .ok (.invokevirtual 318, 3) := by decide +kernel
theorem dX9_goes_67 : decode cX9_goes 67 = .ok (.ifCond .le 13, 3) := by decide +kernel
theorem dX9_goes_70 : decode cX9_goes 70 = .ok (.aload_n 0, 1) := by decide +kernel
theorem dX9_goes_71 : decode cX9_goes 71 = .ok (.getfield 26, 3) := by decide +kernel
theorem dX9_goes_74 : decode cX9_goes 74 = .ok (.iload_n 1, 1) := by decide +kernel
theorem dX9_goes_75 : decode cX9_goes 75 = .ok (.iload_n 2, 1) := by decide +kernel
theorem dX9_goes_76 : decode cX9_goes 76 = .ok (.iastore, 1) := by decide +kernel
theorem dX9_goes_77 : decode cX9_goes 77 = .ok (.goto 37, 3) := by decide +kernel
theorem dX9_goes_80 : decode cX9_goes 80 = .ok (.aload_n 0, 1) := by decide +kernel
theorem dX9_goes_81 : decode cX9_goes 81 = .ok (.getfield 32, 3) := by decide +kernel
theorem dX9_goes_84 : decode cX9_goes 84 = .ok (.iload_n 1, 1) := by decide +kernel
theorem dX9_goes_85 : decode cX9_goes 85 = .ok (.dup2, 1) := by decide +kernel
theorem dX9_goes_86 : decode cX9_goes 86 = .ok (.iaload, 1) := by decide +kernel
theorem dX9_goes_87 : decode cX9_goes 87 = .ok (.iconst 1, 1) := by decide +kernel
theorem dX9_goes_88 : decode cX9_goes 88 = .ok (.iload_n 2, 1) := by decide +kernel
theorem dX9_goes_89 : decode cX9_goes 89 = .ok (.ishl, 1) := by decide +kernel
theorem dX9_goes_90 : decode cX9_goes 90 = .ok (.ior, 1) := by decide +kernel
theorem dX9_goes_91 : decode cX9_goes 91 = .ok (.iastore, 1) := by decide +kernel
theorem dX9_goes_92 : decode cX9_goes 92 = .ok (.aload_n 0, 1) := by decide +kernel
theorem dX9_goes_93 : decode cX9_goes 93 = .ok (.getfield 35, 3) := by decide +kernel
theorem dX9_goes_96 : decode cX9_goes 96 = .ok (.iload_n 1, 1) := by decide +kernel
theorem dX9_goes_97 : decode cX9_goes 97 = .ok (.aload_n 0, 1) := by decide +kernel
theorem dX9_goes_98 : decode cX9_goes 98 = .ok (.aload_n 0, 1) := by decide +kernel
theorem dX9_goes_99 : decode cX9_goes 99 = .ok (.getfield 35, 3) := by decide +kernel
theorem dX9_goes_102 : decode cX9_goes 102 = .ok (.iload_n 1, 1) := by decide +kernel
theorem dX9_goes_103 : decode cX9_goes 103 = .ok (.iaload, 1) := by decide +kernel
theorem dX9_goes_104 : decode cX9_goes 104 = .ok (.iconst 1, 1) := by decide +kernel
theorem dX9_goes_105 : decode cX9_goes 105 = .ok (.iadd, 1) := by decide +kernel
theorem dX9_goes_106 : decode cX9_goes 106 = .ok (.aload_n 0, 1) := by decide +kernel
theorem dX9_goes_107 : decode cX9_goes 107 = .ok (.getfield 99, 3) := by decide +kernel
theorem dX9_goes_110 : decode cX9_goes 110 = .ok (.invokevirtual 324, 3) := by decide +kernel
theorem dX9_goes_113 : decode cX9_goes 113 = .ok (.iastore, 1) := by decide +kernel
theorem dX9_goes_114 : decode cX9_goes 114 = .ok (.return_, 1) := by decide +kernel
theorem dX9_goHour_0 : decode cX9_goHour 0 = .ok (.iconst 0, 1) := by decide +kernel
theorem dX9_goHour_1 : decode cX9_goHour 1 = .ok (.istore_n 1, 1) := by decide +kernel
theorem dX9_goHour_2 : decode cX9_goHour 2 = .ok (.iload_n 1, 1) := by decide +kernel
theorem dX9_goHour_3 : decode cX9_goHour 3 = .ok (.aload_n 0, 1) := by decide +kernel
theorem dX9_goHour_4 : decode cX9_goHour 4 = .ok (.getfield 7, 3) := by decide +kernel
theorem dX9_goHour_7 : decode cX9_goHour 7 = .ok (.if_icmp .ge 14, 3) := by decide +kernel
theorem dX9_goHour_10 : decode cX9_goHour 10 = .ok (.aload_n 0, 1) := by decide +kernel
theorem dX9_goHour_11 : decode cX9_goHour 11 = .ok (.iload_n 1, 1) := by decide +kernel
theorem dX9_goHour_12 : decode cX9_goHour 12 = .ok (.invokevirtual 343, 3) := by decide +kernel
theorem dX9_goHour_15 : decode cX9_goHour 15 = .ok (.iinc 1 1, 3) := by decide +kernel
theorem dX9_goHour_18 : decode cX9_goHour 18 = .ok (.goto (-16), 3) := by decide +kernel
theorem dX9_goHour_21 : decode cX9_goHour 21 = .ok (.aload_n 0, 1) := by decide +kernel
theorem dX9_goHour_22 : decode cX9_goHour 22 = .ok (.invokevirtual 346, 3) := by decide +kernel
theorem dX9_goHour_25 : decode cX9_goHour 25 = .ok (.ifCond .le 48, 3) := by decide +kernel
theorem dX9_goHour_28 : decode cX9_goHour 28 = .ok (.aload_n 0, 1) := by decide +kernel
theorem dX9_goHour_29 : decode cX9_goHour 29 = .ok (.getfield 13, 3) := by decide +kernel
theorem dX9_goHour_32 : decode cX9_goHour 32 = .ok (.aload_n 0, 1) := by decide +kernel
theorem dX9_goHour_33 : decode cX9_goHour 33 = .ok (.invokevirtual 346, 3) := by decide +kernel
theorem dX9_goHour_36 : decode cX9_goHour 36 = .ok (.irem, 1) := by decide +kernel
theorem dX9_goHour_37 : decode cX9_goHour 37 = .ok (.ifCond .ne 36, 3) := by decide +kernel
theorem dX9_goHour_40 : decode cX9_goHour 40 = .ok (.iconst 0, 1) := by decide +kernel
theorem dX9_goHour_41 : decode cX9_goHour 41 = .ok (.istore_n 1, 1) := by decide +kernel
theorem dX9_goHour_42 : decode cX9_goHour 42 = .ok (.iload_n 1, 1) := by decide +kernel
theorem dX9_goHour_43 : decode cX9_goHour 43 = .ok (.aload_n 0, 1) := by decide +kernel
theorem dX9_goHour_44 : decode cX9_goHour 44 = .ok (.getfield 7, 3) := by decide +kernel
theorem dX9_goHour_47 : decode cX9_goHour 47 = .ok (.if_icmp .ge 26, 3) := by decide +kernel
theorem dX9_goHour_50 : decode cX9_goHour 50 = .ok (.aload_n 0, 1) := by decide +kernel
theorem dX9_goHour_51 : decode cX9_goHour 51 = .ok (.getfield 32, 3) := by decide +kernel
theorem dX9_goHour_54 : decode cX9_goHour 54 = .ok (.iload_n 1, 1) := by decide +kernel
theorem dX9_goHour_55 : decode cX9_goHour 55 = .ok (.dup2, 1) := by decide +kernel
theorem dX9_goHour_56 : decode cX9_goHour 56 = .ok (.iaload, 1) := by decide +kernel
theorem dX9_goHour_57 : decode cX9_goHour 57 = .ok (.aload_n 0, 1) := by decide +kernel
theorem dX9_goHour_58 : decode cX9_goHour 58 = .ok (.getfield 32, 3) := by decide +kernel
theorem dX9_goHour_61 : decode cX9_goHour 61 = .ok (.iload_n 1, 1) := by decide +kernel
theorem dX9_goHour_62 : decode cX9_goHour 62 = .ok (.iaload, 1) := by decide +kernel
theorem dX9_goHour_63 : decode cX9_goHour 63 = .ok (.iconst 1, 1) := by decide +kernel
theorem dX9_goHour_64 : decode cX9_goHour 64 = .ok (.isub, 1) := by decide +kernel
theorem dX9_goHour_65 : decode cX9_goHour 65 = .ok (.iand, 1) := by decide +kernel
theorem dX9_goHour_66 : decode cX9_goHour 66 = .ok (.iastore, 1) := by decide +kernel
theorem dX9_goHour_67 : decode cX9_goHour 67 = .ok (.iinc 1 1, 3) := by decide +kernel
theorem dX9_goHour_70 : decode cX9_goHour 70 = .ok (.goto (-28), 3) := by decide +kernel
theorem dX9_goHour_73 : decode cX9_goHour 73 = .ok (.aload_n 0, 1) := by decide +kernel
theorem dX9_goHour_74 : decode cX9_goHour 74 = .ok (.dup, 1) := by decide +kernel
theorem dX9_goHour_75 : decode cX9_goHour 75 = .ok (.getfield 13, 3) := by decide +kernel
theorem dX9_goHour_78 : decode cX9_goHour 78 = .ok (.iconst 1, 1) := by decide +kernel
theorem dX9_goHour_79 : decode cX9_goHour 79 = .ok (.iadd, 1) := by decide +kernel
theorem dX9_goHour_80 : decode cX9_goHour 80 = .ok (.putfield 13, 3) := by decide +kernel
theorem dX9_goHour_83 : decode cX9_goHour 83 = .ok (.return_, 1) := by decide +kernel
theorem dX9_goHours_0 : decode cX9_goHours 0 = .ok (.iconst 0, 1) := by decide +kernel
theorem dX9_goHours_1 : decode cX9_goHours 1 = .ok (.istore_n 2, 1) := by decide +kernel
theorem dX9_goHours_2 : decode cX9_goHours 2 = .ok (.iload_n 2, 1) := by decide +kernel
theorem dX9_goHours_3 : decode cX9_goHours 3 = .ok (.iload_n 1, 1) := by decide +kernel
theorem dX9_goHours_4 : decode cX9_goHours 4 = .ok (.if_icmp .ge 13, 3) := by decide +kernel
theorem dX9_goHours_7 : decode cX9_goHours 7 = .ok (.aload_n 0, 1) := by decide +kernel
theorem dX9_goHours_8 : decode cX9_goHours 8 = .ok (.invokevirtual 349, 3) := by decide +kernel
theorem dX9_goHours_11 : decode cX9_goHours 11 = .ok (.iinc 2 1, 3) := by decide +kernel
theorem dX9_goHours_14 : decode cX9_goHours 14 = .ok (.goto (-12), 3) := by decide +kernel
theorem dX9_goHours_17 : decode cX9_goHours 17 = .ok (.return_, 1) := by decide +kernel
theorem dX9_pass_0 : decode cX9_pass 0 = .ok (.aload_n 0, 1) := by decide +kernel
theorem dX9_pass_1 : decode cX9_pass 1 = .ok (.iload_n 1, 1) := by decide +kernel
theorem dX9_pass_2 : decode cX9_pass 2 = .ok (.invokevirtual 352, 3) := by decide +kernel
theorem dX9_pass_5 : decode cX9_pass 5 = .ok (.ifCond .ne 6, 3) := by decide +kernel
theorem dX9_pass_8 : decode cX9_pass 8 = .ok (.bipush (-2), 2) := by decide +kernel
theorem dX9_pass_10 : decode cX9_pass 10 = .ok (.ireturn, 1) := by decide +kernel
theorem dX9_pass_11 : decode cX9_pass 11 = .ok (.aload_n 0, 1) := by decide +kernel
theorem dX9_pass_12 : decode cX9_pass 12 = .ok (.getfield 13, 3) := by decide +kernel
theorem dX9_pass_15 : decode cX9_pass 15 = .ok (.iload_n 1, 1) := by decide +kernel
theorem dX9_pass_16 : decode cX9_pass 16 = .ok (.iadd, 1) := by decide +kernel
theorem dX9_pass_17 : decode cX9_pass 17 = .ok (.sipush 9999, 3) := by decide +kernel
theorem dX9_pass_20 : decode cX9_pass 20 = .ok (.if_icmp .le 6, 3) := by decide +kernel
theorem dX9_pass_23 : decode cX9_pass 23 = .ok (.bipush (-3), 2) := by decide +kernel
theorem dX9_pass_25 : decode cX9_pass 25 = .ok (.ireturn, 1) := by decide +kernel
theorem dX9_pass_26 : decode cX9_pass 26 = .ok (.aload_n 0, 1) := by decide +kernel
theorem dX9_pass_27 : decode cX9_pass 27 = .ok (.iload_n 1, 1) := by decide +kernel
theorem dX9_pass_28 : decode cX9_pass 28 = .ok (.invokevirtual 355, 3) := by decide +kernel
theorem dX9_pass_31 : decode cX9_pass 31 = .ok (.aload_n 0, 1) := by decide +kernel
theorem dX9_pass_32 : decode cX9_pass 32 = .ok (.getfield 13, 3) := by decide +kernel
theorem dX9_pass_35 : decode cX9_pass 35 = .ok (.ireturn, 1) := by decide +kernel
theorem dX9_save_0 : decode cX9_save 0 = .ok (.aload_n 0, 1) := by decide +kernel
theorem dX9_save_1 : decode cX9_save 1 = .ok (.ldc_w 358, 3) := by decide +kernel
theorem dX9_save_4 : decode cX9_save 4 = .ok (.putfield 99, 3) := by decide +kernel
theorem dX9_save_7 : decode cX9_save 7 = .ok (.aload_n 0, 1) := by decide +kernel
theorem dX9_save_8 : decode cX9_save 8 = .ok (.aload_n 0, 1) := by decide +kernel
theorem dX9_save_9 : decode cX9_save 9 = .ok (.getfield 13, 3) := by decide +kernel
theorem dX9_save_12 : decode cX9_save 12 = .ok (.putfield 102, 3) := by decide +kernel
theorem dX9_save_15 : decode cX9_save 15 = .ok (.iconst 0, 1) := by decide +kernel
theorem dX9_save_16 : decode cX9_save 16 = .ok (.istore_n 1, 1) := by decide +kernel
theorem dX9_save_17 : decode cX9_save 17 = .ok (.iload_n 1, 1) := by decide +kernel
theorem dX9_save_18 : decode cX9_save 18 = .ok (.bipush 6, 2) := by decide +kernel
theorem dX9_save_20 : decode cX9_save 20 = .ok (.if_icmp .ge 57, 3) := by decide +kernel
theorem dX9_save_23 : decode cX9_save 23 = .ok (.aload_n 0, 1) := by decide +kernel
theorem dX9_save_24 : decode cX9_save 24 = .ok (.getfield 105, 3) := by decide +kernel
theorem dX9_save_27 : decode cX9_save 27 = .ok (.iload_n 1, 1) := by decide +kernel
theorem dX9_save_28 : decode cX9_save 28 = .ok (.aload_n 0, 1) := by decide +kernel
theorem dX9_save_29 : decode cX9_save 29 = .ok (.getfield 26, 3) := by decide +kernel
theorem dX9_save_32 : decode cX9_save 32 = .ok (.iload_n 1, 1) := by decide +kernel
theorem dX9_save_33 : decode cX9_save 33 = .ok (.iaload, 1) := by decide +kernel
theorem dX9_save_34 : decode cX9_save 34 = .ok (.iastore, 1) := by decide +kernel
theorem dX9_save_35 : decode cX9_save 35 = .ok (.aload_n 0, 1) := by decide +kernel
theorem dX9_save_36 : decode cX9_save 36 = .ok (.getfield 108, 3) := by decide +kernel
theorem dX9_save_39 : decode cX9_save 39 = .ok (.iload_n 1, 1) := by decide +kernel
theorem dX9_save_40 : decode cX9_save 40 = .ok (.aload_n 0, 1) := by decide +kernel
theorem dX9_save_41 : decode cX9_save 41 = .ok (.getfield 29, 3) := by decide +kernel
theorem dX9_save_44 : decode cX9_save 44 = .ok (.iload_n 1, 1) := by decide +kernel
theorem dX9_save_45 : decode cX9_save 45 = .ok (.iaload, 1) := by decide +kernel
theorem dX9_save_46 : decode cX9_save 46 = .ok (.iastore, 1) := by decide +kernel
theorem dX9_save_47 : decode cX9_save 47 = .ok (.aload_n 0, 1) := by decide +kernel
theorem dX9_save_48 : decode cX9_save 48 = .ok (.getfield 111, 3) := by decide +kernel
theorem dX9_save_51 : decode cX9_save 51 = .ok (.iload_n 1, 1) := by decide +kernel
theorem dX9_save_52 : decode cX9_save 52 = .ok (.aload_n 0, 1) := by decide +kernel
theorem dX9_save_53 : decode cX9_save 53 = .ok (.getfield 32, 3) := by decide +kernel
theorem dX9_save_56 : decode cX9_save 56 = .ok (.iload_n 1, 1) := by decide +kernel
theorem dX9_save_57 : decode cX9_save 57 = .ok (.iaload, 1) := by decide +kernel
theorem dX9_save_58 : decode cX9_save 58 = .ok (.iastore, 1) := by decide +kernel
theorem dX9_save_59 : decode cX9_save 59 = .ok (.aload_n 0, 1) := by decide +kernel
theorem dX9_save_60 : decode cX9_save 60 = .ok (.getfield 114, 3) := by decide +kernel
theorem dX9_save_63 : decode cX9_save 63 = .ok (.iload_n 1, 1) := by decide +kernel
theorem dX9_save_64 : decode cX9_save 64 = .ok (.aload_n 0, 1) := by decide +kernel
theorem dX9_save_65 : decode cX9_save 65 = .ok (.getfield 35, 3) := by decide +kernel
theorem dX9_save_68 : decode cX9_save 68 = .ok (.iload_n 1, 1) := by decide +kernel
theorem dX9_save_69 : decode cX9_save 69 = .ok (.iaload, 1) := by decide +kernel
theorem dX9_save_70 : decode cX9_save 70 = .ok (.iastore, 1) := by decide +kernel
theorem dX9_save_71 : decode cX9_save 71 = .ok (.iinc 1 1, 3) := by decide +kernel
theorem dX9_save_74 : decode cX9_save 74 = .ok (.goto (-57), 3) := by decide +kernel
theorem dX9_save_77 : decode cX9_save 77 = .ok (.return_, 1) := by decide +kernel
theorem dX9_putBack_0 : decode cX9_putBack 0 = .ok (.aload_n 0, 1) := by decide +kernel
theorem dX9_putBack_1 : decode cX9_putBack 1 = .ok (.sipush 9999, 3) := by decide +kernel
theorem dX9_putBack_4 : decode cX9_putBack 4 = .ok (.putfield 99, 3) := by decide +kernel
theorem dX9_putBack_7 : decode cX9_putBack 7 = .ok (.aload_n 0, 1) := by decide +kernel
theorem dX9_putBack_8 : decode cX9_putBack 8 = .ok (.aload_n 0, 1) := by decide +kernel
theorem dX9_putBack_9 : decode cX9_putBack 9 = .ok (.getfield 102, 3) := by decide +kernel
theorem dX9_putBack_12 : decode cX9_putBack 12 = .ok (.putfield 13, 3) := by decide +kernel
theorem dX9_putBack_15 : decode cX9_putBack 15 = .ok (.iconst 0, 1) := by decide +kernel
theorem dX9_putBack_16 : decode cX9_putBack 16 = .ok (.istore_n 1, 1) := by decide +kernel
theorem dX9_putBack_17 : decode cX9_putBack 17 = .ok (.iload_n 1, 1) := by decide +kernel
theorem dX9_putBack_18 : decode cX9_putBack 18 = .ok (.bipush 6, 2) := by decide +kernel
theorem dX9_putBack_20 : decode cX9_putBack 20 = .ok (.if_icmp .ge 57, 3) := by decide +kernel
theorem dX9_putBack_23 : decode cX9_putBack 23 = .ok (.aload_n 0, 1) := by decide +kernel
theorem dX9_putBack_24 : decode cX9_putBack 24 = .ok (.getfield 26, 3) := by decide +kernel
theorem dX9_putBack_27 : decode cX9_putBack 27 = .ok (.iload_n 1, 1) := by decide +kernel
theorem dX9_putBack_28 : decode cX9_putBack 28 = .ok (.aload_n 0, 1) := by decide +kernel
theorem dX9_putBack_29 : decode cX9_putBack 29 = .ok (.getfield 105, 3) := by decide +kernel
theorem dX9_putBack_32 : decode cX9_putBack 32 = .ok (.iload_n 1, 1) := by decide +kernel
theorem dX9_putBack_33 : decode cX9_putBack 33 = .ok (.iaload, 1) := by decide +kernel
theorem dX9_putBack_34 : decode cX9_putBack 34 = .ok (.iastore, 1) := by decide +kernel
theorem dX9_putBack_35 : decode cX9_putBack 35 = .ok (.aload_n 0, 1) := by decide +kernel
theorem dX9_putBack_36 : decode cX9_putBack 36 = .ok (.getfield 29, 3) := by decide +kernel
theorem dX9_putBack_39 : decode cX9_putBack 39 = .ok (.iload_n 1, 1) := by decide +kernel
theorem dX9_putBack_40 : decode cX9_putBack 40 = .ok (.aload_n 0, 1) := by decide +kernel
theorem dX9_putBack_41 : decode cX9_putBack 41 = .ok (.getfield 108, 3) := by decide +kernel
theorem dX9_putBack_44 : decode cX9_putBack 44 = .ok (.iload_n 1, 1) := by decide +kernel
theorem dX9_putBack_45 : decode cX9_putBack 45 = .ok (.iaload, 1) := by decide +kernel
theorem dX9_putBack_46 : decode cX9_putBack 46 = .ok (.iastore, 1) := by decide +kernel
theorem dX9_putBack_47 : decode cX9_putBack 47 = .ok (.aload_n 0, 1) := by decide +kernel
theorem dX9_putBack_48 : decode cX9_putBack 48 = .ok (.getfield 32, 3) := by decide +kernel
theorem dX9_putBack_51 : decode cX9_putBack 51 = .ok (.iload_n 1, 1) := by decide +kernel
theorem dX9_putBack_52 : decode cX9_putBack 52 = .ok (.aload_n 0, 1) := by decide +kernel
theorem dX9_putBack_53 : decode cX9_putBack 53 = .ok (.getfield 111, 3) := by decide +kernel
theorem dX9_putBack_56 : decode cX9_putBack 56 = .ok (.iload_n 1, 1) := by decide +kernel
theorem dX9_putBack_57 : decode cX9_putBack 57 = .ok (.iaload, 1) := by decide +kernel
theorem dX9_putBack_58 : decode cX9_putBack 58 = .ok (.iastore, 1) := by decide +kernel
theorem dX9_putBack_59 : decode cX9_putBack 59 = .ok (.aload_n 0, 1) := by decide +kernel
theorem dX9_putBack_60 : decode cX9_putBack 60 = .ok (.getfield 35, 3) := by decide +kernel
theorem dX9_putBack_63 : decode cX9_putBack 63 = .ok (.iload_n 1, 1) := by decide +kernel
theorem dX9_putBack_64 : decode cX9_putBack 64 = .ok (.aload_n 0, 1) := by decide +kernel
theorem dX9_putBack_65 : decode cX9_putBack 65 = .ok (.getfield 114, 3) := by decide +kernel
theorem dX9_putBack_68 : decode cX9_putBack 68 = .ok (.iload_n 1, 1) := by decide +kernel
theorem dX9_putBack_69 : decode cX9_putBack 69 = .ok (.iaload, 1) := by decide +kernel
theorem dX9_putBack_70 : decode cX9_putBack 70 = .ok (.iastore, 1) := by decide +kernel
theorem dX9_putBack_71 : decode cX9_putBack 71 = .ok (.iinc 1 1, 3) := by decide +kernel
theorem dX9_putBack_74 : decode cX9_putBack 74 = .ok (.goto (-57), 3) := by decide +kernel
theorem dX9_putBack_77 : decode cX9_putBack 77 = .ok (.return_, 1) := by decide +kernel
theorem dX9_arrives_0 : decode cX9_arrives 0 = .ok (.aload_n 0, 1) := by decide +kernel
theorem dX9_arrives_1 : decode cX9_arrives 1 = .ok (.getfield 29, 3) := by decide +kernel
theorem dX9_arrives_4 : decode cX9_arrives 4 = .ok (.iload_n 1, 1) := by decide +kernel
theorem dX9_arrives_5 : decode cX9_arrives 5 = .ok (.iaload, 1) := by decide +kernel
theorem dX9_arrives_6 : decode cX9_arrives 6 = .ok (.ifCond .ge 6, 3) := by decide +kernel
theorem dX9_arrives_9 : decode cX9_arrives 9 = .ok (.bipush 41, 2) := by decide +kernel
theorem dX9_arrives_11 : decode cX9_arrives 11 = .ok (.ireturn, 1) := by decide +kernel
theorem dX9_arrives_12 : decode cX9_arrives 12 = .ok (.aload_n 0, 1) := by decide +kernel
theorem dX9_arrives_13 : decode cX9_arrives 13 = .ok (.invokevirtual 359, 3) := by decide +kernel
theorem dX9_arrives_16 : decode cX9_arrives 16 = .ok (.iconst 0, 1) := by decide +kernel
theorem dX9_arrives_17 : decode cX9_arrives 17 = .ok (.istore_n 2, 1) := by decide +kernel
theorem dX9_arrives_18 : decode cX9_arrives 18 = .ok (.iload_n 2, 1) := by decide +kernel
theorem dX9_arrives_19 : decode cX9_arrives 19 = .ok (.bipush 41, 2) := by decide +kernel
theorem dX9_arrives_21 : decode cX9_arrives 21 = .ok (.if_icmp .ge 28, 3) := by decide +kernel
theorem dX9_arrives_24 : decode cX9_arrives 24 = .ok (.aload_n 0, 1) := by decide +kernel
theorem dX9_arrives_25 : decode cX9_arrives 25 = .ok (.getfield 26, 3) := by decide +kernel
theorem dX9_arrives_28 : decode cX9_arrives 28 = .ok (.iload_n 1, 1) := by decide +kernel
theorem dX9_arrives_29 : decode cX9_arrives 29 = .ok (.iaload, 1) := by decide +kernel
theorem dX9_arrives_30 : decode cX9_arrives 30 = .ok (.aload_n 0, 1) := by decide +kernel
theorem dX9_arrives_31 : decode cX9_arrives 31 = .ok (.getfield 29, 3) := by decide +kernel
theorem dX9_arrives_34 : decode cX9_arrives 34 = .ok (.iload_n 1, 1) := by decide +kernel
theorem dX9_arrives_35 : decode cX9_arrives 35 = .ok (.iaload, 1) := by decide +kernel
theorem dX9_arrives_36 : decode cX9_arrives 36 = .ok (.if_icmp .eq 13, 3) := by decide +kernel
theorem dX9_arrives_39 : decode cX9_arrives 39 = .ok (.aload_n 0, 1) := by decide +kernel
theorem dX9_arrives_40 : decode cX9_arrives 40 = .ok (.invokevirtual 349, 3) := by decide +kernel
theorem dX9_arrives_43 : decode cX9_arrives 43 = .ok (.iinc 2 1, 3) := by decide +kernel
theorem dX9_arrives_46 : decode cX9_arrives 46 = .ok (.goto (-28), 3) := by decide +kernel
theorem dX9_arrives_49 : decode cX9_arrives 49 = .ok (.aload_n 0, 1) := by decide +kernel
theorem dX9_arrives_50 : decode cX9_arrives 50 = .ok (.invokevirtual 362, 3) := by decide +kernel
theorem dX9_arrives_53 : decode cX9_arrives 53 = .ok (.iload_n 2, 1) := by decide +kernel
theorem dX9_arrives_54 : decode cX9_arrives 54 = .ok (.ireturn, 1) := by decide +kernel
theorem dX9_there_0 : decode cX9_there 0 = .ok (.aload_n 0, 1) := by decide +kernel
theorem dX9_there_1 : decode cX9_there 1 = .ok (.iload_n 1, 1) := by decide +kernel
theorem dX9_there_2 : decode cX9_there 2 = .ok (.invokevirtual 365, 3) := by decide +kernel
theorem dX9_there_5 : decode cX9_there 5 = .ok (.istore_n 2, 1) := by decide +kernel
theorem dX9_there_6 : decode cX9_there 6 = .ok (.iload_n 2, 1) := by decide +kernel
theorem dX9_there_7 : decode cX9_there 7 = .ok (.bipush 41, 2) := by decide +kernel
theorem dX9_there_9 : decode cX9_there 9 = .ok (.if_icmp .ge 7, 3) := by decide +kernel
theorem dX9_there_12 : decode cX9_there 12 = .ok (.iload_n 2, 1) := by decide +kernel
theorem dX9_there_13 : decode cX9_there 13 = .ok (.goto 5, 3) := by decide +kernel
theorem dX9_there_16 : decode cX9_there 16 = .ok (.bipush (-5), 2) := by decide +kernel
theorem dX9_there_18 : decode cX9_there 18 = .ok (.ireturn, 1) := by decide +kernel
theorem dX9_arrivesBy_0 : decode cX9_arrivesBy 0 = .ok (.aload_n 0, 1) := by decide +kernel
theorem dX9_arrivesBy_1 : decode cX9_arrivesBy 1 = .ok (.getfield 16, 3) := by decide +kernel
theorem dX9_arrivesBy_4 : decode cX9_arrivesBy 4 = .ok (.iload_n 2, 1) := by decide +kernel
theorem dX9_arrivesBy_5 : decode cX9_arrivesBy 5 = .ok (.iaload, 1) := by decide +kernel
theorem dX9_arrivesBy_6 : decode cX9_arrivesBy 6 = .ok (.istore_n 3, 1) := by decide +kernel
theorem dX9_arrivesBy_7 : decode cX9_arrivesBy 7 = .ok (.aload_n 0, 1) := by decide +kernel
theorem dX9_arrivesBy_8 : decode cX9_arrivesBy 8 = .ok (.getfield 16, 3) := by decide +kernel
theorem dX9_arrivesBy_11 : decode cX9_arrivesBy 11 = .ok (.iload_n 2, 1) := by decide +kernel
theorem dX9_arrivesBy_12 : decode cX9_arrivesBy 12 = .ok (.bipush 9, 2) := by decide +kernel
theorem dX9_arrivesBy_14 : decode cX9_arrivesBy 14 = .ok (.iastore, 1) := by decide +kernel
theorem dX9_arrivesBy_15 : decode cX9_arrivesBy 15 = .ok (.aload_n 0, 1) := by decide +kernel
theorem dX9_arrivesBy_16 : decode cX9_arrivesBy 16 = .ok (.iload_n 1, 1) := by decide +kernel
theorem dX9_arrivesBy_17 : decode cX9_arrivesBy 17 = .ok (.invokevirtual 365, 3) := by decide +kernel
theorem dX9_arrivesBy_20 : decode cX9_arrivesBy 20 = .ok (.istore 4, 2) := by decide +kernel
theorem dX9_arrivesBy_22 : decode cX9_arrivesBy 22 = .ok (.aload_n 0, 1) := by decide +kernel
theorem dX9_arrivesBy_23 : decode cX9_arrivesBy 23 = .ok (.getfield 16, 3) := by decide +kernel
theorem dX9_arrivesBy_26 : decode cX9_arrivesBy 26 = .ok (.iload_n 2, 1) := by decide +kernel
theorem dX9_arrivesBy_27 : decode cX9_arrivesBy 27 = .ok (.iload_n 3, 1) := by decide +kernel
theorem dX9_arrivesBy_28 : decode cX9_arrivesBy 28 = .ok (.iastore, 1) := by decide +kernel
theorem dX9_arrivesBy_29 : decode cX9_arrivesBy 29 = .ok (.iload 4, 2) := by decide +kernel
theorem dX9_arrivesBy_31 : decode cX9_arrivesBy 31 = .ok (.ireturn, 1) := by decide +kernel
theorem dX9_key_0 : decode cX9_key 0 = .ok (.bipush (-5), 2) := by decide +kernel
theorem dX9_key_2 : decode cX9_key 2 = .ok (.istore_n 2, 1) := by decide +kernel
theorem dX9_key_3 : decode cX9_key 3 = .ok (.aload_n 0, 1) := by decide +kernel
theorem dX9_key_4 : decode cX9_key 4 = .ok (.iload_n 1, 1) := by decide +kernel
theorem dX9_key_5 : decode cX9_key 5 = .ok (.invokevirtual 365, 3) := by decide +kernel
theorem dX9_key_8 : decode cX9_key 8 = .ok (.istore_n 3, 1) := by decide +kernel
theorem dX9_key_9 : decode cX9_key 9 = .ok (.iconst 0, 1) := by decide +kernel
theorem dX9_key_10 : decode cX9_key 10 = .ok (.istore 4, 2) := by decide +kernel
theorem dX9_key_12 : decode cX9_key 12 = .ok (.iload 4, 2) := by decide +kernel
theorem dX9_key_14 : decode cX9_key 14 = .ok (.bipush 16, 2) := by decide +kernel
theorem dX9_key_16 : decode cX9_key 16 = .ok (.if_icmp .ge 33, 3) := by decide +kernel
theorem dX9_key_19 : decode cX9_key 19 = .ok (.aload_n 0, 1) := by decide +kernel
theorem dX9_key_20 : decode cX9_key 20 = .ok (.iload_n 1, 1) := by decide +kernel
theorem dX9_key_21 : decode cX9_key 21 = .ok (.iload 4, 2) := by decide +kernel
theorem dX9_key_23 : decode cX9_key 23 = .ok (.invokevirtual 368, 3) := by decide +kernel
theorem dX9_key_26 : decode cX9_key 26 = .ok (.istore 5, 2) := by decide +kernel
theorem dX9_key_28 : decode cX9_key 28 = .ok (.iload 5, 2) := by decide +kernel
theorem dX9_key_30 : decode cX9_key 30 = .ok (.iload_n 3, 1) := by decide +kernel
theorem dX9_key_31 : decode cX9_key 31 = .ok (.if_icmp .lt 6, 3) := by decide +kernel
theorem dX9_key_34 : decode cX9_key 34 = .ok (.goto 9, 3) := by decide +kernel
theorem dX9_key_37 : decode cX9_key 37 = .ok (.iload 4, 2) := by decide +kernel
theorem dX9_key_39 : decode cX9_key 39 = .ok (.istore_n 2, 1) := by decide +kernel
theorem dX9_key_40 : decode cX9_key 40 = .ok (.iload 5, 2) := by decide +kernel
theorem dX9_key_42 : decode cX9_key 42 = .ok (.istore_n 3, 1) := by decide +kernel
theorem dX9_key_43 : decode cX9_key 43 = .ok (.iinc 4 1, 3) := by decide +kernel
theorem dX9_key_46 : decode cX9_key 46 = .ok (.goto (-34), 3) := by decide +kernel
theorem dX9_key_49 : decode cX9_key 49 = .ok (.iload_n 2, 1) := by decide +kernel
theorem dX9_key_50 : decode cX9_key 50 = .ok (.ireturn, 1) := by decide +kernel
theorem dX9_leadsRight_0 : decode cX9_leadsRight 0 = .ok (.aload_n 0, 1) := by decide +kernel
theorem dX9_leadsRight_1 : decode cX9_leadsRight 1 = .ok (.iload_n 2, 1) := by decide +kernel
theorem dX9_leadsRight_2 : decode cX9_leadsRight 2 = .ok (.aload_n 0, 1) := by decide +kernel
theorem dX9_leadsRight_3 : decode cX9_leadsRight 3 = .ok (.getfield 26, 3) := by decide +kernel
theorem dX9_leadsRight_6 : decode cX9_leadsRight 6 = .ok (.iload_n 1, 1) := by decide +kernel
theorem dX9_leadsRight_7 : decode cX9_leadsRight 7 = .ok (.iaload, 1) := by decide +kernel
theorem dX9_leadsRight_8 : decode cX9_leadsRight 8 = .ok (.aload_n 0, 1) := by decide +kernel
theorem dX9_leadsRight_9 : decode cX9_leadsRight 9 = .ok (.getfield 29, 3) := by decide +kernel
theorem dX9_leadsRight_12 : decode cX9_leadsRight 12 = .ok (.iload_n 1, 1) := by decide +kernel
theorem dX9_leadsRight_13 : decode cX9_leadsRight 13 = .ok (.iaload, 1) := by decide +kernel
theorem dX9_leadsRight_14 : decode cX9_leadsRight 14 = .ok (.invokevirtual 334, 3) := by decide +kernel
theorem dX9_leadsRight_17 : decode cX9_leadsRight 17 = .ok (.istore 4, 2) := by decide +kernel
theorem dX9_leadsRight_19 : decode cX9_leadsRight 19 = .ok (.aload_n 0, 1) := by decide +kernel
theorem dX9_leadsRight_20 : decode cX9_leadsRight 20 = .ok (.getfield 26, 3) := by decide +kernel
theorem dX9_leadsRight_23 : decode cX9_leadsRight 23 = .ok (.iload_n 1, 1) := by decide +kernel
theorem dX9_leadsRight_24 : decode cX9_leadsRight 24 = .ok (.iaload, 1) := by decide +kernel
theorem dX9_leadsRight_25 : decode cX9_leadsRight 25 = .ok (.istore 5, 2) := by decide +kernel
theorem dX9_leadsRight_27 : decode cX9_leadsRight 27 = .ok (.iconst 0, 1) := by decide +kernel
theorem dX9_leadsRight_28 : decode cX9_leadsRight 28 = .ok (.istore 6, 2) := by decide +kernel
theorem dX9_leadsRight_30 : decode cX9_leadsRight 30 = .ok (.iload 6, 2) := by decide +kernel
theorem dX9_leadsRight_32 : decode cX9_leadsRight 32 = .ok (.iload 4, 2) := by decide +kernel
theorem dX9_leadsRight_34 : decode cX9_leadsRight 34 = .ok (.if_icmp .ge 29, 3) := by decide +kernel
theorem dX9_leadsRight_37 : decode cX9_leadsRight 37 = .ok (.aload_n 0, 1) := by decide +kernel
theorem dX9_leadsRight_38 : decode cX9_leadsRight 38 = .ok (.iload 5, 2) := by decide +kernel
theorem dX9_leadsRight_40 : decode cX9_leadsRight 40 = .ok (.invokevirtual 337, 3) := by decide +kernel
theorem dX9_leadsRight_43 : decode cX9_leadsRight 43 = .ok (.istore 5, 2) := by decide +kernel
theorem dX9_leadsRight_45 : decode cX9_leadsRight 45 = .ok (.aload_n 0, 1) := by decide +kernel
theorem dX9_leadsRight_46 : decode cX9_leadsRight 46 = .ok (.iload_n 3, 1) := by decide +kernel
theorem dX9_leadsRight_47 : decode cX9_leadsRight 47 = .ok (.iload 5, 2) := by decide +kernel
theorem dX9_leadsRight_49 : decode cX9_leadsRight 49 = .ok (.invokevirtual 233, 3) := by decide +kernel
theorem dX9_leadsRight_52 : decode cX9_leadsRight 52 = .ok (.ifCond .eq 5, 3) := by decide +kernel
theorem dX9_leadsRight_55 : decode cX9_leadsRight 55 = .ok (.iconst 0, 1) := by decide +kernel
theorem dX9_leadsRight_56 : decode cX9_leadsRight 56 = .ok (.ireturn, 1) := by decide +kernel
theorem dX9_leadsRight_57 : decode cX9_leadsRight 57 = .ok (.iinc 6 1, 3) := by decide +kernel
theorem dX9_leadsRight_60 : decode cX9_leadsRight 60 = .ok (.goto (-30), 3) := by decide +kernel
theorem dX9_leadsRight_63 : decode cX9_leadsRight 63 = .ok (.iload 4, 2) := by decide +kernel
theorem dX9_leadsRight_65 : decode cX9_leadsRight 65 = .ok (.ifCond .lt 7, 3) := by decide +kernel
theorem dX9_leadsRight_68 : decode cX9_leadsRight 68 = .ok (.iconst 1, 1) := by decide +kernel
theorem dX9_leadsRight_69 : decode cX9_leadsRight 69 = .ok (.goto 4, 3) := by decide +kernel
theorem dX9_leadsRight_72 : decode cX9_leadsRight 72 = .ok (.iconst 0, 1) := by decide +kernel
theorem dX9_leadsRight_73 : decode cX9_leadsRight 73 = .ok (.ireturn, 1) := by decide +kernel
theorem dX9_drawnBy_0 : decode cX9_drawnBy 0 = .ok (.aload_n 0, 1) := by decide +kernel
theorem dX9_drawnBy_1 : decode cX9_drawnBy 1 = .ok (.getfield 32, 3) := by decide +kernel
theorem dX9_drawnBy_4 : decode cX9_drawnBy 4 = .ok (.iload_n 1, 1) := by decide +kernel
theorem dX9_drawnBy_5 : decode cX9_drawnBy 5 = .ok (.iaload, 1) := by decide +kernel
theorem dX9_drawnBy_6 : decode cX9_drawnBy 6 = .ok (.istore_n 3, 1) := by decide +kernel
theorem dX9_drawnBy_7 : decode cX9_drawnBy 7 = .ok (.iconst 0, 1) := by decide +kernel
theorem dX9_drawnBy_8 : decode cX9_drawnBy 8 = .ok (.istore 4, 2) := by decide +kernel
theorem dX9_drawnBy_10 : decode cX9_drawnBy 10 = .ok (.iload 4, 2) := by decide +kernel
theorem dX9_drawnBy_12 : decode cX9_drawnBy 12 = .ok (.aload_n 0, 1) := by decide +kernel
theorem dX9_drawnBy_13 : decode cX9_drawnBy 13 = .ok (.getfield 7, 3) := by decide +kernel
theorem dX9_drawnBy_16 : decode cX9_drawnBy 16 = .ok (.if_icmp .ge 33, 3) := by decide +kernel
theorem dX9_drawnBy_19 : decode cX9_drawnBy 19 = .ok (.iload_n 3, 1) := by decide +kernel
theorem dX9_drawnBy_20 : decode cX9_drawnBy 20 = .ok (.aload_n 0, 1) := by decide +kernel
theorem dX9_drawnBy_21 : decode cX9_drawnBy 21 = .ok (.iload_n 2, 1) := by decide +kernel
theorem dX9_drawnBy_22 : decode cX9_drawnBy 22 = .ok (.iload 4, 2) := by decide +kernel
theorem dX9_drawnBy_24 : decode cX9_drawnBy 24 = .ok (.invokevirtual 233, 3) := by decide +kernel
theorem dX9_drawnBy_27 : decode cX9_drawnBy 27 = .ok (.ifCond .eq 13, 3) := by decide +kernel
theorem dX9_drawnBy_30 : decode cX9_drawnBy 30 = .ok (.aload_n 0, 1) := by decide +kernel
theorem dX9_drawnBy_31 : decode cX9_drawnBy 31 = .ok (.getfield 32, 3) := by decide +kernel
theorem dX9_drawnBy_34 : decode cX9_drawnBy 34 = .ok (.iload 4, 2) := by decide +kernel
theorem dX9_drawnBy_36 : decode cX9_drawnBy 36 = .ok (.iaload, 1) := by decide +kernel
theorem dX9_drawnBy_37 : decode cX9_drawnBy 37 = .ok (.goto 4, 3) := by decide +kernel
theorem dX9_drawnBy_40 : decode cX9_drawnBy 40 = .ok (.iconst 0, 1) := by decide +kernel
theorem dX9_drawnBy_41 : decode cX9_drawnBy 41 = .ok (.ior, 1) := by decide +kernel
theorem dX9_drawnBy_42 : decode cX9_drawnBy 42 = .ok (.istore_n 3, 1) := by decide +kernel
theorem dX9_drawnBy_43 : decode cX9_drawnBy 43 = .ok (.iinc 4 1, 3) := by decide +kernel
theorem dX9_drawnBy_46 : decode cX9_drawnBy 46 = .ok (.goto (-36), 3) := by decide +kernel
theorem dX9_drawnBy_49 : decode cX9_drawnBy 49 = .ok (.iload_n 3, 1) := by decide +kernel
theorem dX9_drawnBy_50 : decode cX9_drawnBy 50 = .ok (.ireturn, 1) := by decide +kernel
theorem dX9_lent_0 : decode cX9_lent 0 = .ok (.aload_n 0, 1) := by decide +kernel
theorem dX9_lent_1 : decode cX9_lent 1 = .ok (.getfield 29, 3) := by decide +kernel
theorem dX9_lent_4 : decode cX9_lent 4 = .ok (.iload_n 1, 1) := by decide +kernel
theorem dX9_lent_5 : decode cX9_lent 5 = .ok (.iaload, 1) := by decide +kernel
theorem dX9_lent_6 : decode cX9_lent 6 = .ok (.ifCond .ge 6, 3) := by decide +kernel
theorem dX9_lent_9 : decode cX9_lent 9 = .ok (.bipush (-5), 2) := by decide +kernel
theorem dX9_lent_11 : decode cX9_lent 11 = .ok (.ireturn, 1) := by decide +kernel
theorem dX9_lent_12 : decode cX9_lent 12 = .ok (.aload_n 0, 1) := by decide +kernel
theorem dX9_lent_13 : decode cX9_lent 13 = .ok (.iload_n 1, 1) := by decide +kernel
theorem dX9_lent_14 : decode cX9_lent 14 = .ok (.invokevirtual 340, 3) := by decide +kernel
theorem dX9_lent_17 : decode cX9_lent 17 = .ok (.istore_n 2, 1) := by decide +kernel
theorem dX9_lent_18 : decode cX9_lent 18 = .ok (.bipush (-5), 2) := by decide +kernel
theorem dX9_lent_20 : decode cX9_lent 20 = .ok (.istore_n 3, 1) := by decide +kernel
theorem dX9_lent_21 : decode cX9_lent 21 = .ok (.iconst 0, 1) := by decide +kernel
theorem dX9_lent_22 : decode cX9_lent 22 = .ok (.istore 4, 2) := by decide +kernel
theorem dX9_lent_24 : decode cX9_lent 24 = .ok (.iload 4, 2) := by decide +kernel
theorem dX9_lent_26 : decode cX9_lent 26 = .ok (.iconst 1, 1) := by decide +kernel
theorem dX9_lent_27 : decode cX9_lent 27 = .ok (.aload_n 0, 1) := by decide +kernel
theorem dX9_lent_28 : decode cX9_lent 28 = .ok (.getfield 7, 3) := by decide +kernel
theorem dX9_lent_31 : decode cX9_lent 31 = .ok (.ishl, 1) := by decide +kernel
theorem dX9_lent_32 : decode cX9_lent 32 = .ok (.if_icmp .ge 63, 3) := by decide +kernel
theorem dX9_lent_35 : decode cX9_lent 35 = .ok (.aload_n 0, 1) := by decide +kernel
theorem dX9_lent_36 : decode cX9_lent 36 = .ok (.iload 4, 2) := by decide +kernel
theorem dX9_lent_38 : decode cX9_lent 38 = .ok (.iload_n 1, 1) := by decide +kernel
theorem dX9_lent_39 : decode cX9_lent 39 = .ok (.invokevirtual 233, 3) := by decide +kernel
theorem dX9_lent_42 : decode cX9_lent 42 = .ok (.ifCond .ne 47, 3) := by decide +kernel
theorem dX9_lent_45 : decode cX9_lent 45 = .ok (.iload_n 3, 1) := by decide +kernel
theorem dX9_lent_46 : decode cX9_lent 46 = .ok (.ifCond .lt 20, 3) := by decide +kernel
theorem dX9_lent_49 : decode cX9_lent 49 = .ok (.aload_n 0, 1) := by decide +kernel
theorem dX9_lent_50 : decode cX9_lent 50 = .ok (.iload 4, 2) := by decide +kernel
theorem dX9_lent_52 : decode cX9_lent 52 = .ok (.invokevirtual 315, 3) := by decide +kernel
theorem dX9_lent_55 : decode cX9_lent 55 = .ok (.aload_n 0, 1) := by decide +kernel
theorem dX9_lent_56 : decode cX9_lent 56 = .ok (.iload_n 3, 1) := by decide +kernel
theorem dX9_lent_57 : decode cX9_lent 57 = .ok (.invokevirtual 315, 3) := by decide +kernel
theorem dX9_lent_60 : decode cX9_lent 60 = .ok (.if_icmp .lt 6, 3) := by decide +kernel
theorem dX9_lent_63 : decode cX9_lent 63 = .ok (.goto 26, 3) := by decide +kernel
theorem dX9_lent_66 : decode cX9_lent 66 = .ok (.aload_n 0, 1) := by decide +kernel
theorem dX9_lent_67 : decode cX9_lent 67 = .ok (.iload_n 1, 1) := by decide +kernel
theorem dX9_lent_68 : decode cX9_lent 68 = .ok (.aload_n 0, 1) := by decide +kernel
theorem dX9_lent_69 : decode cX9_lent 69 = .ok (.iload_n 1, 1) := by decide +kernel
theorem dX9_lent_70 : decode cX9_lent 70 = .ok (.iload 4, 2) := by decide +kernel
theorem dX9_lent_72 : decode cX9_lent 72 = .ok (.invokevirtual 371, 3) := by decide +kernel
theorem dX9_lent_75 : decode cX9_lent 75 = .ok (.iload_n 2, 1) := by decide +kernel
theorem dX9_lent_76 : decode cX9_lent 76 = .ok (.invokevirtual 374, 3) := by decide +kernel
theorem dX9_lent_79 : decode cX9_lent 79 = .ok (.ifCond .eq 8, 3) := by decide +kernel
theorem dX9_lent_82 : decode cX9_lent 82 = .ok (.iload 4, 2) := by decide +kernel
theorem dX9_lent_84 : decode cX9_lent 84 = .ok (.goto 4, 3) := by decide +kernel
theorem dX9_lent_87 : decode cX9_lent 87 = .ok (.iload_n 3, 1) := by decide +kernel
theorem dX9_lent_88 : decode cX9_lent 88 = .ok (.istore_n 3, 1) := by decide +kernel
theorem dX9_lent_89 : decode cX9_lent 89 = .ok (.iinc 4 1, 3) := by decide +kernel
theorem dX9_lent_92 : decode cX9_lent 92 = .ok (.goto (-68), 3) := by decide +kernel
theorem dX9_lent_95 : decode cX9_lent 95 = .ok (.iload_n 3, 1) := by decide +kernel
theorem dX9_lent_96 : decode cX9_lent 96 = .ok (.ireturn, 1) := by decide +kernel
theorem dX9_see_0 : decode cX9_see 0 = .ok (.iload_n 1, 1) := by decide +kernel
theorem dX9_see_1 : decode cX9_see 1 = .ok (.iconst (-1), 1) := by decide +kernel
theorem dX9_see_2 : decode cX9_see 2 = .ok (.if_icmp .ne 10, 3) := by decide +kernel
theorem dX9_see_5 : decode cX9_see 5 = .ok (.aload_n 0, 1) := by decide +kernel
theorem dX9_see_6 : decode cX9_see 6 = .ok (.iconst 0, 1) := by decide +kernel
theorem dX9_see_7 : decode cX9_see 7 = .ok (.putfield 117, 3) := by decide +kernel
theorem dX9_see_10 : decode cX9_see 10 = .ok (.iconst 0, 1) := by decide +kernel
theorem dX9_see_11 : decode cX9_see 11 = .ok (.ireturn, 1) := by decide +kernel
theorem dX9_see_12 : decode cX9_see 12 = .ok (.aload_n 0, 1) := by decide +kernel
theorem dX9_see_13 : decode cX9_see 13 = .ok (.iload_n 1, 1) := by decide +kernel
theorem dX9_see_14 : decode cX9_see 14 = .ok (.invokevirtual 245, 3) := by decide +kernel
theorem dX9_see_17 : decode cX9_see 17 = .ok (.ifCond .eq 11, 3) := by decide +kernel
theorem dX9_see_20 : decode cX9_see 20 = .ok (.aload_n 0, 1) := by decide +kernel
theorem dX9_see_21 : decode cX9_see 21 = .ok (.iload_n 3, 1) := by decide +kernel
theorem dX9_see_22 : decode cX9_see 22 = .ok (.invokevirtual 241, 3) := by decide +kernel
theorem dX9_see_25 : decode cX9_see 25 = .ok (.ifCond .ne 5, 3) := by decide +kernel
theorem dX9_see_28 : decode cX9_see 28 = .ok (.iconst (-1), 1) := by decide +kernel
theorem dX9_see_29 : decode cX9_see 29 = .ok (.ireturn, 1) := by decide +kernel
theorem dX9_see_30 : decode cX9_see 30 = .ok (.aload_n 0, 1) := by decide +kernel
theorem dX9_see_31 : decode cX9_see 31 = .ok (.iload_n 2, 1) := by decide +kernel
theorem dX9_see_32 : decode cX9_see 32 = .ok (.iconst 0, 1) := by decide +kernel
theorem dX9_see_33 : decode cX9_see 33 = .ok (.bipush 12, 2) := by decide +kernel
theorem dX9_see_35 : decode cX9_see 35 = .ok (.invokevirtual 237, 3) := by decide +kernel
theorem dX9_see_38 : decode cX9_see 38 = .ok (.ifCond .ne 6, 3) := by decide +kernel
theorem dX9_see_41 : decode cX9_see 41 = .ok (.bipush (-2), 2) := by decide +kernel
theorem dX9_see_43 : decode cX9_see 43 = .ok (.ireturn, 1) := by decide +kernel
theorem dX9_see_44 : decode cX9_see 44 = .ok (.aload_n 0, 1) := by decide +kernel
theorem dX9_see_45 : decode cX9_see 45 = .ok (.getfield 117, 3) := by decide +kernel
theorem dX9_see_48 : decode cX9_see 48 = .ok (.iconst 5, 1) := by decide +kernel
theorem dX9_see_49 : decode cX9_see 49 = .ok (.if_icmp .ne 6, 3) := by decide +kernel
theorem dX9_see_52 : decode cX9_see 52 = .ok (.bipush (-4), 2) := by decide +kernel
theorem dX9_see_54 : decode cX9_see 54 = .ok (.ireturn, 1) := by decide +kernel
theorem dX9_see_55 : decode cX9_see 55 = .ok (.aload_n 0, 1) := by decide +kernel
theorem dX9_see_56 : decode cX9_see 56 = .ok (.getfield 120, 3) := by decide +kernel
theorem dX9_see_59 : decode cX9_see 59 = .ok (.aload_n 0, 1) := by decide +kernel
theorem dX9_see_60 : decode cX9_see 60 = .ok (.getfield 117, 3) := by decide +kernel
theorem dX9_see_63 : decode cX9_see 63 = .ok (.iload_n 1, 1) := by decide +kernel
theorem dX9_see_64 : decode cX9_see 64 = .ok (.iastore, 1) := by decide +kernel
theorem dX9_see_65 : decode cX9_see 65 = .ok (.aload_n 0, 1) := by decide +kernel
theorem dX9_see_66 : decode cX9_see 66 = .ok (.getfield 123, 3) := by decide +kernel
theorem dX9_see_69 : decode cX9_see 69 = .ok (.aload_n 0, 1) := by decide +kernel
theorem dX9_see_70 : decode cX9_see 70 = .ok (.getfield 117, 3) := by decide +kernel
theorem dX9_see_73 : decode cX9_see 73 = .ok (.iload_n 2, 1) := by decide +kernel
theorem dX9_see_74 : decode cX9_see 74 = .ok (.iastore, 1) := by decide +kernel
theorem dX9_see_75 : decode cX9_see 75 = .ok (.aload_n 0, 1) := by decide +kernel
theorem dX9_see_76 : decode cX9_see 76 = .ok (.getfield 126, 3) := by decide +kernel
theorem dX9_see_79 : decode cX9_see 79 = .ok (.aload_n 0, 1) := by decide +kernel
theorem dX9_see_80 : decode cX9_see 80 = .ok (.getfield 117, 3) := by decide +kernel
theorem dX9_see_83 : decode cX9_see 83 = .ok (.iload_n 3, 1) := by decide +kernel
theorem dX9_see_84 : decode cX9_see 84 = .ok (.iastore, 1) := by decide +kernel
theorem dX9_see_85 : decode cX9_see 85 = .ok (.aload_n 0, 1) := by decide +kernel
theorem dX9_see_86 : decode cX9_see 86 = .ok (.dup, 1) := by decide +kernel
theorem dX9_see_87 : decode cX9_see 87 = .ok (.getfield 117, 3) := by decide +kernel
theorem dX9_see_90 : decode cX9_see 90 = .ok (.iconst 1, 1) := by decide +kernel
theorem dX9_see_91 : decode cX9_see 91 = .ok (.iadd, 1) := by decide +kernel
theorem dX9_see_92 : decode cX9_see 92 = .ok (.putfield 117, 3) := by decide +kernel
theorem dX9_see_95 : decode cX9_see 95 = .ok (.aload_n 0, 1) := by decide +kernel
theorem dX9_see_96 : decode cX9_see 96 = .ok (.getfield 117, 3) := by decide +kernel
theorem dX9_see_99 : decode cX9_see 99 = .ok (.ireturn, 1) := by decide +kernel
theorem dX9_isSeen_0 : decode cX9_isSeen 0 = .ok (.iconst 1, 1) := by decide +kernel
theorem dX9_isSeen_1 : decode cX9_isSeen 1 = .ok (.istore_n 1, 1) := by decide +kernel
theorem dX9_isSeen_2 : decode cX9_isSeen 2 = .ok (.iconst 0, 1) := by decide +kernel
theorem dX9_isSeen_3 : decode cX9_isSeen 3 = .ok (.istore_n 2, 1) := by decide +kernel
theorem dX9_isSeen_4 : decode cX9_isSeen 4 = .ok (.iload_n 2, 1) := by decide +kernel
theorem dX9_isSeen_5 : decode cX9_isSeen 5 = .ok (.aload_n 0, 1) := by decide +kernel
theorem dX9_isSeen_6 : decode cX9_isSeen 6 = .ok (.getfield 117, 3) := by decide +kernel
theorem dX9_isSeen_9 : decode cX9_isSeen 9 = .ok (.if_icmp .ge 57, 3) := by decide +kernel
theorem dX9_isSeen_12 : decode cX9_isSeen 12 = .ok (.iload_n 1, 1) := by decide +kernel
theorem dX9_isSeen_13 : decode cX9_isSeen 13 = .ok (.ifCond .eq 53, 3) := by decide +kernel
theorem dX9_isSeen_16 : decode cX9_isSeen 16 = .ok (.aload_n 0, 1) := by decide +kernel
theorem dX9_isSeen_17 : decode cX9_isSeen 17 = .ok (.invokevirtual 359, 3) := by decide +kernel
theorem dX9_isSeen_20 : decode cX9_isSeen 20 = .ok (.aload_n 0, 1) := by decide +kernel
theorem dX9_isSeen_21 : decode cX9_isSeen 21 = .ok (.aload_n 0, 1) := by decide +kernel
theorem dX9_isSeen_22 : decode cX9_isSeen 22 = .ok (.getfield 123, 3) := by decide +kernel
theorem dX9_isSeen_25 : decode cX9_isSeen 25 = .ok (.iload_n 2, 1) := by decide +kernel
theorem dX9_isSeen_26 : decode cX9_isSeen 26 = .ok (.iaload, 1) := by decide +kernel
theorem dX9_isSeen_27 : decode cX9_isSeen 27 = .ok (.invokevirtual 355, 3) := by decide +kernel
theorem dX9_isSeen_30 : decode cX9_isSeen 30 = .ok (.aload_n 0, 1) := by decide +kernel
theorem dX9_isSeen_31 : decode cX9_isSeen 31 = .ok (.getfield 26, 3) := by decide +kernel
theorem dX9_isSeen_34 : decode cX9_isSeen 34 = .ok (.aload_n 0, 1) := by decide +kernel
theorem dX9_isSeen_35 : decode cX9_isSeen 35 = .ok (.getfield 120, 3) := by decide +kernel
theorem dX9_isSeen_38 : decode cX9_isSeen 38 = .ok (.iload_n 2, 1) := by decide +kernel
theorem dX9_isSeen_39 : decode cX9_isSeen 39 = .ok (.iaload, 1) := by decide +kernel
theorem dX9_isSeen_40 : decode cX9_isSeen 40 = .ok (.iaload, 1) := by decide +kernel
theorem dX9_isSeen_41 : decode cX9_isSeen 41 = .ok (.aload_n 0, 1) := by decide +kernel
theorem dX9_isSeen_42 : decode cX9_isSeen 42 = .ok (.getfield 126, 3) := by decide +kernel
theorem dX9_isSeen_45 : decode cX9_isSeen 45 = .ok (.iload_n 2, 1) := by decide +kernel
theorem dX9_isSeen_46 : decode cX9_isSeen 46 = .ok (.iaload, 1) := by decide +kernel
theorem dX9_isSeen_47 : decode cX9_isSeen 47 = .ok (.if_icmp .ne 7, 3) := by decide +kernel
theorem dX9_isSeen_50 : decode cX9_isSeen 50 = .ok (.iconst 1, 1) := by decide +kernel
theorem dX9_isSeen_51 : decode cX9_isSeen 51 = .ok (.goto 4, 3) := by decide +kernel
theorem dX9_isSeen_54 : decode cX9_isSeen 54 = .ok (.iconst 0, 1) := by decide +kernel
theorem dX9_isSeen_55 : decode cX9_isSeen 55 = .ok (.istore_n 1, 1) := by decide +kernel
theorem dX9_isSeen_56 : decode cX9_isSeen 56 = .ok (.aload_n 0, 1) := by decide +kernel
theorem dX9_isSeen_57 : decode cX9_isSeen 57 = .ok (.invokevirtual 362, 3) := by decide +kernel
theorem dX9_isSeen_60 : decode cX9_isSeen 60 = .ok (.iinc 2 1, 3) := by decide +kernel
theorem dX9_isSeen_63 : decode cX9_isSeen 63 = .ok (.goto (-59), 3) := by decide +kernel
theorem dX9_isSeen_66 : decode cX9_isSeen 66 = .ok (.iload_n 1, 1) := by decide +kernel
theorem dX9_isSeen_67 : decode cX9_isSeen 67 = .ok (.ireturn, 1) := by decide +kernel
theorem dX9_fromWhere_0 : decode cX9_fromWhere 0 = .ok (.aload_n 0, 1) := by decide +kernel
theorem dX9_fromWhere_1 : decode cX9_fromWhere 1 = .ok (.getfield 26, 3) := by decide +kernel
theorem dX9_fromWhere_4 : decode cX9_fromWhere 4 = .ok (.iload_n 1, 1) := by decide +kernel
theorem dX9_fromWhere_5 : decode cX9_fromWhere 5 = .ok (.iaload, 1) := by decide +kernel
theorem dX9_fromWhere_6 : decode cX9_fromWhere 6 = .ok (.istore_n 2, 1) := by decide +kernel
theorem dX9_fromWhere_7 : decode cX9_fromWhere 7 = .ok (.iconst 0, 1) := by decide +kernel
theorem dX9_fromWhere_8 : decode cX9_fromWhere 8 = .ok (.istore_n 3, 1) := by decide +kernel
theorem dX9_fromWhere_9 : decode cX9_fromWhere 9 = .ok (.iconst 0, 1) := by decide +kernel
theorem dX9_fromWhere_10 : decode cX9_fromWhere 10 = .ok (.istore 4, 2) := by decide +kernel
theorem dX9_fromWhere_12 : decode cX9_fromWhere 12 = .ok (.iload 4, 2) := by decide +kernel
theorem dX9_fromWhere_14 : decode cX9_fromWhere 14 = .ok (.bipush 16, 2) := by decide +kernel
theorem dX9_fromWhere_16 : decode cX9_fromWhere 16 = .ok (.if_icmp .ge 35, 3) := by decide +kernel
theorem dX9_fromWhere_19 : decode cX9_fromWhere 19 = .ok (.aload_n 0, 1) := by decide +kernel
theorem dX9_fromWhere_20 : decode cX9_fromWhere 20 = .ok (.getfield 26, 3) := by decide +kernel
theorem dX9_fromWhere_23 : decode cX9_fromWhere 23 = .ok (.iload_n 1, 1) := by decide +kernel
theorem dX9_fromWhere_24 : decode cX9_fromWhere 24 = .ok (.iload 4, 2) := by decide +kernel
theorem dX9_fromWhere_26 : decode cX9_fromWhere 26 = .ok (.iastore, 1) := by decide +kernel
theorem dX9_fromWhere_27 : decode cX9_fromWhere 27 = .ok (.iload_n 3, 1) := by decide +kernel
theorem dX9_fromWhere_28 : decode cX9_fromWhere 28 = .ok (.aload_n 0, 1) := by decide +kernel
theorem dX9_fromWhere_29 : decode cX9_fromWhere 29 = .ok (.invokevirtual 377, 3) := by decide +kernel
theorem dX9_fromWhere_32 : decode cX9_fromWhere 32 = .ok (.ifCond .eq 10, 3) := by decide +kernel
theorem dX9_fromWhere_35 : decode cX9_fromWhere 35 = .ok (.iconst 1, 1) := by decide +kernel
theorem dX9_fromWhere_36 : decode cX9_fromWhere 36 = .ok (.iload 4, 2) := by decide +kernel
theorem dX9_fromWhere_38 : decode cX9_fromWhere 38 = .ok (.ishl, 1) := by decide +kernel
theorem dX9_fromWhere_39 : decode cX9_fromWhere 39 = .ok (.goto 4, 3) := by decide +kernel
theorem dX9_fromWhere_42 : decode cX9_fromWhere 42 = .ok (.iconst 0, 1) := by decide +kernel
theorem dX9_fromWhere_43 : decode cX9_fromWhere 43 = .ok (.ior, 1) := by decide +kernel
theorem dX9_fromWhere_44 : decode cX9_fromWhere 44 = .ok (.istore_n 3, 1) := by decide +kernel
theorem dX9_fromWhere_45 : decode cX9_fromWhere 45 = .ok (.iinc 4 1, 3) := by decide +kernel
theorem dX9_fromWhere_48 : decode cX9_fromWhere 48 = .ok (.goto (-36), 3) := by decide +kernel
theorem dX9_fromWhere_51 : decode cX9_fromWhere 51 = .ok (.aload_n 0, 1) := by decide +kernel
theorem dX9_fromWhere_52 : decode cX9_fromWhere 52 = .ok (.getfield 26, 3) := by decide +kernel
theorem dX9_fromWhere_55 : decode cX9_fromWhere 55 = .ok (.iload_n 1, 1) := by decide +kernel
theorem dX9_fromWhere_56 : decode cX9_fromWhere 56 = .ok (.iload_n 2, 1) := by decide +kernel
theorem dX9_fromWhere_57 : decode cX9_fromWhere 57 = .ok (.iastore, 1) := by decide +kernel
theorem dX9_fromWhere_58 : decode cX9_fromWhere 58 = .ok (.iload_n 3, 1) := by decide +kernel
theorem dX9_fromWhere_59 : decode cX9_fromWhere 59 = .ok (.ireturn, 1) := by decide +kernel
theorem dX9_can_0 : decode cX9_can 0 = .ok (.aload_n 0, 1) := by decide +kernel
theorem dX9_can_1 : decode cX9_can 1 = .ok (.iload_n 1, 1) := by decide +kernel
theorem dX9_can_2 : decode cX9_can 2 = .ok (.invokevirtual 245, 3) := by decide +kernel
theorem dX9_can_5 : decode cX9_can 5 = .ok (.ifCond .eq 13, 3) := by decide +kernel
theorem dX9_can_8 : decode cX9_can 8 = .ok (.aload_n 0, 1) := by decide +kernel
theorem dX9_can_9 : decode cX9_can 9 = .ok (.iload_n 2, 1) := by decide +kernel
theorem dX9_can_10 : decode cX9_can 10 = .ok (.iconst 0, 1) := by decide +kernel
theorem dX9_can_11 : decode cX9_can 11 = .ok (.iconst 1, 1) := by decide +kernel
theorem dX9_can_12 : decode cX9_can 12 = .ok (.invokevirtual 237, 3) := by decide +kernel
theorem dX9_can_15 : decode cX9_can 15 = .ok (.ifCond .ne 5, 3) := by decide +kernel
theorem dX9_can_18 : decode cX9_can 18 = .ok (.iconst (-1), 1) := by decide +kernel
theorem dX9_can_19 : decode cX9_can 19 = .ok (.ireturn, 1) := by decide +kernel
theorem dX9_can_20 : decode cX9_can 20 = .ok (.aload_n 0, 1) := by decide +kernel
theorem dX9_can_21 : decode cX9_can 21 = .ok (.getfield 23, 3) := by decide +kernel
theorem dX9_can_24 : decode cX9_can 24 = .ok (.iload_n 1, 1) := by decide +kernel
theorem dX9_can_25 : decode cX9_can 25 = .ok (.iaload, 1) := by decide +kernel
theorem dX9_can_26 : decode cX9_can 26 = .ok (.istore_n 3, 1) := by decide +kernel
theorem dX9_can_27 : decode cX9_can 27 = .ok (.iconst 0, 1) := by decide +kernel
theorem dX9_can_28 : decode cX9_can 28 = .ok (.istore 4, 2) := by decide +kernel
theorem dX9_can_30 : decode cX9_can 30 = .ok (.bipush (-5), 2) := by decide +kernel
theorem dX9_can_32 : decode cX9_can 32 = .ok (.istore 5, 2) := by decide +kernel
theorem dX9_can_34 : decode cX9_can 34 = .ok (.bipush 9, 2) := by decide +kernel
theorem dX9_can_36 : decode cX9_can 36 = .ok (.istore 6, 2) := by decide +kernel
theorem dX9_can_38 : decode cX9_can 38 = .ok (.iload 6, 2) := by decide +kernel
theorem dX9_can_40 : decode cX9_can 40 = .ok (.ifCond .lt 34, 3) := by decide +kernel
theorem dX9_can_43 : decode cX9_can 43 = .ok (.aload_n 0, 1) := by decide +kernel
theorem dX9_can_44 : decode cX9_can 44 = .ok (.getfield 23, 3) := by decide +kernel
theorem dX9_can_47 : decode cX9_can 47 = .ok (.iload_n 1, 1) := by decide +kernel
theorem dX9_can_48 : decode cX9_can 48 = .ok (.iload 6, 2) := by decide +kernel
theorem dX9_can_50 : decode cX9_can 50 = .ok (.iastore, 1) := by decide +kernel
theorem dX9_can_51 : decode cX9_can 51 = .ok (.aload_n 0, 1) := by decide +kernel
theorem dX9_can_52 : decode cX9_can 52 = .ok (.invokevirtual 377, 3) := by decide +kernel
theorem dX9_can_55 : decode cX9_can 55 = .ok (.ifCond .ne 6, 3) := by decide +kernel
theorem dX9_can_58 : decode cX9_can 58 = .ok (.goto 10, 3) := by decide +kernel
theorem dX9_can_61 : decode cX9_can 61 = .ok (.iinc 4 1, 3) := by decide +kernel
theorem dX9_can_64 : decode cX9_can 64 = .ok (.iload 6, 2) := by decide +kernel
theorem dX9_can_66 : decode cX9_can 66 = .ok (.istore 5, 2) := by decide +kernel
theorem dX9_can_68 : decode cX9_can 68 = .ok (.iinc 6 (-1), 3) := by decide +kernel
theorem dX9_can_71 : decode cX9_can 71 = .ok (.goto (-33), 3) := by decide +kernel
theorem dX9_can_74 : decode cX9_can 74 = .ok (.aload_n 0, 1) := by decide +kernel
theorem dX9_can_75 : decode cX9_can 75 = .ok (.getfield 23, 3) := by decide +kernel
theorem dX9_can_78 : decode cX9_can 78 = .ok (.iload_n 1, 1) := by decide +kernel
theorem dX9_can_79 : decode cX9_can 79 = .ok (.iload_n 3, 1) := by decide +kernel
theorem dX9_can_80 : decode cX9_can 80 = .ok (.iastore, 1) := by decide +kernel
theorem dX9_can_81 : decode cX9_can 81 = .ok (.iload_n 2, 1) := by decide +kernel
theorem dX9_can_82 : decode cX9_can 82 = .ok (.ifCond .ne 8, 3) := by decide +kernel
theorem dX9_can_85 : decode cX9_can 85 = .ok (.iload 4, 2) := by decide +kernel
theorem dX9_can_87 : decode cX9_can 87 = .ok (.goto 5, 3) := by decide +kernel
theorem dX9_can_90 : decode cX9_can 90 = .ok (.iload 5, 2) := by decide +kernel
theorem dX9_can_92 : decode cX9_can 92 = .ok (.ireturn, 1) := by decide +kernel
theorem dX9_of_0 : decode cX9_of 0 = .ok (.aload_n 0, 1) := by decide +kernel
theorem dX9_of_1 : decode cX9_of 1 = .ok (.iload_n 1, 1) := by decide +kernel
theorem dX9_of_2 : decode cX9_of 2 = .ok (.invokevirtual 245, 3) := by decide +kernel
theorem dX9_of_5 : decode cX9_of 5 = .ok (.ifCond .ne 5, 3) := by decide +kernel
theorem dX9_of_8 : decode cX9_of 8 = .ok (.iconst (-1), 1) := by decide +kernel
theorem dX9_of_9 : decode cX9_of 9 = .ok (.ireturn, 1) := by decide +kernel
theorem dX9_of_10 : decode cX9_of 10 = .ok (.iload_n 2, 1) := by decide +kernel
theorem dX9_of_11 : decode cX9_of 11 = .ok (.tableswitch 129 0 10 #[57, 64, 71, 78, 85, 92, 99, 105, 111, 117, 123], 57) := by decide +kernel
theorem dX9_of_68 : decode cX9_of 68 = .ok (.aload_n 0, 1) := by decide +kernel
theorem dX9_of_69 : decode cX9_of 69 = .ok (.getfield 20, 3) := by decide +kernel
theorem dX9_of_72 : decode cX9_of 72 = .ok (.iload_n 1, 1) := by decide +kernel
theorem dX9_of_73 : decode cX9_of 73 = .ok (.iaload, 1) := by decide +kernel
theorem dX9_of_74 : decode cX9_of 74 = .ok (.ireturn, 1) := by decide +kernel
theorem dX9_of_75 : decode cX9_of 75 = .ok (.aload_n 0, 1) := by decide +kernel
theorem dX9_of_76 : decode cX9_of 76 = .ok (.getfield 23, 3) := by decide +kernel
theorem dX9_of_79 : decode cX9_of 79 = .ok (.iload_n 1, 1) := by decide +kernel
theorem dX9_of_80 : decode cX9_of 80 = .ok (.iaload, 1) := by decide +kernel
theorem dX9_of_81 : decode cX9_of 81 = .ok (.ireturn, 1) := by decide +kernel
theorem dX9_of_82 : decode cX9_of 82 = .ok (.aload_n 0, 1) := by decide +kernel
theorem dX9_of_83 : decode cX9_of 83 = .ok (.getfield 26, 3) := by decide +kernel
theorem dX9_of_86 : decode cX9_of 86 = .ok (.iload_n 1, 1) := by decide +kernel
theorem dX9_of_87 : decode cX9_of 87 = .ok (.iaload, 1) := by decide +kernel
theorem dX9_of_88 : decode cX9_of 88 = .ok (.ireturn, 1) := by decide +kernel
theorem dX9_of_89 : decode cX9_of 89 = .ok (.aload_n 0, 1) := by decide +kernel
theorem dX9_of_90 : decode cX9_of 90 = .ok (.getfield 29, 3) := by decide +kernel
theorem dX9_of_93 : decode cX9_of 93 = .ok (.iload_n 1, 1) := by decide +kernel
theorem dX9_of_94 : decode cX9_of 94 = .ok (.iaload, 1) := by decide +kernel
theorem dX9_of_95 : decode cX9_of 95 = .ok (.ireturn, 1) := by decide +kernel
theorem dX9_of_96 : decode cX9_of 96 = .ok (.aload_n 0, 1) := by decide +kernel
theorem dX9_of_97 : decode cX9_of 97 = .ok (.getfield 32, 3) := by decide +kernel
theorem dX9_of_100 : decode cX9_of 100 = .ok (.iload_n 1, 1) := by decide +kernel
theorem dX9_of_101 : decode cX9_of 101 = .ok (.iaload, 1) := by decide +kernel
theorem dX9_of_102 : decode cX9_of 102 = .ok (.ireturn, 1) := by decide +kernel
theorem dX9_of_103 : decode cX9_of 103 = .ok (.aload_n 0, 1) := by decide +kernel
theorem dX9_of_104 : decode cX9_of 104 = .ok (.getfield 35, 3) := by decide +kernel
theorem dX9_of_107 : decode cX9_of 107 = .ok (.iload_n 1, 1) := by decide +kernel
theorem dX9_of_108 : decode cX9_of 108 = .ok (.iaload, 1) := by decide +kernel
theorem dX9_of_109 : decode cX9_of 109 = .ok (.ireturn, 1) := by decide +kernel
theorem dX9_of_110 : decode cX9_of 110 = .ok (.aload_n 0, 1) := by decide +kernel
theorem dX9_of_111 : decode cX9_of 111 = .ok (.iload_n 1, 1) := by decide +kernel
theorem dX9_of_112 : decode cX9_of 112 = .ok (.invokevirtual 380, 3) := by decide +kernel
theorem dX9_of_115 : decode cX9_of 115 = .ok (.ireturn, 1) := by decide +kernel
theorem dX9_of_116 : decode cX9_of 116 = .ok (.aload_n 0, 1) := by decide +kernel
theorem dX9_of_117 : decode cX9_of 117 = .ok (.iload_n 1, 1) := by decide +kernel
theorem dX9_of_118 : decode cX9_of 118 = .ok (.invokevirtual 340, 3) := by decide +kernel
theorem dX9_of_121 : decode cX9_of 121 = .ok (.ireturn, 1) := by decide +kernel
theorem dX9_of_122 : decode cX9_of 122 = .ok (.aload_n 0, 1) := by decide +kernel
theorem dX9_of_123 : decode cX9_of 123 = .ok (.iload_n 1, 1) := by decide +kernel
theorem dX9_of_124 : decode cX9_of 124 = .ok (.invokevirtual 383, 3) := by decide +kernel
theorem dX9_of_127 : decode cX9_of 127 = .ok (.ireturn, 1) := by decide +kernel
theorem dX9_of_128 : decode cX9_of 128 = .ok (.aload_n 0, 1) := by decide +kernel
theorem dX9_of_129 : decode cX9_of 129 = .ok (.iload_n 1, 1) := by decide +kernel
theorem dX9_of_130 : decode cX9_of 130 = .ok (.invokevirtual 386, 3) := by decide +kernel
theorem dX9_of_133 : decode cX9_of 133 = .ok (.ireturn, 1) := by decide +kernel
theorem dX9_of_134 : decode cX9_of 134 = .ok (.aload_n 0, 1) := by decide +kernel
theorem dX9_of_135 : decode cX9_of 135 = .ok (.iload_n 1, 1) := by decide +kernel
theorem dX9_of_136 : decode cX9_of 136 = .ok (.invokevirtual 389, 3) := by decide +kernel
theorem dX9_of_139 : decode cX9_of 139 = .ok (.ireturn, 1) := by decide +kernel
theorem dX9_of_140 : decode cX9_of 140 = .ok (.iconst (-1), 1) := by decide +kernel
theorem dX9_of_141 : decode cX9_of 141 = .ok (.ireturn, 1) := by decide +kernel
theorem dX9_arrived_0 : decode cX9_arrived 0 = .ok (.iconst 0, 1) := by decide +kernel
theorem dX9_arrived_1 : decode cX9_arrived 1 = .ok (.istore_n 1, 1) := by decide +kernel
theorem dX9_arrived_2 : decode cX9_arrived 2 = .ok (.iconst 0, 1) := by decide +kernel
theorem dX9_arrived_3 : decode cX9_arrived 3 = .ok (.istore_n 2, 1) := by decide +kernel
theorem dX9_arrived_4 : decode cX9_arrived 4 = .ok (.iload_n 2, 1) := by decide +kernel
theorem dX9_arrived_5 : decode cX9_arrived 5 = .ok (.aload_n 0, 1) := by decide +kernel
theorem dX9_arrived_6 : decode cX9_arrived 6 = .ok (.getfield 7, 3) := by decide +kernel
theorem dX9_arrived_9 : decode cX9_arrived 9 = .ok (.if_icmp .ge 34, 3) := by decide +kernel
theorem dX9_arrived_12 : decode cX9_arrived 12 = .ok (.iload_n 1, 1) := by decide +kernel
theorem dX9_arrived_13 : decode cX9_arrived 13 = .ok (.aload_n 0, 1) := by decide +kernel
theorem dX9_arrived_14 : decode cX9_arrived 14 = .ok (.getfield 26, 3) := by decide +kernel
theorem dX9_arrived_17 : decode cX9_arrived 17 = .ok (.iload_n 2, 1) := by decide +kernel
theorem dX9_arrived_18 : decode cX9_arrived 18 = .ok (.iaload, 1) := by decide +kernel
theorem dX9_arrived_19 : decode cX9_arrived 19 = .ok (.aload_n 0, 1) := by decide +kernel
theorem dX9_arrived_20 : decode cX9_arrived 20 = .ok (.getfield 29, 3) := by decide +kernel
theorem dX9_arrived_23 : decode cX9_arrived 23 = .ok (.iload_n 2, 1) := by decide +kernel
theorem dX9_arrived_24 : decode cX9_arrived 24 = .ok (.iaload, 1) := by decide +kernel
theorem dX9_arrived_25 : decode cX9_arrived 25 = .ok (.if_icmp .ne 9, 3) := by decide +kernel
theorem dX9_arrived_28 : decode cX9_arrived 28 = .ok (.iconst 1, 1) := by decide +kernel
theorem dX9_arrived_29 : decode cX9_arrived 29 = .ok (.iload_n 2, 1) := by decide +kernel
theorem dX9_arrived_30 : decode cX9_arrived 30 = .ok (.ishl, 1) := by decide +kernel
theorem dX9_arrived_31 : decode cX9_arrived 31 = .ok (.goto 4, 3) := by decide +kernel
theorem dX9_arrived_34 : decode cX9_arrived 34 = .ok (.iconst 0, 1) := by decide +kernel
theorem dX9_arrived_35 : decode cX9_arrived 35 = .ok (.ior, 1) := by decide +kernel
theorem dX9_arrived_36 : decode cX9_arrived 36 = .ok (.istore_n 1, 1) := by decide +kernel
theorem dX9_arrived_37 : decode cX9_arrived 37 = .ok (.iinc 2 1, 3) := by decide +kernel
theorem dX9_arrived_40 : decode cX9_arrived 40 = .ok (.goto (-36), 3) := by decide +kernel
theorem dX9_arrived_43 : decode cX9_arrived 43 = .ok (.iload_n 1, 1) := by decide +kernel
theorem dX9_arrived_44 : decode cX9_arrived 44 = .ok (.ireturn, 1) := by decide +kernel
theorem dX9_allNoes_0 : decode cX9_allNoes 0 = .ok (.iconst 0, 1) := by decide +kernel
theorem dX9_allNoes_1 : decode cX9_allNoes 1 = .ok (.istore_n 1, 1) := by decide +kernel
theorem dX9_allNoes_2 : decode cX9_allNoes 2 = .ok (.iconst 0, 1) := by decide +kernel
theorem dX9_allNoes_3 : decode cX9_allNoes 3 = .ok (.istore_n 2, 1) := by decide +kernel
theorem dX9_allNoes_4 : decode cX9_allNoes 4 = .ok (.iload_n 2, 1) := by decide +kernel
theorem dX9_allNoes_5 : decode cX9_allNoes 5 = .ok (.aload_n 0, 1) := by decide +kernel
theorem dX9_allNoes_6 : decode cX9_allNoes 6 = .ok (.getfield 7, 3) := by decide +kernel
theorem dX9_allNoes_9 : decode cX9_allNoes 9 = .ok (.if_icmp .ge 18, 3) := by decide +kernel
theorem dX9_allNoes_12 : decode cX9_allNoes 12 = .ok (.iload_n 1, 1) := by decide +kernel
theorem dX9_allNoes_13 : decode cX9_allNoes 13 = .ok (.aload_n 0, 1) := by decide +kernel
theorem dX9_allNoes_14 : decode cX9_allNoes 14 = .ok (.getfield 35, 3) := by decide +kernel
theorem dX9_allNoes_17 : decode cX9_allNoes 17 = .ok (.iload_n 2, 1) := by decide +kernel
theorem dX9_allNoes_18 : decode cX9_allNoes 18 = .ok (.iaload, 1) := by decide +kernel
theorem dX9_allNoes_19 : decode cX9_allNoes 19 = .ok (.iadd, 1) := by decide +kernel
theorem dX9_allNoes_20 : decode cX9_allNoes 20 = .ok (.istore_n 1, 1) := by decide +kernel
theorem dX9_allNoes_21 : decode cX9_allNoes 21 = .ok (.iinc 2 1, 3) := by decide +kernel
theorem dX9_allNoes_24 : decode cX9_allNoes 24 = .ok (.goto (-20), 3) := by decide +kernel
theorem dX9_allNoes_27 : decode cX9_allNoes 27 = .ok (.iload_n 1, 1) := by decide +kernel
theorem dX9_allNoes_28 : decode cX9_allNoes 28 = .ok (.ireturn, 1) := by decide +kernel
theorem dX9_told_0 : decode cX9_told 0 = .ok (.aload_n 0, 1) := by decide +kernel
theorem dX9_told_1 : decode cX9_told 1 = .ok (.iload_n 1, 1) := by decide +kernel
theorem dX9_told_2 : decode cX9_told 2 = .ok (.bipush 10, 2) := by decide +kernel
theorem dX9_told_4 : decode cX9_told 4 = .ok (.bipush 25, 2) := by decide +kernel
theorem dX9_told_6 : decode cX9_told 6 = .ok (.invokevirtual 237, 3) := by decide +kernel
theorem dX9_told_9 : decode cX9_told 9 = .ok (.ifCond .eq 13, 3) := by decide +kernel
theorem dX9_told_12 : decode cX9_told 12 = .ok (.aload_n 0, 1) := by decide +kernel
theorem dX9_told_13 : decode cX9_told 13 = .ok (.getfield 16, 3) := by decide +kernel
theorem dX9_told_16 : decode cX9_told 16 = .ok (.iload_n 1, 1) := by decide +kernel
theorem dX9_told_17 : decode cX9_told 17 = .ok (.bipush 10, 2) := by decide +kernel
theorem dX9_told_19 : decode cX9_told 19 = .ok (.isub, 1) := by decide +kernel
theorem dX9_told_20 : decode cX9_told 20 = .ok (.iaload, 1) := by decide +kernel
theorem dX9_told_21 : decode cX9_told 21 = .ok (.ireturn, 1) := by decide +kernel
theorem dX9_told_22 : decode cX9_told 22 = .ok (.iload_n 1, 1) := by decide +kernel
theorem dX9_told_23 : decode cX9_told 23 = .ok (.tableswitch 49 0 3 #[29, 34, 39, 44], 29) := by decide +kernel
theorem dX9_told_52 : decode cX9_told 52 = .ok (.aload_n 0, 1) := by decide +kernel
theorem dX9_told_53 : decode cX9_told 53 = .ok (.getfield 13, 3) := by decide +kernel
theorem dX9_told_56 : decode cX9_told 56 = .ok (.ireturn, 1) := by decide +kernel
theorem dX9_told_57 : decode cX9_told 57 = .ok (.aload_n 0, 1) := by decide +kernel
theorem dX9_told_58 : decode cX9_told 58 = .ok (.invokevirtual 346, 3) := by decide +kernel
theorem dX9_told_61 : decode cX9_told 61 = .ok (.ireturn, 1) := by decide +kernel
theorem dX9_told_62 : decode cX9_told 62 = .ok (.aload_n 0, 1) := by decide +kernel
theorem dX9_told_63 : decode cX9_told 63 = .ok (.invokevirtual 392, 3) := by decide +kernel
theorem dX9_told_66 : decode cX9_told 66 = .ok (.ireturn, 1) := by decide +kernel
theorem dX9_told_67 : decode cX9_told 67 = .ok (.aload_n 0, 1) := by decide +kernel
theorem dX9_told_68 : decode cX9_told 68 = .ok (.invokevirtual 395, 3) := by decide +kernel
theorem dX9_told_71 : decode cX9_told 71 = .ok (.ireturn, 1) := by decide +kernel
theorem dX9_told_72 : decode cX9_told 72 = .ok (.iconst (-1), 1) := by decide +kernel
theorem dX9_told_73 : decode cX9_told 73 = .ok (.ireturn, 1) := by decide +kernel
theorem dX9_on_0 : decode cX9_on 0 = .ok (.aload_n 0, 1) := by decide +kernel
theorem dX9_on_1 : decode cX9_on 1 = .ok (.iload_n 2, 1) := by decide +kernel
theorem dX9_on_2 : decode cX9_on 2 = .ok (.bipush 10, 2) := by decide +kernel
theorem dX9_on_4 : decode cX9_on 4 = .ok (.bipush 9, 2) := by decide +kernel
theorem dX9_on_6 : decode cX9_on 6 = .ok (.aload_n 0, 1) := by decide +kernel
theorem dX9_on_7 : decode cX9_on 7 = .ok (.getfield 7, 3) := by decide +kernel
theorem dX9_on_10 : decode cX9_on 10 = .ok (.iadd, 1) := by decide +kernel
theorem dX9_on_11 : decode cX9_on 11 = .ok (.invokevirtual 237, 3) := by decide +kernel
theorem dX9_on_14 : decode cX9_on 14 = .ok (.ifCond .ne 39, 3) := by decide +kernel
theorem dX9_on_17 : decode cX9_on 17 = .ok (.aload_n 0, 1) := by decide +kernel
theorem dX9_on_18 : decode cX9_on 18 = .ok (.iload_n 2, 1) := by decide +kernel
theorem dX9_on_19 : decode cX9_on 19 = .ok (.bipush 20, 2) := by decide +kernel
theorem dX9_on_21 : decode cX9_on 21 = .ok (.bipush 19, 2) := by decide +kernel
theorem dX9_on_23 : decode cX9_on 23 = .ok (.aload_n 0, 1) := by decide +kernel
theorem dX9_on_24 : decode cX9_on 24 = .ok (.getfield 7, 3) := by decide +kernel
theorem dX9_on_27 : decode cX9_on 27 = .ok (.iadd, 1) := by decide +kernel
theorem dX9_on_28 : decode cX9_on 28 = .ok (.invokevirtual 237, 3) := by decide +kernel
theorem dX9_on_31 : decode cX9_on 31 = .ok (.ifCond .ne 22, 3) := by decide +kernel
theorem dX9_on_34 : decode cX9_on 34 = .ok (.aload_n 0, 1) := by decide +kernel
theorem dX9_on_35 : decode cX9_on 35 = .ok (.iload_n 2, 1) := by decide +kernel
theorem dX9_on_36 : decode cX9_on 36 = .ok (.bipush 30, 2) := by decide +kernel
theorem dX9_on_38 : decode cX9_on 38 = .ok (.bipush 29, 2) := by decide +kernel
theorem dX9_on_40 : decode cX9_on 40 = .ok (.aload_n 0, 1) := by decide +kernel
theorem dX9_on_41 : decode cX9_on 41 = .ok (.getfield 7, 3) := by decide +kernel
theorem dX9_on_44 : decode cX9_on 44 = .ok (.iadd, 1) := by decide +kernel
theorem dX9_on_45 : decode cX9_on 45 = .ok (.invokevirtual 237, 3) := by decide +kernel
theorem dX9_on_48 : decode cX9_on 48 = .ok (.ifCond .ne 5, 3) := by decide +kernel
theorem dX9_on_51 : decode cX9_on 51 = .ok (.iconst (-1), 1) := by decide +kernel
theorem dX9_on_52 : decode cX9_on 52 = .ok (.ireturn, 1) := by decide +kernel
theorem dX9_on_53 : decode cX9_on 53 = .ok (.aload_n 0, 1) := by decide +kernel
theorem dX9_on_54 : decode cX9_on 54 = .ok (.iload_n 1, 1) := by decide +kernel
theorem dX9_on_55 : decode cX9_on 55 = .ok (.invokevirtual 352, 3) := by decide +kernel
theorem dX9_on_58 : decode cX9_on 58 = .ok (.ifCond .ne 6, 3) := by decide +kernel
theorem dX9_on_61 : decode cX9_on 61 = .ok (.bipush (-2), 2) := by decide +kernel
theorem dX9_on_63 : decode cX9_on 63 = .ok (.ireturn, 1) := by decide +kernel
theorem dX9_on_64 : decode cX9_on 64 = .ok (.aload_n 0, 1) := by decide +kernel
theorem dX9_on_65 : decode cX9_on 65 = .ok (.invokevirtual 359, 3) := by decide +kernel
theorem dX9_on_68 : decode cX9_on 68 = .ok (.aload_n 0, 1) := by decide +kernel
theorem dX9_on_69 : decode cX9_on 69 = .ok (.iload_n 1, 1) := by decide +kernel
theorem dX9_on_70 : decode cX9_on 70 = .ok (.invokevirtual 355, 3) := by decide +kernel
theorem dX9_on_73 : decode cX9_on 73 = .ok (.iload_n 2, 1) := by decide +kernel
theorem dX9_on_74 : decode cX9_on 74 = .ok (.bipush 20, 2) := by decide +kernel
theorem dX9_on_76 : decode cX9_on 76 = .ok (.if_icmp .ge 15, 3) := by decide +kernel
theorem dX9_on_79 : decode cX9_on 79 = .ok (.aload_n 0, 1) := by decide +kernel
theorem dX9_on_80 : decode cX9_on 80 = .ok (.getfield 26, 3) := by decide +kernel
theorem dX9_on_83 : decode cX9_on 83 = .ok (.iload_n 2, 1) := by decide +kernel
theorem dX9_on_84 : decode cX9_on 84 = .ok (.bipush 10, 2) := by decide +kernel
theorem dX9_on_86 : decode cX9_on 86 = .ok (.isub, 1) := by decide +kernel
theorem dX9_on_87 : decode cX9_on 87 = .ok (.iaload, 1) := by decide +kernel
theorem dX9_on_88 : decode cX9_on 88 = .ok (.goto 30, 3) := by decide +kernel
theorem dX9_on_91 : decode cX9_on 91 = .ok (.iload_n 2, 1) := by decide +kernel
theorem dX9_on_92 : decode cX9_on 92 = .ok (.bipush 30, 2) := by decide +kernel
theorem dX9_on_94 : decode cX9_on 94 = .ok (.if_icmp .ge 15, 3) := by decide +kernel
theorem dX9_on_97 : decode cX9_on 97 = .ok (.aload_n 0, 1) := by decide +kernel
theorem dX9_on_98 : decode cX9_on 98 = .ok (.getfield 32, 3) := by decide +kernel
theorem dX9_on_101 : decode cX9_on 101 = .ok (.iload_n 2, 1) := by decide +kernel
theorem dX9_on_102 : decode cX9_on 102 = .ok (.bipush 20, 2) := by decide +kernel
theorem dX9_on_104 : decode cX9_on 104 = .ok (.isub, 1) := by decide +kernel
theorem dX9_on_105 : decode cX9_on 105 = .ok (.iaload, 1) := by decide +kernel
theorem dX9_on_106 : decode cX9_on 106 = .ok (.goto 12, 3) := by decide +kernel
theorem dX9_on_109 : decode cX9_on 109 = .ok (.aload_n 0, 1) := by decide +kernel
theorem dX9_on_110 : decode cX9_on 110 = .ok (.getfield 35, 3) := by decide +kernel
theorem dX9_on_113 : decode cX9_on 113 = .ok (.iload_n 2, 1) := by decide +kernel
theorem dX9_on_114 : decode cX9_on 114 = .ok (.bipush 30, 2) := by decide +kernel
theorem dX9_on_116 : decode cX9_on 116 = .ok (.isub, 1) := by decide +kernel
theorem dX9_on_117 : decode cX9_on 117 = .ok (.iaload, 1) := by decide +kernel
theorem dX9_on_118 : decode cX9_on 118 = .ok (.istore_n 3, 1) := by decide +kernel
theorem dX9_on_119 : decode cX9_on 119 = .ok (.aload_n 0, 1) := by decide +kernel
theorem dX9_on_120 : decode cX9_on 120 = .ok (.invokevirtual 362, 3) := by decide +kernel
theorem dX9_on_123 : decode cX9_on 123 = .ok (.iload_n 3, 1) := by decide +kernel
theorem dX9_on_124 : decode cX9_on 124 = .ok (.ireturn, 1) := by decide +kernel
theorem dX9_divisor_0 : decode cX9_divisor 0 = .ok (.iload_n 1, 1) := by decide +kernel
theorem dX9_divisor_1 : decode cX9_divisor 1 = .ok (.istore_n 3, 1) := by decide +kernel
theorem dX9_divisor_2 : decode cX9_divisor 2 = .ok (.iload_n 2, 1) := by decide +kernel
theorem dX9_divisor_3 : decode cX9_divisor 3 = .ok (.istore 4, 2) := by decide +kernel
theorem dX9_divisor_5 : decode cX9_divisor 5 = .ok (.iload 4, 2) := by decide +kernel
theorem dX9_divisor_7 : decode cX9_divisor 7 = .ok (.ifCond .eq 19, 3) := by decide +kernel
theorem dX9_divisor_10 : decode cX9_divisor 10 = .ok (.iload_n 3, 1) := by decide +kernel
theorem dX9_divisor_11 : decode cX9_divisor 11 = .ok (.iload 4, 2) := by decide +kernel
theorem dX9_divisor_13 : decode cX9_divisor 13 = .ok (.irem, 1) := by decide +kernel
theorem dX9_divisor_14 : decode cX9_divisor 14 = .ok (.istore 5, 2) := by decide +kernel
theorem dX9_divisor_16 : decode cX9_divisor 16 = .ok (.iload 4, 2) := by decide +kernel
theorem dX9_divisor_18 : decode cX9_divisor 18 = .ok (.istore_n 3, 1) := by decide +kernel
theorem dX9_divisor_19 : decode cX9_divisor 19 = .ok (.iload 5, 2) := by decide +kernel
theorem dX9_divisor_21 : decode cX9_divisor 21 = .ok (.istore 4, 2) := by decide +kernel
theorem dX9_divisor_23 : decode cX9_divisor 23 = .ok (.goto (-18), 3) := by decide +kernel
theorem dX9_divisor_26 : decode cX9_divisor 26 = .ok (.iload_n 3, 1) := by decide +kernel
theorem dX9_divisor_27 : decode cX9_divisor 27 = .ok (.ireturn, 1) := by decide +kernel
theorem dX9_lowest_0 : decode cX9_lowest 0 = .ok (.aload_n 0, 1) := by decide +kernel
theorem dX9_lowest_1 : decode cX9_lowest 1 = .ok (.iload_n 1, 1) := by decide +kernel
theorem dX9_lowest_2 : decode cX9_lowest 2 = .ok (.iload_n 2, 1) := by decide +kernel
theorem dX9_lowest_3 : decode cX9_lowest 3 = .ok (.invokevirtual 398, 3) := by decide +kernel
theorem dX9_lowest_6 : decode cX9_lowest 6 = .ok (.istore 4, 2) := by decide +kernel
theorem dX9_lowest_8 : decode cX9_lowest 8 = .ok (.iload_n 3, 1) := by decide +kernel
theorem dX9_lowest_9 : decode cX9_lowest 9 = .ok (.ifCond .ne 11, 3) := by decide +kernel
theorem dX9_lowest_12 : decode cX9_lowest 12 = .ok (.iload_n 1, 1) := by decide +kernel
theorem dX9_lowest_13 : decode cX9_lowest 13 = .ok (.iload 4, 2) := by decide +kernel
theorem dX9_lowest_15 : decode cX9_lowest 15 = .ok (.idiv, 1) := by decide +kernel
theorem dX9_lowest_16 : decode cX9_lowest 16 = .ok (.i2l, 1) := by decide +kernel
theorem dX9_lowest_17 : decode cX9_lowest 17 = .ok (.goto 8, 3) := by decide +kernel
theorem dX9_lowest_20 : decode cX9_lowest 20 = .ok (.iload_n 2, 1) := by decide +kernel
theorem dX9_lowest_21 : decode cX9_lowest 21 = .ok (.iload 4, 2) := by decide +kernel
theorem dX9_lowest_23 : decode cX9_lowest 23 = .ok (.idiv, 1) := by decide +kernel
theorem dX9_lowest_24 : decode cX9_lowest 24 = .ok (.i2l, 1) := by decide +kernel
theorem dX9_lowest_25 : decode cX9_lowest 25 = .ok (.lreturn, 1) := by decide +kernel
theorem dX9_odds_0 : decode cX9_odds 0 = .ok (.aload_n 0, 1) := by decide +kernel
theorem dX9_odds_1 : decode cX9_odds 1 = .ok (.iload_n 1, 1) := by decide +kernel
theorem dX9_odds_2 : decode cX9_odds 2 = .ok (.invokevirtual 245, 3) := by decide +kernel
theorem dX9_odds_5 : decode cX9_odds 5 = .ok (.ifCond .eq 13, 3) := by decide +kernel
theorem dX9_odds_8 : decode cX9_odds 8 = .ok (.aload_n 0, 1) := by decide +kernel
theorem dX9_odds_9 : decode cX9_odds 9 = .ok (.iload_n 2, 1) := by decide +kernel
theorem dX9_odds_10 : decode cX9_odds 10 = .ok (.iconst 0, 1) := by decide +kernel
theorem dX9_odds_11 : decode cX9_odds 11 = .ok (.iconst 1, 1) := by decide +kernel
theorem dX9_odds_12 : decode cX9_odds 12 = .ok (.invokevirtual 237, 3) := by decide +kernel
theorem dX9_odds_15 : decode cX9_odds 15 = .ok (.ifCond .ne 7, 3) := by decide +kernel
theorem dX9_odds_18 : decode cX9_odds 18 = .ok (.ldc2_w 401, 3) := by decide +kernel
theorem dX9_odds_21 : decode cX9_odds 21 = .ok (.lreturn, 1) := by decide +kernel
theorem dX9_odds_22 : decode cX9_odds 22 = .ok (.aload_n 0, 1) := by decide +kernel
theorem dX9_odds_23 : decode cX9_odds 23 = .ok (.iload_n 1, 1) := by decide +kernel
theorem dX9_odds_24 : decode cX9_odds 24 = .ok (.invokevirtual 340, 3) := by decide +kernel
theorem dX9_odds_27 : decode cX9_odds 27 = .ok (.istore_n 3, 1) := by decide +kernel
theorem dX9_odds_28 : decode cX9_odds 28 = .ok (.iconst 0, 1) := by decide +kernel
theorem dX9_odds_29 : decode cX9_odds 29 = .ok (.istore 4, 2) := by decide +kernel
theorem dX9_odds_31 : decode cX9_odds 31 = .ok (.iconst 0, 1) := by decide +kernel
theorem dX9_odds_32 : decode cX9_odds 32 = .ok (.istore 5, 2) := by decide +kernel
theorem dX9_odds_34 : decode cX9_odds 34 = .ok (.iload 5, 2) := by decide +kernel
theorem dX9_odds_36 : decode cX9_odds 36 = .ok (.bipush 16, 2) := by decide +kernel
theorem dX9_odds_38 : decode cX9_odds 38 = .ok (.if_icmp .ge 35, 3) := by decide +kernel
theorem dX9_odds_41 : decode cX9_odds 41 = .ok (.iload 4, 2) := by decide +kernel
theorem dX9_odds_43 : decode cX9_odds 43 = .ok (.aload_n 0, 1) := by decide +kernel
theorem dX9_odds_44 : decode cX9_odds 44 = .ok (.iload_n 3, 1) := by decide +kernel
theorem dX9_odds_45 : decode cX9_odds 45 = .ok (.aload_n 0, 1) := by decide +kernel
theorem dX9_odds_46 : decode cX9_odds 46 = .ok (.getfield 26, 3) := by decide +kernel
theorem dX9_odds_49 : decode cX9_odds 49 = .ok (.iload_n 1, 1) := by decide +kernel
theorem dX9_odds_50 : decode cX9_odds 50 = .ok (.iaload, 1) := by decide +kernel
theorem dX9_odds_51 : decode cX9_odds 51 = .ok (.iload 5, 2) := by decide +kernel
theorem dX9_odds_53 : decode cX9_odds 53 = .ok (.invokevirtual 334, 3) := by decide +kernel
theorem dX9_odds_56 : decode cX9_odds 56 = .ok (.ifCond .lt 7, 3) := by decide +kernel
theorem dX9_odds_59 : decode cX9_odds 59 = .ok (.iconst 1, 1) := by decide +kernel
theorem dX9_odds_60 : decode cX9_odds 60 = .ok (.goto 4, 3) := by decide +kernel
theorem dX9_odds_63 : decode cX9_odds 63 = .ok (.iconst 0, 1) := by decide +kernel
theorem dX9_odds_64 : decode cX9_odds 64 = .ok (.iadd, 1) := by decide +kernel
theorem dX9_odds_65 : decode cX9_odds 65 = .ok (.istore 4, 2) := by decide +kernel
theorem dX9_odds_67 : decode cX9_odds 67 = .ok (.iinc 5 1, 3) := by decide +kernel
theorem dX9_odds_70 : decode cX9_odds 70 = .ok (.goto (-36), 3) := by decide +kernel
theorem dX9_odds_73 : decode cX9_odds 73 = .ok (.aload_n 0, 1) := by decide +kernel
theorem dX9_odds_74 : decode cX9_odds 74 = .ok (.iload 4, 2) := by decide +kernel
theorem dX9_odds_76 : decode cX9_odds 76 = .ok (.bipush 16, 2) := by decide +kernel
theorem dX9_odds_78 : decode cX9_odds 78 = .ok (.iload_n 2, 1) := by decide +kernel
theorem dX9_odds_79 : decode cX9_odds 79 = .ok (.invokevirtual 403, 3) := by decide +kernel
theorem dX9_odds_82 : decode cX9_odds 82 = .ok (.lreturn, 1) := by decide +kernel
theorem dX9_mean_0 : decode cX9_mean 0 = .ok (.aload_n 0, 1) := by decide +kernel
theorem dX9_mean_1 : decode cX9_mean 1 = .ok (.iload_n 1, 1) := by decide +kernel
theorem dX9_mean_2 : decode cX9_mean 2 = .ok (.iconst 0, 1) := by decide +kernel
theorem dX9_mean_3 : decode cX9_mean 3 = .ok (.iconst 1, 1) := by decide +kernel
theorem dX9_mean_4 : decode cX9_mean 4 = .ok (.invokevirtual 237, 3) := by decide +kernel
theorem dX9_mean_7 : decode cX9_mean 7 = .ok (.ifCond .eq 10, 3) := by decide +kernel
theorem dX9_mean_10 : decode cX9_mean 10 = .ok (.aload_n 0, 1) := by decide +kernel
theorem dX9_mean_11 : decode cX9_mean 11 = .ok (.getfield 7, 3) := by decide +kernel
theorem dX9_mean_14 : decode cX9_mean 14 = .ok (.ifCond .ne 7, 3) := by decide +kernel
theorem dX9_mean_17 : decode cX9_mean 17 = .ok (.ldc2_w 401, 3) := by decide +kernel
theorem dX9_mean_20 : decode cX9_mean 20 = .ok (.lreturn, 1) := by decide +kernel
theorem dX9_mean_21 : decode cX9_mean 21 = .ok (.iconst 0, 1) := by decide +kernel
theorem dX9_mean_22 : decode cX9_mean 22 = .ok (.istore_n 2, 1) := by decide +kernel
theorem dX9_mean_23 : decode cX9_mean 23 = .ok (.iconst 0, 1) := by decide +kernel
theorem dX9_mean_24 : decode cX9_mean 24 = .ok (.istore_n 3, 1) := by decide +kernel
theorem dX9_mean_25 : decode cX9_mean 25 = .ok (.iload_n 3, 1) := by decide +kernel
theorem dX9_mean_26 : decode cX9_mean 26 = .ok (.aload_n 0, 1) := by decide +kernel
theorem dX9_mean_27 : decode cX9_mean 27 = .ok (.getfield 7, 3) := by decide +kernel
theorem dX9_mean_30 : decode cX9_mean 30 = .ok (.if_icmp .ge 22, 3) := by decide +kernel
theorem dX9_mean_33 : decode cX9_mean 33 = .ok (.iload_n 2, 1) := by decide +kernel
theorem dX9_mean_34 : decode cX9_mean 34 = .ok (.aload_n 0, 1) := by decide +kernel
theorem dX9_mean_35 : decode cX9_mean 35 = .ok (.aload_n 0, 1) := by decide +kernel
theorem dX9_mean_36 : decode cX9_mean 36 = .ok (.getfield 32, 3) := by decide +kernel
theorem dX9_mean_39 : decode cX9_mean 39 = .ok (.iload_n 3, 1) := by decide +kernel
theorem dX9_mean_40 : decode cX9_mean 40 = .ok (.iaload, 1) := by decide +kernel
theorem dX9_mean_41 : decode cX9_mean 41 = .ok (.invokevirtual 315, 3) := by decide +kernel
theorem dX9_mean_44 : decode cX9_mean 44 = .ok (.iadd, 1) := by decide +kernel
theorem dX9_mean_45 : decode cX9_mean 45 = .ok (.istore_n 2, 1) := by decide +kernel
theorem dX9_mean_46 : decode cX9_mean 46 = .ok (.iinc 3 1, 3) := by decide +kernel
theorem dX9_mean_49 : decode cX9_mean 49 = .ok (.goto (-24), 3) := by decide +kernel
theorem dX9_mean_52 : decode cX9_mean 52 = .ok (.aload_n 0, 1) := by decide +kernel
theorem dX9_mean_53 : decode cX9_mean 53 = .ok (.iload_n 2, 1) := by decide +kernel
theorem dX9_mean_54 : decode cX9_mean 54 = .ok (.aload_n 0, 1) := by decide +kernel
theorem dX9_mean_55 : decode cX9_mean 55 = .ok (.getfield 7, 3) := by decide +kernel
theorem dX9_mean_58 : decode cX9_mean 58 = .ok (.iload_n 1, 1) := by decide +kernel
theorem dX9_mean_59 : decode cX9_mean 59 = .ok (.invokevirtual 403, 3) := by decide +kernel
theorem dX9_mean_62 : decode cX9_mean 62 = .ok (.lreturn, 1) := by decide +kernel
theorem dX9_plan_0 : decode cX9_plan 0 = .ok (.iload_n 1, 1) := by decide +kernel
theorem dX9_plan_1 : decode cX9_plan 1 = .ok (.iconst (-1), 1) := by decide +kernel
theorem dX9_plan_2 : decode cX9_plan 2 = .ok (.if_icmp .ne 10, 3) := by decide +kernel
theorem dX9_plan_5 : decode cX9_plan 5 = .ok (.aload_n 0, 1) := by decide +kernel
theorem dX9_plan_6 : decode cX9_plan 6 = .ok (.iconst 0, 1) := by decide +kernel
theorem dX9_plan_7 : decode cX9_plan 7 = .ok (.putfield 129, 3) := by decide +kernel
theorem dX9_plan_10 : decode cX9_plan 10 = .ok (.iconst 0, 1) := by decide +kernel
theorem dX9_plan_11 : decode cX9_plan 11 = .ok (.ireturn, 1) := by decide +kernel
theorem dX9_plan_12 : decode cX9_plan 12 = .ok (.aload_n 0, 1) := by decide +kernel
theorem dX9_plan_13 : decode cX9_plan 13 = .ok (.iload_n 1, 1) := by decide +kernel
theorem dX9_plan_14 : decode cX9_plan 14 = .ok (.iconst 0, 1) := by decide +kernel
theorem dX9_plan_15 : decode cX9_plan 15 = .ok (.iconst 3, 1) := by decide +kernel
theorem dX9_plan_16 : decode cX9_plan 16 = .ok (.invokevirtual 237, 3) := by decide +kernel
theorem dX9_plan_19 : decode cX9_plan 19 = .ok (.ifCond .eq 49, 3) := by decide +kernel
theorem dX9_plan_22 : decode cX9_plan 22 = .ok (.iload_n 1, 1) := by decide +kernel
theorem dX9_plan_23 : decode cX9_plan 23 = .ok (.iconst 2, 1) := by decide +kernel
theorem dX9_plan_24 : decode cX9_plan 24 = .ok (.irem, 1) := by decide +kernel
theorem dX9_plan_25 : decode cX9_plan 25 = .ok (.iconst 1, 1) := by decide +kernel
theorem dX9_plan_26 : decode cX9_plan 26 = .ok (.if_icmp .ne 11, 3) := by decide +kernel
theorem dX9_plan_29 : decode cX9_plan 29 = .ok (.aload_n 0, 1) := by decide +kernel
theorem dX9_plan_30 : decode cX9_plan 30 = .ok (.iload_n 2, 1) := by decide +kernel
theorem dX9_plan_31 : decode cX9_plan 31 = .ok (.invokevirtual 245, 3) := by decide +kernel
theorem dX9_plan_34 : decode cX9_plan 34 = .ok (.ifCond .eq 34, 3) := by decide +kernel
theorem dX9_plan_37 : decode cX9_plan 37 = .ok (.iload_n 1, 1) := by decide +kernel
theorem dX9_plan_38 : decode cX9_plan 38 = .ok (.iconst 2, 1) := by decide +kernel
theorem dX9_plan_39 : decode cX9_plan 39 = .ok (.if_icmp .ne 31, 3) := by decide +kernel
theorem dX9_plan_42 : decode cX9_plan 42 = .ok (.iload_n 2, 1) := by decide +kernel
theorem dX9_plan_43 : decode cX9_plan 43 = .ok (.ifCond .lt 25, 3) := by decide +kernel
theorem dX9_plan_46 : decode cX9_plan 46 = .ok (.aload_n 0, 1) := by decide +kernel
theorem dX9_plan_47 : decode cX9_plan 47 = .ok (.iload_n 2, 1) := by decide +kernel
theorem dX9_plan_48 : decode cX9_plan 48 = .ok (.bipush 10, 2) := by decide +kernel
theorem dX9_plan_50 : decode cX9_plan 50 = .ok (.idiv, 1) := by decide +kernel
theorem dX9_plan_51 : decode cX9_plan 51 = .ok (.invokevirtual 245, 3) := by decide +kernel
theorem dX9_plan_54 : decode cX9_plan 54 = .ok (.ifCond .eq 14, 3) := by decide +kernel
theorem dX9_plan_57 : decode cX9_plan 57 = .ok (.aload_n 0, 1) := by decide +kernel
theorem dX9_plan_58 : decode cX9_plan 58 = .ok (.iload_n 2, 1) := by decide +kernel
theorem dX9_plan_59 : decode cX9_plan 59 = .ok (.bipush 10, 2) := by decide +kernel
theorem dX9_plan_61 : decode cX9_plan 61 = .ok (.irem, 1) := by decide +kernel
theorem dX9_plan_62 : decode cX9_plan 62 = .ok (.invokevirtual 245, 3) := by decide +kernel
theorem dX9_plan_65 : decode cX9_plan 65 = .ok (.ifCond .ne 5, 3) := by decide +kernel
theorem dX9_plan_68 : decode cX9_plan 68 = .ok (.iconst (-1), 1) := by decide +kernel
theorem dX9_plan_69 : decode cX9_plan 69 = .ok (.ireturn, 1) := by decide +kernel
theorem dX9_plan_70 : decode cX9_plan 70 = .ok (.aload_n 0, 1) := by decide +kernel
theorem dX9_plan_71 : decode cX9_plan 71 = .ok (.getfield 129, 3) := by decide +kernel
theorem dX9_plan_74 : decode cX9_plan 74 = .ok (.bipush 8, 2) := by decide +kernel
theorem dX9_plan_76 : decode cX9_plan 76 = .ok (.if_icmp .ne 6, 3) := by decide +kernel
theorem dX9_plan_79 : decode cX9_plan 79 = .ok (.bipush (-4), 2) := by decide +kernel
theorem dX9_plan_81 : decode cX9_plan 81 = .ok (.ireturn, 1) := by decide +kernel
theorem dX9_plan_82 : decode cX9_plan 82 = .ok (.aload_n 0, 1) := by decide +kernel
theorem dX9_plan_83 : decode cX9_plan 83 = .ok (.getfield 135, 3) := by decide +kernel
theorem dX9_plan_86 : decode cX9_plan 86 = .ok (.aload_n 0, 1) := by decide +kernel
theorem dX9_plan_87 : decode cX9_plan 87 = .ok (.getfield 129, 3) := by decide +kernel
theorem dX9_plan_90 : decode cX9_plan 90 = .ok (.iload_n 1, 1) := by decide +kernel
theorem dX9_plan_91 : decode cX9_plan 91 = .ok (.iastore, 1) := by decide +kernel
theorem dX9_plan_92 : decode cX9_plan 92 = .ok (.aload_n 0, 1) := by decide +kernel
theorem dX9_plan_93 : decode cX9_plan 93 = .ok (.getfield 138, 3) := by decide +kernel
theorem dX9_plan_96 : decode cX9_plan 96 = .ok (.aload_n 0, 1) := by decide +kernel
theorem dX9_plan_97 : decode cX9_plan 97 = .ok (.getfield 129, 3) := by decide +kernel
theorem dX9_plan_100 : decode cX9_plan 100 = .ok (.iload_n 1, 1) := by decide +kernel
theorem dX9_plan_101 : decode cX9_plan 101 = .ok (.ifCond .le 7, 3) := by decide +kernel
theorem dX9_plan_104 : decode cX9_plan 104 = .ok (.iload_n 2, 1) := by decide +kernel
theorem dX9_plan_105 : decode cX9_plan 105 = .ok (.goto 4, 3) := by decide +kernel
theorem dX9_plan_108 : decode cX9_plan 108 = .ok (.iconst 0, 1) := by decide +kernel
theorem dX9_plan_109 : decode cX9_plan 109 = .ok (.iastore, 1) := by decide +kernel
theorem dX9_plan_110 : decode cX9_plan 110 = .ok (.aload_n 0, 1) := by decide +kernel
theorem dX9_plan_111 : decode cX9_plan 111 = .ok (.dup, 1) := by decide +kernel
theorem dX9_plan_112 : decode cX9_plan 112 = .ok (.getfield 129, 3) := by decide +kernel
theorem dX9_plan_115 : decode cX9_plan 115 = .ok (.iconst 1, 1) := by decide +kernel
theorem dX9_plan_116 : decode cX9_plan 116 = .ok (.iadd, 1) := by decide +kernel
theorem dX9_plan_117 : decode cX9_plan 117 = .ok (.putfield 129, 3) := by decide +kernel
theorem dX9_plan_120 : decode cX9_plan 120 = .ok (.aload_n 0, 1) := by decide +kernel
theorem dX9_plan_121 : decode cX9_plan 121 = .ok (.getfield 129, 3) := by decide +kernel
theorem dX9_plan_124 : decode cX9_plan 124 = .ok (.ireturn, 1) := by decide +kernel
theorem dX9_goPlan_0 : decode cX9_goPlan 0 = .ok (.iload_n 1, 1) := by decide +kernel
theorem dX9_goPlan_1 : decode cX9_goPlan 1 = .ok (.ifCond .ne 7, 3) := by decide +kernel
theorem dX9_goPlan_4 : decode cX9_goPlan 4 = .ok (.aload_n 0, 1) := by decide +kernel
theorem dX9_goPlan_5 : decode cX9_goPlan 5 = .ok (.invokevirtual 349, 3) := by decide +kernel
theorem dX9_goPlan_8 : decode cX9_goPlan 8 = .ok (.iload_n 1, 1) := by decide +kernel
theorem dX9_goPlan_9 : decode cX9_goPlan 9 = .ok (.iconst 1, 1) := by decide +kernel
theorem dX9_goPlan_10 : decode cX9_goPlan 10 = .ok (.if_icmp .ne 10, 3) := by decide +kernel
theorem dX9_goPlan_13 : decode cX9_goPlan 13 = .ok (.aload_n 0, 1) := by decide +kernel
theorem dX9_goPlan_14 : decode cX9_goPlan 14 = .ok (.getfield 32, 3) := by decide +kernel
theorem dX9_goPlan_17 : decode cX9_goPlan 17 = .ok (.iload_n 2, 1) := by decide +kernel
theorem dX9_goPlan_18 : decode cX9_goPlan 18 = .ok (.iconst 0, 1) := by decide +kernel
theorem dX9_goPlan_19 : decode cX9_goPlan 19 = .ok (.iastore, 1) := by decide +kernel
theorem dX9_goPlan_20 : decode cX9_goPlan 20 = .ok (.iload_n 1, 1) := by decide +kernel
theorem dX9_goPlan_21 : decode cX9_goPlan 21 = .ok (.iconst 2, 1) := by decide +kernel
theorem dX9_goPlan_22 : decode cX9_goPlan 22 = .ok (.if_icmp .ne 24, 3) := by decide +kernel
theorem dX9_goPlan_25 : decode cX9_goPlan 25 = .ok (.aload_n 0, 1) := by decide +kernel
theorem dX9_goPlan_26 : decode cX9_goPlan 26 = .ok (.getfield 32, 3) := by decide +kernel
theorem dX9_goPlan_29 : decode cX9_goPlan 29 = .ok (.iload_n 2, 1) := by decide +kernel
theorem dX9_goPlan_30 : decode cX9_goPlan 30 = .ok (.bipush 10, 2) := by decide +kernel
theorem dX9_goPlan_32 : decode cX9_goPlan 32 = .ok (.idiv, 1) := by decide +kernel
theorem dX9_goPlan_33 : decode cX9_goPlan 33 = .ok (.dup2, 1) := by decide +kernel
theorem dX9_goPlan_34 : decode cX9_goPlan 34 = .ok (.iaload, 1) := by decide +kernel
theorem dX9_goPlan_35 : decode cX9_goPlan 35 = .ok (.aload_n 0, 1) := by decide +kernel
theorem dX9_goPlan_36 : decode cX9_goPlan 36 = .ok (.getfield 32, 3) := by decide +kernel
theorem dX9_goPlan_39 : decode cX9_goPlan 39 = .ok (.iload_n 2, 1) := by decide +kernel
theorem dX9_goPlan_40 : decode cX9_goPlan 40 = .ok (.bipush 10, 2) := by decide +kernel
theorem dX9_goPlan_42 : decode cX9_goPlan 42 = .ok (.irem, 1) := by decide +kernel
theorem dX9_goPlan_43 : decode cX9_goPlan 43 = .ok (.iaload, 1) := by decide +kernel
theorem dX9_goPlan_44 : decode cX9_goPlan 44 = .ok (.ior, 1) := by decide +kernel
theorem dX9_goPlan_45 : decode cX9_goPlan 45 = .ok (.iastore, 1) := by decide +kernel
theorem dX9_goPlan_46 : decode cX9_goPlan 46 = .ok (.iload_n 1, 1) := by decide +kernel
theorem dX9_goPlan_47 : decode cX9_goPlan 47 = .ok (.iconst 3, 1) := by decide +kernel
theorem dX9_goPlan_48 : decode cX9_goPlan 48 = .ok (.if_icmp .ne 11, 3) := by decide +kernel
theorem dX9_goPlan_51 : decode cX9_goPlan 51 = .ok (.aload_n 0, 1) := by decide +kernel
theorem dX9_goPlan_52 : decode cX9_goPlan 52 = .ok (.getfield 29, 3) := by decide +kernel
theorem dX9_goPlan_55 : decode cX9_goPlan 55 = .ok (.iload_n 2, 1) := by decide +kernel
theorem dX9_goPlan_56 : decode cX9_goPlan 56 = .ok (.bipush (-5), 2) := by decide +kernel
theorem dX9_goPlan_58 : decode cX9_goPlan 58 = .ok (.iastore, 1) := by decide +kernel
theorem dX9_goPlan_59 : decode cX9_goPlan 59 = .ok (.return_, 1) := by decide +kernel
theorem dX9_ends_0 : decode cX9_ends 0 = .ok (.aload_n 0, 1) := by decide +kernel
theorem dX9_ends_1 : decode cX9_ends 1 = .ok (.iload_n 1, 1) := by decide +kernel
theorem dX9_ends_2 : decode cX9_ends 2 = .ok (.iconst 0, 1) := by decide +kernel
theorem dX9_ends_3 : decode cX9_ends 3 = .ok (.iconst 1, 1) := by decide +kernel
theorem dX9_ends_4 : decode cX9_ends 4 = .ok (.invokevirtual 237, 3) := by decide +kernel
theorem dX9_ends_7 : decode cX9_ends 7 = .ok (.ifCond .ne 5, 3) := by decide +kernel
theorem dX9_ends_10 : decode cX9_ends 10 = .ok (.iconst (-1), 1) := by decide +kernel
theorem dX9_ends_11 : decode cX9_ends 11 = .ok (.ireturn, 1) := by decide +kernel
theorem dX9_ends_12 : decode cX9_ends 12 = .ok (.aload_n 0, 1) := by decide +kernel
theorem dX9_ends_13 : decode cX9_ends 13 = .ok (.invokevirtual 359, 3) := by decide +kernel
theorem dX9_ends_16 : decode cX9_ends 16 = .ok (.iconst 0, 1) := by decide +kernel
theorem dX9_ends_17 : decode cX9_ends 17 = .ok (.istore_n 2, 1) := by decide +kernel
theorem dX9_ends_18 : decode cX9_ends 18 = .ok (.iload_n 2, 1) := by decide +kernel
theorem dX9_ends_19 : decode cX9_ends 19 = .ok (.aload_n 0, 1) := by decide +kernel
theorem dX9_ends_20 : decode cX9_ends 20 = .ok (.getfield 129, 3) := by decide +kernel
theorem dX9_ends_23 : decode cX9_ends 23 = .ok (.if_icmp .ge 25, 3) := by decide +kernel
theorem dX9_ends_26 : decode cX9_ends 26 = .ok (.aload_n 0, 1) := by decide +kernel
theorem dX9_ends_27 : decode cX9_ends 27 = .ok (.aload_n 0, 1) := by decide +kernel
theorem dX9_ends_28 : decode cX9_ends 28 = .ok (.getfield 135, 3) := by decide +kernel
theorem dX9_ends_31 : decode cX9_ends 31 = .ok (.iload_n 2, 1) := by decide +kernel
theorem dX9_ends_32 : decode cX9_ends 32 = .ok (.iaload, 1) := by decide +kernel
theorem dX9_ends_33 : decode cX9_ends 33 = .ok (.aload_n 0, 1) := by decide +kernel
theorem dX9_ends_34 : decode cX9_ends 34 = .ok (.getfield 138, 3) := by decide +kernel
theorem dX9_ends_37 : decode cX9_ends 37 = .ok (.iload_n 2, 1) := by decide +kernel
theorem dX9_ends_38 : decode cX9_ends 38 = .ok (.iaload, 1) := by decide +kernel
theorem dX9_ends_39 : decode cX9_ends 39 = .ok (.invokevirtual 407, 3) := by decide +kernel
theorem dX9_ends_42 : decode cX9_ends 42 = .ok (.iinc 2 1, 3) := by decide +kernel
theorem dX9_ends_45 : decode cX9_ends 45 = .ok (.goto (-27), 3) := by decide +kernel
theorem dX9_ends_48 : decode cX9_ends 48 = .ok (.iload_n 1, 1) := by decide +kernel
theorem dX9_ends_49 : decode cX9_ends 49 = .ok (.ifCond .ne 14, 3) := by decide +kernel
theorem dX9_ends_52 : decode cX9_ends 52 = .ok (.aload_n 0, 1) := by decide +kernel
theorem dX9_ends_53 : decode cX9_ends 53 = .ok (.aload_n 0, 1) := by decide +kernel
theorem dX9_ends_54 : decode cX9_ends 54 = .ok (.invokevirtual 392, 3) := by decide +kernel
theorem dX9_ends_57 : decode cX9_ends 57 = .ok (.invokevirtual 315, 3) := by decide +kernel
theorem dX9_ends_60 : decode cX9_ends 60 = .ok (.goto 7, 3) := by decide +kernel
theorem dX9_ends_63 : decode cX9_ends 63 = .ok (.aload_n 0, 1) := by decide +kernel
theorem dX9_ends_64 : decode cX9_ends 64 = .ok (.invokevirtual 395, 3) := by decide +kernel
theorem dX9_ends_67 : decode cX9_ends 67 = .ok (.istore_n 2, 1) := by decide +kernel
theorem dX9_ends_68 : decode cX9_ends 68 = .ok (.aload_n 0, 1) := by decide +kernel
theorem dX9_ends_69 : decode cX9_ends 69 = .ok (.invokevirtual 362, 3) := by decide +kernel
theorem dX9_ends_72 : decode cX9_ends 72 = .ok (.iload_n 2, 1) := by decide +kernel
theorem dX9_ends_73 : decode cX9_ends 73 = .ok (.ireturn, 1) := by decide +kernel
theorem dX9_book_0 : decode cX9_book 0 = .ok (.iload_n 1, 1) := by decide +kernel
theorem dX9_book_1 : decode cX9_book 1 = .ok (.iconst (-1), 1) := by decide +kernel
theorem dX9_book_2 : decode cX9_book 2 = .ok (.if_icmp .ne 10, 3) := by decide +kernel
theorem dX9_book_5 : decode cX9_book 5 = .ok (.aload_n 0, 1) := by decide +kernel
theorem dX9_book_6 : decode cX9_book 6 = .ok (.iconst 0, 1) := by decide +kernel
theorem dX9_book_7 : decode cX9_book 7 = .ok (.putfield 132, 3) := by decide +kernel
theorem dX9_book_10 : decode cX9_book 10 = .ok (.iconst 0, 1) := by decide +kernel
theorem dX9_book_11 : decode cX9_book 11 = .ok (.ireturn, 1) := by decide +kernel
theorem dX9_book_12 : decode cX9_book 12 = .ok (.aload_n 0, 1) := by decide +kernel
theorem dX9_book_13 : decode cX9_book 13 = .ok (.iload_n 1, 1) := by decide +kernel
theorem dX9_book_14 : decode cX9_book 14 = .ok (.invokevirtual 245, 3) := by decide +kernel
theorem dX9_book_17 : decode cX9_book 17 = .ok (.ifCond .ne 5, 3) := by decide +kernel
theorem dX9_book_20 : decode cX9_book 20 = .ok (.iconst (-1), 1) := by decide +kernel
theorem dX9_book_21 : decode cX9_book 21 = .ok (.ireturn, 1) := by decide +kernel
theorem dX9_book_22 : decode cX9_book 22 = .ok (.aload_n 0, 1) := by decide +kernel
theorem dX9_book_23 : decode cX9_book 23 = .ok (.iload_n 2, 1) := by decide +kernel
theorem dX9_book_24 : decode cX9_book 24 = .ok (.iconst 0, 1) := by decide +kernel
theorem dX9_book_25 : decode cX9_book 25 = .ok (.ldc 248, 2) := by decide +kernel
theorem dX9_book_27 : decode cX9_book 27 = .ok (.invokevirtual 237, 3) := by decide +kernel
theorem dX9_book_30 : decode cX9_book 30 = .ok (.ifCond .ne 6, 3) := by decide +kernel
theorem dX9_book_33 : decode cX9_book 33 = .ok (.bipush (-2), 2) := by decide +kernel
theorem dX9_book_35 : decode cX9_book 35 = .ok (.ireturn, 1) := by decide +kernel
theorem dX9_book_36 : decode cX9_book 36 = .ok (.aload_n 0, 1) := by decide +kernel
theorem dX9_book_37 : decode cX9_book 37 = .ok (.getfield 132, 3) := by decide +kernel
theorem dX9_book_40 : decode cX9_book 40 = .ok (.bipush 8, 2) := by decide +kernel
theorem dX9_book_42 : decode cX9_book 42 = .ok (.if_icmp .ne 6, 3) := by decide +kernel
theorem dX9_book_45 : decode cX9_book 45 = .ok (.bipush (-4), 2) := by decide +kernel
theorem dX9_book_47 : decode cX9_book 47 = .ok (.ireturn, 1) := by decide +kernel
theorem dX9_book_48 : decode cX9_book 48 = .ok (.aload_n 0, 1) := by decide +kernel
theorem dX9_book_49 : decode cX9_book 49 = .ok (.getfield 141, 3) := by decide +kernel
theorem dX9_book_52 : decode cX9_book 52 = .ok (.aload_n 0, 1) := by decide +kernel
theorem dX9_book_53 : decode cX9_book 53 = .ok (.getfield 132, 3) := by decide +kernel
theorem dX9_book_56 : decode cX9_book 56 = .ok (.iload_n 1, 1) := by decide +kernel
theorem dX9_book_57 : decode cX9_book 57 = .ok (.iastore, 1) := by decide +kernel
theorem dX9_book_58 : decode cX9_book 58 = .ok (.aload_n 0, 1) := by decide +kernel
theorem dX9_book_59 : decode cX9_book 59 = .ok (.getfield 144, 3) := by decide +kernel
theorem dX9_book_62 : decode cX9_book 62 = .ok (.aload_n 0, 1) := by decide +kernel
theorem dX9_book_63 : decode cX9_book 63 = .ok (.getfield 132, 3) := by decide +kernel
theorem dX9_book_66 : decode cX9_book 66 = .ok (.iload_n 2, 1) := by decide +kernel
theorem dX9_book_67 : decode cX9_book 67 = .ok (.iastore, 1) := by decide +kernel
theorem dX9_book_68 : decode cX9_book 68 = .ok (.aload_n 0, 1) := by decide +kernel
theorem dX9_book_69 : decode cX9_book 69 = .ok (.dup, 1) := by decide +kernel
theorem dX9_book_70 : decode cX9_book 70 = .ok (.getfield 132, 3) := by decide +kernel
theorem dX9_book_73 : decode cX9_book 73 = .ok (.iconst 1, 1) := by decide +kernel
theorem dX9_book_74 : decode cX9_book 74 = .ok (.iadd, 1) := by decide +kernel
theorem dX9_book_75 : decode cX9_book 75 = .ok (.putfield 132, 3) := by decide +kernel
theorem dX9_book_78 : decode cX9_book 78 = .ok (.aload_n 0, 1) := by decide +kernel
theorem dX9_book_79 : decode cX9_book 79 = .ok (.getfield 132, 3) := by decide +kernel
theorem dX9_book_82 : decode cX9_book 82 = .ok (.ireturn, 1) := by decide +kernel
theorem dX9_looked_0 : decode cX9_looked 0 = .ok (.iconst 0, 1) := by decide +kernel
theorem dX9_looked_1 : decode cX9_looked 1 = .ok (.istore_n 1, 1) := by decide +kernel
theorem dX9_looked_2 : decode cX9_looked 2 = .ok (.iload_n 1, 1) := by decide +kernel
theorem dX9_looked_3 : decode cX9_looked 3 = .ok (.aload_n 0, 1) := by decide +kernel
theorem dX9_looked_4 : decode cX9_looked 4 = .ok (.getfield 132, 3) := by decide +kernel
theorem dX9_looked_7 : decode cX9_looked 7 = .ok (.if_icmp .ge 31, 3) := by decide +kernel
theorem dX9_looked_10 : decode cX9_looked 10 = .ok (.aload_n 0, 1) := by decide +kernel
theorem dX9_looked_11 : decode cX9_looked 11 = .ok (.getfield 32, 3) := by decide +kernel
theorem dX9_looked_14 : decode cX9_looked 14 = .ok (.aload_n 0, 1) := by decide +kernel
theorem dX9_looked_15 : decode cX9_looked 15 = .ok (.getfield 141, 3) := by decide +kernel
theorem dX9_looked_18 : decode cX9_looked 18 = .ok (.iload_n 1, 1) := by decide +kernel
theorem dX9_looked_19 : decode cX9_looked 19 = .ok (.iaload, 1) := by decide +kernel
theorem dX9_looked_20 : decode cX9_looked 20 = .ok (.iaload, 1) := by decide +kernel
theorem dX9_looked_21 : decode cX9_looked 21 = .ok (.aload_n 0, 1) := by decide +kernel
theorem dX9_looked_22 : decode cX9_looked 22 = .ok (.getfield 144, 3) := by decide +kernel
theorem dX9_looked_25 : decode cX9_looked 25 = .ok (.iload_n 1, 1) := by decide +kernel
theorem dX9_looked_26 : decode cX9_looked 26 = .ok (.iaload, 1) := by decide +kernel
theorem dX9_looked_27 : decode cX9_looked 27 = .ok (.if_icmp .eq 5, 3) := by decide +kernel
theorem dX9_looked_30 : decode cX9_looked 30 = .ok (.iload_n 1, 1) := by decide +kernel
theorem dX9_looked_31 : decode cX9_looked 31 = .ok (.ireturn, 1) := by decide +kernel
theorem dX9_looked_32 : decode cX9_looked 32 = .ok (.iinc 1 1, 3) := by decide +kernel
theorem dX9_looked_35 : decode cX9_looked 35 = .ok (.goto (-33), 3) := by decide +kernel
theorem dX9_looked_38 : decode cX9_looked 38 = .ok (.bipush (-5), 2) := by decide +kernel
theorem dX9_looked_40 : decode cX9_looked 40 = .ok (.ireturn, 1) := by decide +kernel
theorem dX9_judge_0 : decode cX9_judge 0 = .ok (.aload_n 0, 1) := by decide +kernel
theorem dX9_judge_1 : decode cX9_judge 1 = .ok (.iload_n 1, 1) := by decide +kernel
theorem dX9_judge_2 : decode cX9_judge 2 = .ok (.invokevirtual 410, 3) := by decide +kernel
theorem dX9_judge_5 : decode cX9_judge 5 = .ok (.ifCond .ne 5, 3) := by decide +kernel
theorem dX9_judge_8 : decode cX9_judge 8 = .ok (.iconst (-1), 1) := by decide +kernel
theorem dX9_judge_9 : decode cX9_judge 9 = .ok (.ireturn, 1) := by decide +kernel
theorem dX9_judge_10 : decode cX9_judge 10 = .ok (.aload_n 0, 1) := by decide +kernel
theorem dX9_judge_11 : decode cX9_judge 11 = .ok (.getfield 220, 3) := by decide +kernel
theorem dX9_judge_14 : decode cX9_judge 14 = .ok (.iload_n 1, 1) := by decide +kernel
theorem dX9_judge_15 : decode cX9_judge 15 = .ok (.iaload, 1) := by decide +kernel
theorem dX9_judge_16 : decode cX9_judge 16 = .ok (.ifCond .le 6, 3) := by decide +kernel
theorem dX9_judge_19 : decode cX9_judge 19 = .ok (.bipush (-12), 2) := by decide +kernel
theorem dX9_judge_21 : decode cX9_judge 21 = .ok (.ireturn, 1) := by decide +kernel
theorem dX9_judge_22 : decode cX9_judge 22 = .ok (.iconst 0, 1) := by decide +kernel
theorem dX9_judge_23 : decode cX9_judge 23 = .ok (.istore_n 3, 1) := by decide +kernel
theorem dX9_judge_24 : decode cX9_judge 24 = .ok (.iload_n 3, 1) := by decide +kernel
theorem dX9_judge_25 : decode cX9_judge 25 = .ok (.bipush 16, 2) := by decide +kernel
theorem dX9_judge_27 : decode cX9_judge 27 = .ok (.if_icmp .ge 67, 3) := by decide +kernel
theorem dX9_judge_30 : decode cX9_judge 30 = .ok (.aload_n 0, 1) := by decide +kernel
theorem dX9_judge_31 : decode cX9_judge 31 = .ok (.getfield 220, 3) := by decide +kernel
theorem dX9_judge_34 : decode cX9_judge 34 = .ok (.iload_n 1, 1) := by decide +kernel
theorem dX9_judge_35 : decode cX9_judge 35 = .ok (.iaload, 1) := by decide +kernel
theorem dX9_judge_36 : decode cX9_judge 36 = .ok (.ifCond .lt 21, 3) := by decide +kernel
theorem dX9_judge_39 : decode cX9_judge 39 = .ok (.iload_n 2, 1) := by decide +kernel
theorem dX9_judge_40 : decode cX9_judge 40 = .ok (.ifCond .lt 17, 3) := by decide +kernel
theorem dX9_judge_43 : decode cX9_judge 43 = .ok (.iload_n 2, 1) := by decide +kernel
theorem dX9_judge_44 : decode cX9_judge 44 = .ok (.aload_n 0, 1) := by decide +kernel
theorem dX9_judge_45 : decode cX9_judge 45 = .ok (.getfield 223, 3) := by decide +kernel
theorem dX9_judge_48 : decode cX9_judge 48 = .ok (.iload_n 1, 1) := by decide +kernel
theorem dX9_judge_49 : decode cX9_judge 49 = .ok (.iaload, 1) := by decide +kernel
theorem dX9_judge_50 : decode cX9_judge 50 = .ok (.iload_n 3, 1) := by decide +kernel
theorem dX9_judge_51 : decode cX9_judge 51 = .ok (.isub, 1) := by decide +kernel
theorem dX9_judge_52 : decode cX9_judge 52 = .ok (.iconst 1, 1) := by decide +kernel
theorem dX9_judge_53 : decode cX9_judge 53 = .ok (.isub, 1) := by decide +kernel
theorem dX9_judge_54 : decode cX9_judge 54 = .ok (.if_icmp .le 8, 3) := by decide +kernel
theorem dX9_judge_57 : decode cX9_judge 57 = .ok (.bipush 100, 2) := by decide +kernel
theorem dX9_judge_59 : decode cX9_judge 59 = .ok (.iload_n 3, 1) := by decide +kernel
theorem dX9_judge_60 : decode cX9_judge 60 = .ok (.iadd, 1) := by decide +kernel
theorem dX9_judge_61 : decode cX9_judge 61 = .ok (.ireturn, 1) := by decide +kernel
theorem dX9_judge_62 : decode cX9_judge 62 = .ok (.aload_n 0, 1) := by decide +kernel
theorem dX9_judge_63 : decode cX9_judge 63 = .ok (.getfield 226, 3) := by decide +kernel
theorem dX9_judge_66 : decode cX9_judge 66 = .ok (.bipush 60, 2) := by decide +kernel
theorem dX9_judge_68 : decode cX9_judge 68 = .ok (.iload_n 1, 1) := by decide +kernel
theorem dX9_judge_69 : decode cX9_judge 69 = .ok (.imul, 1) := by decide +kernel
theorem dX9_judge_70 : decode cX9_judge 70 = .ok (.iload_n 2, 1) := by decide +kernel
theorem dX9_judge_71 : decode cX9_judge 71 = .ok (.iadd, 1) := by decide +kernel
theorem dX9_judge_72 : decode cX9_judge 72 = .ok (.iload_n 3, 1) := by decide +kernel
theorem dX9_judge_73 : decode cX9_judge 73 = .ok (.iadd, 1) := by decide +kernel
theorem dX9_judge_74 : decode cX9_judge 74 = .ok (.laload, 1) := by decide +kernel
theorem dX9_judge_75 : decode cX9_judge 75 = .ok (.aload_n 0, 1) := by decide +kernel
theorem dX9_judge_76 : decode cX9_judge 76 = .ok (.getfield 16, 3) := by decide +kernel
theorem dX9_judge_79 : decode cX9_judge 79 = .ok (.iload_n 3, 1) := by decide +kernel
theorem dX9_judge_80 : decode cX9_judge 80 = .ok (.iaload, 1) := by decide +kernel
theorem dX9_judge_81 : decode cX9_judge 81 = .ok (.i2l, 1) := by decide +kernel
theorem dX9_judge_82 : decode cX9_judge 82 = .ok (.lcmp, 1) := by decide +kernel
theorem dX9_judge_83 : decode cX9_judge 83 = .ok (.ifCond .eq 5, 3) := by decide +kernel
theorem dX9_judge_86 : decode cX9_judge 86 = .ok (.iload_n 3, 1) := by decide +kernel
theorem dX9_judge_87 : decode cX9_judge 87 = .ok (.ireturn, 1) := by decide +kernel
theorem dX9_judge_88 : decode cX9_judge 88 = .ok (.iinc 3 1, 3) := by decide +kernel
theorem dX9_judge_91 : decode cX9_judge 91 = .ok (.goto (-67), 3) := by decide +kernel
theorem dX9_judge_94 : decode cX9_judge 94 = .ok (.bipush (-5), 2) := by decide +kernel
theorem dX9_judge_96 : decode cX9_judge 96 = .ok (.ireturn, 1) := by decide +kernel
theorem dX9_image_0 : decode cX9_image 0 = .ok (.aload_n 0, 1) := by decide +kernel
theorem dX9_image_1 : decode cX9_image 1 = .ok (.iconst 1, 1) := by decide +kernel
theorem dX9_image_2 : decode cX9_image 2 = .ok (.putfield 147, 3) := by decide +kernel
theorem dX9_image_5 : decode cX9_image 5 = .ok (.aload_n 0, 1) := by decide +kernel
theorem dX9_image_6 : decode cX9_image 6 = .ok (.aload_n 0, 1) := by decide +kernel
theorem dX9_image_7 : decode cX9_image 7 = .ok (.getfield 44, 3) := by decide +kernel
theorem dX9_image_10 : decode cX9_image 10 = .ok (.putfield 151, 3) := by decide +kernel
theorem dX9_image_13 : decode cX9_image 13 = .ok (.aload_n 0, 1) := by decide +kernel
theorem dX9_image_14 : decode cX9_image 14 = .ok (.aload_n 0, 1) := by decide +kernel
theorem dX9_image_15 : decode cX9_image 15 = .ok (.getfield 7, 3) := by decide +kernel
theorem dX9_image_18 : decode cX9_image 18 = .ok (.putfield 154, 3) := by decide +kernel
theorem dX9_image_21 : decode cX9_image 21 = .ok (.aload_n 0, 1) := by decide +kernel
theorem dX9_image_22 : decode cX9_image 22 = .ok (.aload_n 0, 1) := by decide +kernel
theorem dX9_image_23 : decode cX9_image 23 = .ok (.getfield 13, 3) := by decide +kernel
theorem dX9_image_26 : decode cX9_image 26 = .ok (.putfield 157, 3) := by decide +kernel
theorem dX9_image_29 : decode cX9_image 29 = .ok (.aload_n 0, 1) := by decide +kernel
theorem dX9_image_30 : decode cX9_image 30 = .ok (.aload_n 0, 1) := by decide +kernel
theorem dX9_image_31 : decode cX9_image 31 = .ok (.getfield 117, 3) := by decide +kernel
theorem dX9_image_34 : decode cX9_image 34 = .ok (.putfield 160, 3) := by decide +kernel
theorem dX9_image_37 : decode cX9_image 37 = .ok (.aload_n 0, 1) := by decide +kernel
theorem dX9_image_38 : decode cX9_image 38 = .ok (.aload_n 0, 1) := by decide +kernel
theorem dX9_image_39 : decode cX9_image 39 = .ok (.getfield 129, 3) := by decide +kernel
theorem dX9_image_42 : decode cX9_image 42 = .ok (.putfield 163, 3) := by decide +kernel
theorem dX9_image_45 : decode cX9_image 45 = .ok (.aload_n 0, 1) := by decide +kernel
theorem dX9_image_46 : decode cX9_image 46 = .ok (.aload_n 0, 1) := by decide +kernel
theorem dX9_image_47 : decode cX9_image 47 = .ok (.getfield 132, 3) := by decide +kernel
theorem dX9_image_50 : decode cX9_image 50 = .ok (.putfield 166, 3) := by decide +kernel
theorem dX9_image_53 : decode cX9_image 53 = .ok (.iconst 0, 1) := by decide +kernel
theorem dX9_image_54 : decode cX9_image 54 = .ok (.istore_n 1, 1) := by decide +kernel
theorem dX9_image_55 : decode cX9_image 55 = .ok (.iload_n 1, 1) := by decide +kernel
theorem dX9_image_56 : decode cX9_image 56 = .ok (.bipush 16, 2) := by decide +kernel
theorem dX9_image_58 : decode cX9_image 58 = .ok (.if_icmp .ge 21, 3) := by decide +kernel
theorem dX9_image_61 : decode cX9_image 61 = .ok (.aload_n 0, 1) := by decide +kernel
theorem dX9_image_62 : decode cX9_image 62 = .ok (.getfield 169, 3) := by decide +kernel
theorem dX9_image_65 : decode cX9_image 65 = .ok (.iload_n 1, 1) := by decide +kernel
theorem dX9_image_66 : decode cX9_image 66 = .ok (.aload_n 0, 1) := by decide +kernel
theorem dX9_image_67 : decode cX9_image 67 = .ok (.getfield 16, 3) := by decide +kernel
theorem dX9_image_70 : decode cX9_image 70 = .ok (.iload_n 1, 1) := by decide +kernel
theorem dX9_image_71 : decode cX9_image 71 = .ok (.iaload, 1) := by decide +kernel
theorem dX9_image_72 : decode cX9_image 72 = .ok (.iastore, 1) := by decide +kernel
theorem dX9_image_73 : decode cX9_image 73 = .ok (.iinc 1 1, 3) := by decide +kernel
theorem dX9_image_76 : decode cX9_image 76 = .ok (.goto (-21), 3) := by decide +kernel
theorem dX9_image_79 : decode cX9_image 79 = .ok (.iconst 0, 1) := by decide +kernel
theorem dX9_image_80 : decode cX9_image 80 = .ok (.istore_n 1, 1) := by decide +kernel
theorem dX9_image_81 : decode cX9_image 81 = .ok (.iload_n 1, 1) := by decide +kernel
theorem dX9_image_82 : decode cX9_image 82 = .ok (.bipush 6, 2) := by decide +kernel
theorem dX9_image_84 : decode cX9_image 84 = .ok (.if_icmp .ge 81, 3) := by decide +kernel
theorem dX9_image_87 : decode cX9_image 87 = .ok (.aload_n 0, 1) := by decide +kernel
theorem dX9_image_88 : decode cX9_image 88 = .ok (.getfield 172, 3) := by decide +kernel
theorem dX9_image_91 : decode cX9_image 91 = .ok (.iload_n 1, 1) := by decide +kernel
theorem dX9_image_92 : decode cX9_image 92 = .ok (.aload_n 0, 1) := by decide +kernel
theorem dX9_image_93 : decode cX9_image 93 = .ok (.getfield 20, 3) := by decide +kernel
theorem dX9_image_96 : decode cX9_image 96 = .ok (.iload_n 1, 1) := by decide +kernel
theorem dX9_image_97 : decode cX9_image 97 = .ok (.iaload, 1) := by decide +kernel
theorem dX9_image_98 : decode cX9_image 98 = .ok (.iastore, 1) := by decide +kernel
theorem dX9_image_99 : decode cX9_image 99 = .ok (.aload_n 0, 1) := by decide +kernel
theorem dX9_image_100 : decode cX9_image 100 = .ok (.getfield 175, 3) := by decide +kernel
theorem dX9_image_103 : decode cX9_image 103 = .ok (.iload_n 1, 1) := by decide +kernel
theorem dX9_image_104 : decode cX9_image 104 = .ok (.aload_n 0, 1) := by decide +kernel
theorem dX9_image_105 : decode cX9_image 105 = .ok (.getfield 23, 3) := by decide +kernel
theorem dX9_image_108 : decode cX9_image 108 = .ok (.iload_n 1, 1) := by decide +kernel
theorem dX9_image_109 : decode cX9_image 109 = .ok (.iaload, 1) := by decide +kernel
theorem dX9_image_110 : decode cX9_image 110 = .ok (.iastore, 1) := by decide +kernel
theorem dX9_image_111 : decode cX9_image 111 = .ok (.aload_n 0, 1) := by decide +kernel
theorem dX9_image_112 : decode cX9_image 112 = .ok (.getfield 178, 3) := by decide +kernel
theorem dX9_image_115 : decode cX9_image 115 = .ok (.iload_n 1, 1) := by decide +kernel
theorem dX9_image_116 : decode cX9_image 116 = .ok (.aload_n 0, 1) := by decide +kernel
theorem dX9_image_117 : decode cX9_image 117 = .ok (.getfield 26, 3) := by decide +kernel
theorem dX9_image_120 : decode cX9_image 120 = .ok (.iload_n 1, 1) := by decide +kernel
theorem dX9_image_121 : decode cX9_image 121 = .ok (.iaload, 1) := by decide +kernel
theorem dX9_image_122 : decode cX9_image 122 = .ok (.iastore, 1) := by decide +kernel
theorem dX9_image_123 : decode cX9_image 123 = .ok (.aload_n 0, 1) := by decide +kernel
theorem dX9_image_124 : decode cX9_image 124 = .ok (.getfield 181, 3) := by decide +kernel
theorem dX9_image_127 : decode cX9_image 127 = .ok (.iload_n 1, 1) := by decide +kernel
theorem dX9_image_128 : decode cX9_image 128 = .ok (.aload_n 0, 1) := by decide +kernel
theorem dX9_image_129 : decode cX9_image 129 = .ok (.getfield 29, 3) := by decide +kernel
theorem dX9_image_132 : decode cX9_image 132 = .ok (.iload_n 1, 1) := by decide +kernel
theorem dX9_image_133 : decode cX9_image 133 = .ok (.iaload, 1) := by decide +kernel
theorem dX9_image_134 : decode cX9_image 134 = .ok (.iastore, 1) := by decide +kernel
theorem dX9_image_135 : decode cX9_image 135 = .ok (.aload_n 0, 1) := by decide +kernel
theorem dX9_image_136 : decode cX9_image 136 = .ok (.getfield 184, 3) := by decide +kernel
theorem dX9_image_139 : decode cX9_image 139 = .ok (.iload_n 1, 1) := by decide +kernel
theorem dX9_image_140 : decode cX9_image 140 = .ok (.aload_n 0, 1) := by decide +kernel
theorem dX9_image_141 : decode cX9_image 141 = .ok (.getfield 32, 3) := by decide +kernel
theorem dX9_image_144 : decode cX9_image 144 = .ok (.iload_n 1, 1) := by decide +kernel
theorem dX9_image_145 : decode cX9_image 145 = .ok (.iaload, 1) := by decide +kernel
theorem dX9_image_146 : decode cX9_image 146 = .ok (.iastore, 1) := by decide +kernel
theorem dX9_image_147 : decode cX9_image 147 = .ok (.aload_n 0, 1) := by decide +kernel
theorem dX9_image_148 : decode cX9_image 148 = .ok (.getfield 187, 3) := by decide +kernel
theorem dX9_image_151 : decode cX9_image 151 = .ok (.iload_n 1, 1) := by decide +kernel
theorem dX9_image_152 : decode cX9_image 152 = .ok (.aload_n 0, 1) := by decide +kernel
theorem dX9_image_153 : decode cX9_image 153 = .ok (.getfield 35, 3) := by decide +kernel
theorem dX9_image_156 : decode cX9_image 156 = .ok (.iload_n 1, 1) := by decide +kernel
theorem dX9_image_157 : decode cX9_image 157 = .ok (.iaload, 1) := by decide +kernel
theorem dX9_image_158 : decode cX9_image 158 = .ok (.iastore, 1) := by decide +kernel
theorem dX9_image_159 : decode cX9_image 159 = .ok (.iinc 1 1, 3) := by decide +kernel
theorem dX9_image_162 : decode cX9_image 162 = .ok (.goto (-81), 3) := by decide +kernel
theorem dX9_image_165 : decode cX9_image 165 = .ok (.iconst 0, 1) := by decide +kernel
theorem dX9_image_166 : decode cX9_image 166 = .ok (.istore_n 1, 1) := by decide +kernel
theorem dX9_image_167 : decode cX9_image 167 = .ok (.iload_n 1, 1) := by decide +kernel
theorem dX9_image_168 : decode cX9_image 168 = .ok (.bipush 24, 2) := by decide +kernel
theorem dX9_image_170 : decode cX9_image 170 = .ok (.if_icmp .ge 21, 3) := by decide +kernel
theorem dX9_image_173 : decode cX9_image 173 = .ok (.aload_n 0, 1) := by decide +kernel
theorem dX9_image_174 : decode cX9_image 174 = .ok (.getfield 190, 3) := by decide +kernel
theorem dX9_image_177 : decode cX9_image 177 = .ok (.iload_n 1, 1) := by decide +kernel
theorem dX9_image_178 : decode cX9_image 178 = .ok (.aload_n 0, 1) := by decide +kernel
theorem dX9_image_179 : decode cX9_image 179 = .ok (.getfield 38, 3) := by decide +kernel
theorem dX9_image_182 : decode cX9_image 182 = .ok (.iload_n 1, 1) := by decide +kernel
theorem dX9_image_183 : decode cX9_image 183 = .ok (.iaload, 1) := by decide +kernel
theorem dX9_image_184 : decode cX9_image 184 = .ok (.iastore, 1) := by decide +kernel
theorem dX9_image_185 : decode cX9_image 185 = .ok (.iinc 1 1, 3) := by decide +kernel
theorem dX9_image_188 : decode cX9_image 188 = .ok (.goto (-21), 3) := by decide +kernel
theorem dX9_image_191 : decode cX9_image 191 = .ok (.iconst 0, 1) := by decide +kernel
theorem dX9_image_192 : decode cX9_image 192 = .ok (.istore_n 1, 1) := by decide +kernel
theorem dX9_image_193 : decode cX9_image 193 = .ok (.iload_n 1, 1) := by decide +kernel
theorem dX9_image_194 : decode cX9_image 194 = .ok (.iconst 5, 1) := by decide +kernel
theorem dX9_image_195 : decode cX9_image 195 = .ok (.if_icmp .ge 45, 3) := by decide +kernel
theorem dX9_image_198 : decode cX9_image 198 = .ok (.aload_n 0, 1) := by decide +kernel
theorem dX9_image_199 : decode cX9_image 199 = .ok (.getfield 193, 3) := by decide +kernel
theorem dX9_image_202 : decode cX9_image 202 = .ok (.iload_n 1, 1) := by decide +kernel
theorem dX9_image_203 : decode cX9_image 203 = .ok (.aload_n 0, 1) := by decide +kernel
theorem dX9_image_204 : decode cX9_image 204 = .ok (.getfield 120, 3) := by decide +kernel
theorem dX9_image_207 : decode cX9_image 207 = .ok (.iload_n 1, 1) := by decide +kernel
theorem dX9_image_208 : decode cX9_image 208 = .ok (.iaload, 1) := by decide +kernel
theorem dX9_image_209 : decode cX9_image 209 = .ok (.iastore, 1) := by decide +kernel
theorem dX9_image_210 : decode cX9_image 210 = .ok (.aload_n 0, 1) := by decide +kernel
theorem dX9_image_211 : decode cX9_image 211 = .ok (.getfield 196, 3) := by decide +kernel
theorem dX9_image_214 : decode cX9_image 214 = .ok (.iload_n 1, 1) := by decide +kernel
theorem dX9_image_215 : decode cX9_image 215 = .ok (.aload_n 0, 1) := by decide +kernel
theorem dX9_image_216 : decode cX9_image 216 = .ok (.getfield 123, 3) := by decide +kernel
theorem dX9_image_219 : decode cX9_image 219 = .ok (.iload_n 1, 1) := by decide +kernel
theorem dX9_image_220 : decode cX9_image 220 = .ok (.iaload, 1) := by decide +kernel
theorem dX9_image_221 : decode cX9_image 221 = .ok (.iastore, 1) := by decide +kernel
theorem dX9_image_222 : decode cX9_image 222 = .ok (.aload_n 0, 1) := by decide +kernel
theorem dX9_image_223 : decode cX9_image 223 = .ok (.getfield 199, 3) := by decide +kernel
theorem dX9_image_226 : decode cX9_image 226 = .ok (.iload_n 1, 1) := by decide +kernel
theorem dX9_image_227 : decode cX9_image 227 = .ok (.aload_n 0, 1) := by decide +kernel
theorem dX9_image_228 : decode cX9_image 228 = .ok (.getfield 126, 3) := by decide +kernel
theorem dX9_image_231 : decode cX9_image 231 = .ok (.iload_n 1, 1) := by decide +kernel
theorem dX9_image_232 : decode cX9_image 232 = .ok (.iaload, 1) := by decide +kernel
theorem dX9_image_233 : decode cX9_image 233 = .ok (.iastore, 1) := by decide +kernel
theorem dX9_image_234 : decode cX9_image 234 = .ok (.iinc 1 1, 3) := by decide +kernel
theorem dX9_image_237 : decode cX9_image 237 = .ok (.goto (-44), 3) := by decide +kernel
theorem dX9_image_240 : decode cX9_image 240 = .ok (.iconst 0, 1) := by decide +kernel
theorem dX9_image_241 : decode cX9_image 241 = .ok (.istore_n 1, 1) := by decide +kernel
theorem dX9_image_242 : decode cX9_image 242 = .ok (.iload_n 1, 1) := by decide +kernel
theorem dX9_image_243 : decode cX9_image 243 = .ok (.bipush 8, 2) := by decide +kernel
theorem dX9_image_245 : decode cX9_image 245 = .ok (.if_icmp .ge 57, 3) := by decide +kernel
theorem dX9_image_248 : decode cX9_image 248 = .ok (.aload_n 0, 1) := by decide +kernel
theorem dX9_image_249 : decode cX9_image 249 = .ok (.getfield 202, 3) := by decide +kernel
theorem dX9_image_252 : decode cX9_image 252 = .ok (.iload_n 1, 1) := by decide +kernel
theorem dX9_image_253 : decode cX9_image 253 = .ok (.aload_n 0, 1) := by decide +kernel
theorem dX9_image_254 : decode cX9_image 254 = .ok (.getfield 135, 3) := by decide +kernel
theorem dX9_image_257 : decode cX9_image 257 = .ok (.iload_n 1, 1) := by decide +kernel
theorem dX9_image_258 : decode cX9_image 258 = .ok (.iaload, 1) := by decide +kernel
theorem dX9_image_259 : decode cX9_image 259 = .ok (.iastore, 1) := by decide +kernel
theorem dX9_image_260 : decode cX9_image 260 = .ok (.aload_n 0, 1) := by decide +kernel
theorem dX9_image_261 : decode cX9_image 261 = .ok (.getfield 205, 3) := by decide +kernel
theorem dX9_image_264 : decode cX9_image 264 = .ok (.iload_n 1, 1) := by decide +kernel
theorem dX9_image_265 : decode cX9_image 265 = .ok (.aload_n 0, 1) := by decide +kernel
theorem dX9_image_266 : decode cX9_image 266 = .ok (.getfield 138, 3) := by decide +kernel
theorem dX9_image_269 : decode cX9_image 269 = .ok (.iload_n 1, 1) := by decide +kernel
theorem dX9_image_270 : decode cX9_image 270 = .ok (.iaload, 1) := by decide +kernel
theorem dX9_image_271 : decode cX9_image 271 = .ok (.iastore, 1) := by decide +kernel
theorem dX9_image_272 : decode cX9_image 272 = .ok (.aload_n 0, 1) := by decide +kernel
theorem dX9_image_273 : decode cX9_image 273 = .ok (.getfield 208, 3) := by decide +kernel
theorem dX9_image_276 : decode cX9_image 276 = .ok (.iload_n 1, 1) := by decide +kernel
theorem dX9_image_277 : decode cX9_image 277 = .ok (.aload_n 0, 1) := by decide +kernel
theorem dX9_image_278 : decode cX9_image 278 = .ok (.getfield 141, 3) := by decide +kernel
theorem dX9_image_281 : decode cX9_image 281 = .ok (.iload_n 1, 1) := by decide +kernel
theorem dX9_image_282 : decode cX9_image 282 = .ok (.iaload, 1) := by decide +kernel
theorem dX9_image_283 : decode cX9_image 283 = .ok (.iastore, 1) := by decide +kernel
theorem dX9_image_284 : decode cX9_image 284 = .ok (.aload_n 0, 1) := by decide +kernel
theorem dX9_image_285 : decode cX9_image 285 = .ok (.getfield 211, 3) := by decide +kernel
theorem dX9_image_288 : decode cX9_image 288 = .ok (.iload_n 1, 1) := by decide +kernel
theorem dX9_image_289 : decode cX9_image 289 = .ok (.aload_n 0, 1) := by decide +kernel
theorem dX9_image_290 : decode cX9_image 290 = .ok (.getfield 144, 3) := by decide +kernel
theorem dX9_image_293 : decode cX9_image 293 = .ok (.iload_n 1, 1) := by decide +kernel
theorem dX9_image_294 : decode cX9_image 294 = .ok (.iaload, 1) := by decide +kernel
theorem dX9_image_295 : decode cX9_image 295 = .ok (.iastore, 1) := by decide +kernel
theorem dX9_image_296 : decode cX9_image 296 = .ok (.iinc 1 1, 3) := by decide +kernel
theorem dX9_image_299 : decode cX9_image 299 = .ok (.goto (-57), 3) := by decide +kernel
theorem dX9_image_302 : decode cX9_image 302 = .ok (.aload_n 0, 1) := by decide +kernel
theorem dX9_image_303 : decode cX9_image 303 = .ok (.getfield 7, 3) := by decide +kernel
theorem dX9_image_306 : decode cX9_image 306 = .ok (.ireturn, 1) := by decide +kernel
theorem dX9_undo_0 : decode cX9_undo 0 = .ok (.aload_n 0, 1) := by decide +kernel
theorem dX9_undo_1 : decode cX9_undo 1 = .ok (.getfield 147, 3) := by decide +kernel
theorem dX9_undo_4 : decode cX9_undo 4 = .ok (.ifCond .ne 6, 3) := by decide +kernel
theorem dX9_undo_7 : decode cX9_undo 7 = .ok (.bipush (-3), 2) := by decide +kernel
theorem dX9_undo_9 : decode cX9_undo 9 = .ok (.ireturn, 1) := by decide +kernel
theorem dX9_undo_10 : decode cX9_undo 10 = .ok (.aload_n 0, 1) := by decide +kernel
theorem dX9_undo_11 : decode cX9_undo 11 = .ok (.aload_n 0, 1) := by decide +kernel
theorem dX9_undo_12 : decode cX9_undo 12 = .ok (.getfield 151, 3) := by decide +kernel
theorem dX9_undo_15 : decode cX9_undo 15 = .ok (.putfield 44, 3) := by decide +kernel
theorem dX9_undo_18 : decode cX9_undo 18 = .ok (.aload_n 0, 1) := by decide +kernel
theorem dX9_undo_19 : decode cX9_undo 19 = .ok (.aload_n 0, 1) := by decide +kernel
theorem dX9_undo_20 : decode cX9_undo 20 = .ok (.getfield 154, 3) := by decide +kernel
theorem dX9_undo_23 : decode cX9_undo 23 = .ok (.putfield 7, 3) := by decide +kernel
theorem dX9_undo_26 : decode cX9_undo 26 = .ok (.aload_n 0, 1) := by decide +kernel
theorem dX9_undo_27 : decode cX9_undo 27 = .ok (.aload_n 0, 1) := by decide +kernel
theorem dX9_undo_28 : decode cX9_undo 28 = .ok (.getfield 157, 3) := by decide +kernel
theorem dX9_undo_31 : decode cX9_undo 31 = .ok (.putfield 13, 3) := by decide +kernel
theorem dX9_undo_34 : decode cX9_undo 34 = .ok (.aload_n 0, 1) := by decide +kernel
theorem dX9_undo_35 : decode cX9_undo 35 = .ok (.aload_n 0, 1) := by decide +kernel
theorem dX9_undo_36 : decode cX9_undo 36 = .ok (.getfield 160, 3) := by decide +kernel
theorem dX9_undo_39 : decode cX9_undo 39 = .ok (.putfield 117, 3) := by decide +kernel
theorem dX9_undo_42 : decode cX9_undo 42 = .ok (.aload_n 0, 1) := by decide +kernel
theorem dX9_undo_43 : decode cX9_undo 43 = .ok (.aload_n 0, 1) := by decide +kernel
theorem dX9_undo_44 : decode cX9_undo 44 = .ok (.getfield 163, 3) := by decide +kernel
theorem dX9_undo_47 : decode cX9_undo 47 = .ok (.putfield 129, 3) := by decide +kernel
theorem dX9_undo_50 : decode cX9_undo 50 = .ok (.aload_n 0, 1) := by decide +kernel
theorem dX9_undo_51 : decode cX9_undo 51 = .ok (.aload_n 0, 1) := by decide +kernel
theorem dX9_undo_52 : decode cX9_undo 52 = .ok (.getfield 166, 3) := by decide +kernel
theorem dX9_undo_55 : decode cX9_undo 55 = .ok (.putfield 132, 3) := by decide +kernel
theorem dX9_undo_58 : decode cX9_undo 58 = .ok (.iconst 0, 1) := by decide +kernel
theorem dX9_undo_59 : decode cX9_undo 59 = .ok (.istore_n 1, 1) := by decide +kernel
theorem dX9_undo_60 : decode cX9_undo 60 = .ok (.iload_n 1, 1) := by decide +kernel
theorem dX9_undo_61 : decode cX9_undo 61 = .ok (.bipush 16, 2) := by decide +kernel
theorem dX9_undo_63 : decode cX9_undo 63 = .ok (.if_icmp .ge 21, 3) := by decide +kernel
theorem dX9_undo_66 : decode cX9_undo 66 = .ok (.aload_n 0, 1) := by decide +kernel
theorem dX9_undo_67 : decode cX9_undo 67 = .ok (.getfield 16, 3) := by decide +kernel
theorem dX9_undo_70 : decode cX9_undo 70 = .ok (.iload_n 1, 1) := by decide +kernel
theorem dX9_undo_71 : decode cX9_undo 71 = .ok (.aload_n 0, 1) := by decide +kernel
theorem dX9_undo_72 : decode cX9_undo 72 = .ok (.getfield 169, 3) := by decide +kernel
theorem dX9_undo_75 : decode cX9_undo 75 = .ok (.iload_n 1, 1) := by decide +kernel
theorem dX9_undo_76 : decode cX9_undo 76 = .ok (.iaload, 1) := by decide +kernel
theorem dX9_undo_77 : decode cX9_undo 77 = .ok (.iastore, 1) := by decide +kernel
theorem dX9_undo_78 : decode cX9_undo 78 = .ok (.iinc 1 1, 3) := by decide +kernel
theorem dX9_undo_81 : decode cX9_undo 81 = .ok (.goto (-21), 3) := by decide +kernel
theorem dX9_undo_84 : decode cX9_undo 84 = .ok (.iconst 0, 1) := by decide +kernel
theorem dX9_undo_85 : decode cX9_undo 85 = .ok (.istore_n 1, 1) := by decide +kernel
theorem dX9_undo_86 : decode cX9_undo 86 = .ok (.iload_n 1, 1) := by decide +kernel
theorem dX9_undo_87 : decode cX9_undo 87 = .ok (.bipush 6, 2) := by decide +kernel
theorem dX9_undo_89 : decode cX9_undo 89 = .ok (.if_icmp .ge 81, 3) := by decide +kernel
theorem dX9_undo_92 : decode cX9_undo 92 = .ok (.aload_n 0, 1) := by decide +kernel
theorem dX9_undo_93 : decode cX9_undo 93 = .ok (.getfield 20, 3) := by decide +kernel
theorem dX9_undo_96 : decode cX9_undo 96 = .ok (.iload_n 1, 1) := by decide +kernel
theorem dX9_undo_97 : decode cX9_undo 97 = .ok (.aload_n 0, 1) := by decide +kernel
theorem dX9_undo_98 : decode cX9_undo 98 = .ok (.getfield 172, 3) := by decide +kernel
theorem dX9_undo_101 : decode cX9_undo 101 = .ok (.iload_n 1, 1) := by decide +kernel
theorem dX9_undo_102 : decode cX9_undo 102 = .ok (.iaload, 1) := by decide +kernel
theorem dX9_undo_103 : decode cX9_undo 103 = .ok (.iastore, 1) := by decide +kernel
theorem dX9_undo_104 : decode cX9_undo 104 = .ok (.aload_n 0, 1) := by decide +kernel
theorem dX9_undo_105 : decode cX9_undo 105 = .ok (.getfield 23, 3) := by decide +kernel
theorem dX9_undo_108 : decode cX9_undo 108 = .ok (.iload_n 1, 1) := by decide +kernel
theorem dX9_undo_109 : decode cX9_undo 109 = .ok (.aload_n 0, 1) := by decide +kernel
theorem dX9_undo_110 : decode cX9_undo 110 = .ok (.getfield 175, 3) := by decide +kernel
theorem dX9_undo_113 : decode cX9_undo 113 = .ok (.iload_n 1, 1) := by decide +kernel
theorem dX9_undo_114 : decode cX9_undo 114 = .ok (.iaload, 1) := by decide +kernel
theorem dX9_undo_115 : decode cX9_undo 115 = .ok (.iastore, 1) := by decide +kernel
theorem dX9_undo_116 : decode cX9_undo 116 = .ok (.aload_n 0, 1) := by decide +kernel
theorem dX9_undo_117 : decode cX9_undo 117 = .ok (.getfield 26, 3) := by decide +kernel
theorem dX9_undo_120 : decode cX9_undo 120 = .ok (.iload_n 1, 1) := by decide +kernel
theorem dX9_undo_121 : decode cX9_undo 121 = .ok (.aload_n 0, 1) := by decide +kernel
theorem dX9_undo_122 : decode cX9_undo 122 = .ok (.getfield 178, 3) := by decide +kernel
theorem dX9_undo_125 : decode cX9_undo 125 = .ok (.iload_n 1, 1) := by decide +kernel
theorem dX9_undo_126 : decode cX9_undo 126 = .ok (.iaload, 1) := by decide +kernel
theorem dX9_undo_127 : decode cX9_undo 127 = .ok (.iastore, 1) := by decide +kernel
theorem dX9_undo_128 : decode cX9_undo 128 = .ok (.aload_n 0, 1) := by decide +kernel
theorem dX9_undo_129 : decode cX9_undo 129 = .ok (.getfield 29, 3) := by decide +kernel
theorem dX9_undo_132 : decode cX9_undo 132 = .ok (.iload_n 1, 1) := by decide +kernel
theorem dX9_undo_133 : decode cX9_undo 133 = .ok (.aload_n 0, 1) := by decide +kernel
theorem dX9_undo_134 : decode cX9_undo 134 = .ok (.getfield 181, 3) := by decide +kernel
theorem dX9_undo_137 : decode cX9_undo 137 = .ok (.iload_n 1, 1) := by decide +kernel
theorem dX9_undo_138 : decode cX9_undo 138 = .ok (.iaload, 1) := by decide +kernel
theorem dX9_undo_139 : decode cX9_undo 139 = .ok (.iastore, 1) := by decide +kernel
theorem dX9_undo_140 : decode cX9_undo 140 = .ok (.aload_n 0, 1) := by decide +kernel
theorem dX9_undo_141 : decode cX9_undo 141 = .ok (.getfield 32, 3) := by decide +kernel
theorem dX9_undo_144 : decode cX9_undo 144 = .ok (.iload_n 1, 1) := by decide +kernel
theorem dX9_undo_145 : decode cX9_undo 145 = .ok (.aload_n 0, 1) := by decide +kernel
theorem dX9_undo_146 : decode cX9_undo 146 = .ok (.getfield 184, 3) := by decide +kernel
theorem dX9_undo_149 : decode cX9_undo 149 = .ok (.iload_n 1, 1) := by decide +kernel
theorem dX9_undo_150 : decode cX9_undo 150 = .ok (.iaload, 1) := by decide +kernel
theorem dX9_undo_151 : decode cX9_undo 151 = .ok (.iastore, 1) := by decide +kernel
theorem dX9_undo_152 : decode cX9_undo 152 = .ok (.aload_n 0, 1) := by decide +kernel
theorem dX9_undo_153 : decode cX9_undo 153 = .ok (.getfield 35, 3) := by decide +kernel
theorem dX9_undo_156 : decode cX9_undo 156 = .ok (.iload_n 1, 1) := by decide +kernel
theorem dX9_undo_157 : decode cX9_undo 157 = .ok (.aload_n 0, 1) := by decide +kernel
theorem dX9_undo_158 : decode cX9_undo 158 = .ok (.getfield 187, 3) := by decide +kernel
theorem dX9_undo_161 : decode cX9_undo 161 = .ok (.iload_n 1, 1) := by decide +kernel
theorem dX9_undo_162 : decode cX9_undo 162 = .ok (.iaload, 1) := by decide +kernel
theorem dX9_undo_163 : decode cX9_undo 163 = .ok (.iastore, 1) := by decide +kernel
theorem dX9_undo_164 : decode cX9_undo 164 = .ok (.iinc 1 1, 3) := by decide +kernel
theorem dX9_undo_167 : decode cX9_undo 167 = .ok (.goto (-81), 3) := by decide +kernel
theorem dX9_undo_170 : decode cX9_undo 170 = .ok (.iconst 0, 1) := by decide +kernel
theorem dX9_undo_171 : decode cX9_undo 171 = .ok (.istore_n 1, 1) := by decide +kernel
theorem dX9_undo_172 : decode cX9_undo 172 = .ok (.iload_n 1, 1) := by decide +kernel
theorem dX9_undo_173 : decode cX9_undo 173 = .ok (.bipush 24, 2) := by decide +kernel
theorem dX9_undo_175 : decode cX9_undo 175 = .ok (.if_icmp .ge 21, 3) := by decide +kernel
theorem dX9_undo_178 : decode cX9_undo 178 = .ok (.aload_n 0, 1) := by decide +kernel
theorem dX9_undo_179 : decode cX9_undo 179 = .ok (.getfield 38, 3) := by decide +kernel
theorem dX9_undo_182 : decode cX9_undo 182 = .ok (.iload_n 1, 1) := by decide +kernel
theorem dX9_undo_183 : decode cX9_undo 183 = .ok (.aload_n 0, 1) := by decide +kernel
theorem dX9_undo_184 : decode cX9_undo 184 = .ok (.getfield 190, 3) := by decide +kernel
theorem dX9_undo_187 : decode cX9_undo 187 = .ok (.iload_n 1, 1) := by decide +kernel
theorem dX9_undo_188 : decode cX9_undo 188 = .ok (.iaload, 1) := by decide +kernel
theorem dX9_undo_189 : decode cX9_undo 189 = .ok (.iastore, 1) := by decide +kernel
theorem dX9_undo_190 : decode cX9_undo 190 = .ok (.iinc 1 1, 3) := by decide +kernel
theorem dX9_undo_193 : decode cX9_undo 193 = .ok (.goto (-21), 3) := by decide +kernel
theorem dX9_undo_196 : decode cX9_undo 196 = .ok (.iconst 0, 1) := by decide +kernel
theorem dX9_undo_197 : decode cX9_undo 197 = .ok (.istore_n 1, 1) := by decide +kernel
theorem dX9_undo_198 : decode cX9_undo 198 = .ok (.iload_n 1, 1) := by decide +kernel
theorem dX9_undo_199 : decode cX9_undo 199 = .ok (.iconst 5, 1) := by decide +kernel
theorem dX9_undo_200 : decode cX9_undo 200 = .ok (.if_icmp .ge 45, 3) := by decide +kernel
theorem dX9_undo_203 : decode cX9_undo 203 = .ok (.aload_n 0, 1) := by decide +kernel
theorem dX9_undo_204 : decode cX9_undo 204 = .ok (.getfield 120, 3) := by decide +kernel
theorem dX9_undo_207 : decode cX9_undo 207 = .ok (.iload_n 1, 1) := by decide +kernel
theorem dX9_undo_208 : decode cX9_undo 208 = .ok (.aload_n 0, 1) := by decide +kernel
theorem dX9_undo_209 : decode cX9_undo 209 = .ok (.getfield 193, 3) := by decide +kernel
theorem dX9_undo_212 : decode cX9_undo 212 = .ok (.iload_n 1, 1) := by decide +kernel
theorem dX9_undo_213 : decode cX9_undo 213 = .ok (.iaload, 1) := by decide +kernel
theorem dX9_undo_214 : decode cX9_undo 214 = .ok (.iastore, 1) := by decide +kernel
theorem dX9_undo_215 : decode cX9_undo 215 = .ok (.aload_n 0, 1) := by decide +kernel
theorem dX9_undo_216 : decode cX9_undo 216 = .ok (.getfield 123, 3) := by decide +kernel
theorem dX9_undo_219 : decode cX9_undo 219 = .ok (.iload_n 1, 1) := by decide +kernel
theorem dX9_undo_220 : decode cX9_undo 220 = .ok (.aload_n 0, 1) := by decide +kernel
theorem dX9_undo_221 : decode cX9_undo 221 = .ok (.getfield 196, 3) := by decide +kernel
theorem dX9_undo_224 : decode cX9_undo 224 = .ok (.iload_n 1, 1) := by decide +kernel
theorem dX9_undo_225 : decode cX9_undo 225 = .ok (.iaload, 1) := by decide +kernel
theorem dX9_undo_226 : decode cX9_undo 226 = .ok (.iastore, 1) := by decide +kernel
theorem dX9_undo_227 : decode cX9_undo 227 = .ok (.aload_n 0, 1) := by decide +kernel
theorem dX9_undo_228 : decode cX9_undo 228 = .ok (.getfield 126, 3) := by decide +kernel
theorem dX9_undo_231 : decode cX9_undo 231 = .ok (.iload_n 1, 1) := by decide +kernel
theorem dX9_undo_232 : decode cX9_undo 232 = .ok (.aload_n 0, 1) := by decide +kernel
theorem dX9_undo_233 : decode cX9_undo 233 = .ok (.getfield 199, 3) := by decide +kernel
theorem dX9_undo_236 : decode cX9_undo 236 = .ok (.iload_n 1, 1) := by decide +kernel
theorem dX9_undo_237 : decode cX9_undo 237 = .ok (.iaload, 1) := by decide +kernel
theorem dX9_undo_238 : decode cX9_undo 238 = .ok (.iastore, 1) := by decide +kernel
theorem dX9_undo_239 : decode cX9_undo 239 = .ok (.iinc 1 1, 3) := by decide +kernel
theorem dX9_undo_242 : decode cX9_undo 242 = .ok (.goto (-44), 3) := by decide +kernel
theorem dX9_undo_245 : decode cX9_undo 245 = .ok (.iconst 0, 1) := by decide +kernel
theorem dX9_undo_246 : decode cX9_undo 246 = .ok (.istore_n 1, 1) := by decide +kernel
theorem dX9_undo_247 : decode cX9_undo 247 = .ok (.iload_n 1, 1) := by decide +kernel
theorem dX9_undo_248 : decode cX9_undo 248 = .ok (.bipush 8, 2) := by decide +kernel
theorem dX9_undo_250 : decode cX9_undo 250 = .ok (.if_icmp .ge 57, 3) := by decide +kernel
theorem dX9_undo_253 : decode cX9_undo 253 = .ok (.aload_n 0, 1) := by decide +kernel
theorem dX9_undo_254 : decode cX9_undo 254 = .ok (.getfield 135, 3) := by decide +kernel
theorem dX9_undo_257 : decode cX9_undo 257 = .ok (.iload_n 1, 1) := by decide +kernel
theorem dX9_undo_258 : decode cX9_undo 258 = .ok (.aload_n 0, 1) := by decide +kernel
theorem dX9_undo_259 : decode cX9_undo 259 = .ok (.getfield 202, 3) := by decide +kernel
theorem dX9_undo_262 : decode cX9_undo 262 = .ok (.iload_n 1, 1) := by decide +kernel
theorem dX9_undo_263 : decode cX9_undo 263 = .ok (.iaload, 1) := by decide +kernel
theorem dX9_undo_264 : decode cX9_undo 264 = .ok (.iastore, 1) := by decide +kernel
theorem dX9_undo_265 : decode cX9_undo 265 = .ok (.aload_n 0, 1) := by decide +kernel
theorem dX9_undo_266 : decode cX9_undo 266 = .ok (.getfield 138, 3) := by decide +kernel
theorem dX9_undo_269 : decode cX9_undo 269 = .ok (.iload_n 1, 1) := by decide +kernel
theorem dX9_undo_270 : decode cX9_undo 270 = .ok (.aload_n 0, 1) := by decide +kernel
theorem dX9_undo_271 : decode cX9_undo 271 = .ok (.getfield 205, 3) := by decide +kernel
theorem dX9_undo_274 : decode cX9_undo 274 = .ok (.iload_n 1, 1) := by decide +kernel
theorem dX9_undo_275 : decode cX9_undo 275 = .ok (.iaload, 1) := by decide +kernel
theorem dX9_undo_276 : decode cX9_undo 276 = .ok (.iastore, 1) := by decide +kernel
theorem dX9_undo_277 : decode cX9_undo 277 = .ok (.aload_n 0, 1) := by decide +kernel
theorem dX9_undo_278 : decode cX9_undo 278 = .ok (.getfield 141, 3) := by decide +kernel
theorem dX9_undo_281 : decode cX9_undo 281 = .ok (.iload_n 1, 1) := by decide +kernel
theorem dX9_undo_282 : decode cX9_undo 282 = .ok (.aload_n 0, 1) := by decide +kernel
theorem dX9_undo_283 : decode cX9_undo 283 = .ok (.getfield 208, 3) := by decide +kernel
theorem dX9_undo_286 : decode cX9_undo 286 = .ok (.iload_n 1, 1) := by decide +kernel
theorem dX9_undo_287 : decode cX9_undo 287 = .ok (.iaload, 1) := by decide +kernel
theorem dX9_undo_288 : decode cX9_undo 288 = .ok (.iastore, 1) := by decide +kernel
theorem dX9_undo_289 : decode cX9_undo 289 = .ok (.aload_n 0, 1) := by decide +kernel
theorem dX9_undo_290 : decode cX9_undo 290 = .ok (.getfield 144, 3) := by decide +kernel
theorem dX9_undo_293 : decode cX9_undo 293 = .ok (.iload_n 1, 1) := by decide +kernel
theorem dX9_undo_294 : decode cX9_undo 294 = .ok (.aload_n 0, 1) := by decide +kernel
theorem dX9_undo_295 : decode cX9_undo 295 = .ok (.getfield 211, 3) := by decide +kernel
theorem dX9_undo_298 : decode cX9_undo 298 = .ok (.iload_n 1, 1) := by decide +kernel
theorem dX9_undo_299 : decode cX9_undo 299 = .ok (.iaload, 1) := by decide +kernel
theorem dX9_undo_300 : decode cX9_undo 300 = .ok (.iastore, 1) := by decide +kernel
theorem dX9_undo_301 : decode cX9_undo 301 = .ok (.iinc 1 1, 3) := by decide +kernel
theorem dX9_undo_304 : decode cX9_undo 304 = .ok (.goto (-57), 3) := by decide +kernel
theorem dX9_undo_307 : decode cX9_undo 307 = .ok (.aload_n 0, 1) := by decide +kernel
theorem dX9_undo_308 : decode cX9_undo 308 = .ok (.getfield 7, 3) := by decide +kernel
theorem dX9_undo_311 : decode cX9_undo 311 = .ok (.ireturn, 1) := by decide +kernel
theorem dX9_body_0 : decode cX9_body 0 = .ok (.aload_n 0, 1) := by decide +kernel
theorem dX9_body_1 : decode cX9_body 1 = .ok (.getfield 214, 3) := by decide +kernel
theorem dX9_body_4 : decode cX9_body 4 = .ok (.bipush 20, 2) := by decide +kernel
theorem dX9_body_6 : decode cX9_body 6 = .ok (.if_icmp .ge 13, 3) := by decide +kernel
theorem dX9_body_9 : decode cX9_body 9 = .ok (.aload_n 0, 1) := by decide +kernel
theorem dX9_body_10 : decode cX9_body 10 = .ok (.getfield 217, 3) := by decide +kernel
theorem dX9_body_13 : decode cX9_body 13 = .ok (.aload_n 0, 1) := by decide +kernel
theorem dX9_body_14 : decode cX9_body 14 = .ok (.getfield 214, 3) := by decide +kernel
theorem dX9_body_17 : decode cX9_body 17 = .ok (.iload_n 1, 1) := by decide +kernel
theorem dX9_body_18 : decode cX9_body 18 = .ok (.iastore, 1) := by decide +kernel
theorem dX9_body_19 : decode cX9_body 19 = .ok (.aload_n 0, 1) := by decide +kernel
theorem dX9_body_20 : decode cX9_body 20 = .ok (.dup, 1) := by decide +kernel
theorem dX9_body_21 : decode cX9_body 21 = .ok (.getfield 214, 3) := by decide +kernel
theorem dX9_body_24 : decode cX9_body 24 = .ok (.iconst 1, 1) := by decide +kernel
theorem dX9_body_25 : decode cX9_body 25 = .ok (.iadd, 1) := by decide +kernel
theorem dX9_body_26 : decode cX9_body 26 = .ok (.putfield 214, 3) := by decide +kernel
theorem dX9_body_29 : decode cX9_body 29 = .ok (.return_, 1) := by decide +kernel
theorem dX9_travellerKnocks_0 : decode cX9_travellerKnocks 0 = .ok (.aload_n 0, 1) := by decide +kernel
theorem dX9_travellerKnocks_1 : decode cX9_travellerKnocks 1 = .ok (.bipush 10, 2) := by decide +kernel
theorem dX9_travellerKnocks_3 : decode cX9_travellerKnocks 3 = .ok (.invokevirtual 413, 3) := by decide +kernel
theorem dX9_travellerKnocks_6 : decode cX9_travellerKnocks 6 = .ok (.iload_n 2, 1) := by decide +kernel
theorem dX9_travellerKnocks_7 : decode cX9_travellerKnocks 7 = .ok (.iload_n 1, 1) := by decide +kernel
theorem dX9_travellerKnocks_8 : decode cX9_travellerKnocks 8 = .ok (.iadd, 1) := by decide +kernel
theorem dX9_travellerKnocks_9 : decode cX9_travellerKnocks 9 = .ok (.ireturn, 1) := by decide +kernel
theorem dX9_knocksAct_0 : decode cX9_knocksAct 0 = .ok (.aload_n 0, 1) := by decide +kernel
theorem dX9_knocksAct_1 : decode cX9_knocksAct 1 = .ok (.getfield 20, 3) := by decide +kernel
theorem dX9_knocksAct_4 : decode cX9_knocksAct 4 = .ok (.iload_n 1, 1) := by decide +kernel
theorem dX9_knocksAct_5 : decode cX9_knocksAct 5 = .ok (.iaload, 1) := by decide +kernel
theorem dX9_knocksAct_6 : decode cX9_knocksAct 6 = .ok (.tableswitch 83 2 6 #[34, 83, 49, 34, 63], 34) := by decide +kernel
theorem dX9_knocksAct_40 : decode cX9_knocksAct 40 = .ok (.aload_n 0, 1) := by decide +kernel
theorem dX9_knocksAct_41 : decode cX9_knocksAct 41 = .ok (.bipush 30, 2) := by decide +kernel
theorem dX9_knocksAct_43 : decode cX9_knocksAct 43 = .ok (.invokevirtual 413, 3) := by decide +kernel
theorem dX9_knocksAct_46 : decode cX9_knocksAct 46 = .ok (.aload_n 0, 1) := by decide +kernel
theorem dX9_knocksAct_47 : decode cX9_knocksAct 47 = .ok (.iload_n 1, 1) := by decide +kernel
theorem dX9_knocksAct_48 : decode cX9_knocksAct 48 = .ok (.iload_n 2, 1) := by decide +kernel
theorem dX9_knocksAct_49 : decode cX9_knocksAct 49 = .ok (.iconst 3, 1) := by decide +kernel
theorem dX9_knocksAct_50 : decode cX9_knocksAct 50 = .ok (.imul, 1) := by decide +kernel
theorem dX9_knocksAct_51 : decode cX9_knocksAct 51 = .ok (.invokevirtual 416, 3) := by decide +kernel
theorem dX9_knocksAct_54 : decode cX9_knocksAct 54 = .ok (.ireturn, 1) := by decide +kernel
theorem dX9_knocksAct_55 : decode cX9_knocksAct 55 = .ok (.aload_n 0, 1) := by decide +kernel
theorem dX9_knocksAct_56 : decode cX9_knocksAct 56 = .ok (.bipush 50, 2) := by decide +kernel
theorem dX9_knocksAct_58 : decode cX9_knocksAct 58 = .ok (.invokevirtual 413, 3) := by decide +kernel
theorem dX9_knocksAct_61 : decode cX9_knocksAct 61 = .ok (.aload_n 0, 1) := by decide +kernel
theorem dX9_knocksAct_62 : decode cX9_knocksAct 62 = .ok (.iload_n 1, 1) := by decide +kernel
theorem dX9_knocksAct_63 : decode cX9_knocksAct 63 = .ok (.iload_n 2, 1) := by decide +kernel
theorem dX9_knocksAct_64 : decode cX9_knocksAct 64 = .ok (.invokevirtual 416, 3) := by decide +kernel
theorem dX9_knocksAct_67 : decode cX9_knocksAct 67 = .ok (.ineg, 1) := by decide +kernel
theorem dX9_knocksAct_68 : decode cX9_knocksAct 68 = .ok (.ireturn, 1) := by decide +kernel
theorem dX9_knocksAct_69 : decode cX9_knocksAct 69 = .ok (.aload_n 0, 1) := by decide +kernel
theorem dX9_knocksAct_70 : decode cX9_knocksAct 70 = .ok (.bipush 71, 2) := by decide +kernel
theorem dX9_knocksAct_72 : decode cX9_knocksAct 72 = .ok (.invokevirtual 413, 3) := by decide +kernel
theorem dX9_knocksAct_75 : decode cX9_knocksAct 75 = .ok (.aload_n 0, 1) := by decide +kernel
theorem dX9_knocksAct_76 : decode cX9_knocksAct 76 = .ok (.iload_n 1, 1) := by decide +kernel
theorem dX9_knocksAct_77 : decode cX9_knocksAct 77 = .ok (.iload_n 2, 1) := by decide +kernel
theorem dX9_knocksAct_78 : decode cX9_knocksAct 78 = .ok (.invokevirtual 416, 3) := by decide +kernel
theorem dX9_knocksAct_81 : decode cX9_knocksAct 81 = .ok (.aload_n 0, 1) := by decide +kernel
theorem dX9_knocksAct_82 : decode cX9_knocksAct 82 = .ok (.getfield 23, 3) := by decide +kernel
theorem dX9_knocksAct_85 : decode cX9_knocksAct 85 = .ok (.iload_n 1, 1) := by decide +kernel
theorem dX9_knocksAct_86 : decode cX9_knocksAct 86 = .ok (.iaload, 1) := by decide +kernel
theorem dX9_knocksAct_87 : decode cX9_knocksAct 87 = .ok (.ixor, 1) := by decide +kernel
theorem dX9_knocksAct_88 : decode cX9_knocksAct 88 = .ok (.ireturn, 1) := by decide +kernel
theorem dX9_knocksAct_89 : decode cX9_knocksAct 89 = .ok (.aload_n 0, 1) := by decide +kernel
theorem dX9_knocksAct_90 : decode cX9_knocksAct 90 = .ok (.iload_n 1, 1) := by decide +kernel
theorem dX9_knocksAct_91 : decode cX9_knocksAct 91 = .ok (.iload_n 2, 1) := by decide +kernel
theorem dX9_knocksAct_92 : decode cX9_knocksAct 92 = .ok (.invokevirtual 416, 3) := by decide +kernel
theorem dX9_knocksAct_95 : decode cX9_knocksAct 95 = .ok (.ireturn, 1) := by decide +kernel
theorem dX9_travellerDraws_0 : decode cX9_travellerDraws 0 = .ok (.aload_n 0, 1) := by decide +kernel
theorem dX9_travellerDraws_1 : decode cX9_travellerDraws 1 = .ok (.bipush 11, 2) := by decide +kernel
theorem dX9_travellerDraws_3 : decode cX9_travellerDraws 3 = .ok (.invokevirtual 413, 3) := by decide +kernel
theorem dX9_travellerDraws_6 : decode cX9_travellerDraws 6 = .ok (.aload_n 0, 1) := by decide +kernel
theorem dX9_travellerDraws_7 : decode cX9_travellerDraws 7 = .ok (.iload_n 1, 1) := by decide +kernel
theorem dX9_travellerDraws_8 : decode cX9_travellerDraws 8 = .ok (.iload_n 2, 1) := by decide +kernel
theorem dX9_travellerDraws_9 : decode cX9_travellerDraws 9 = .ok (.invokevirtual 419, 3) := by decide +kernel
theorem dX9_travellerDraws_12 : decode cX9_travellerDraws 12 = .ok (.aload_n 0, 1) := by decide +kernel
theorem dX9_travellerDraws_13 : decode cX9_travellerDraws 13 = .ok (.getfield 23, 3) := by decide +kernel
theorem dX9_travellerDraws_16 : decode cX9_travellerDraws 16 = .ok (.iload_n 1, 1) := by decide +kernel
theorem dX9_travellerDraws_17 : decode cX9_travellerDraws 17 = .ok (.iaload, 1) := by decide +kernel
theorem dX9_travellerDraws_18 : decode cX9_travellerDraws 18 = .ok (.isub, 1) := by decide +kernel
theorem dX9_travellerDraws_19 : decode cX9_travellerDraws 19 = .ok (.ireturn, 1) := by decide +kernel
theorem dX9_beautyDraws_0 : decode cX9_beautyDraws 0 = .ok (.aload_n 0, 1) := by decide +kernel
theorem dX9_beautyDraws_1 : decode cX9_beautyDraws 1 = .ok (.bipush 20, 2) := by decide +kernel
theorem dX9_beautyDraws_3 : decode cX9_beautyDraws 3 = .ok (.invokevirtual 413, 3) := by decide +kernel
theorem dX9_beautyDraws_6 : decode cX9_beautyDraws 6 = .ok (.aload_n 0, 1) := by decide +kernel
theorem dX9_beautyDraws_7 : decode cX9_beautyDraws 7 = .ok (.iload_n 1, 1) := by decide +kernel
theorem dX9_beautyDraws_8 : decode cX9_beautyDraws 8 = .ok (.iload_n 2, 1) := by decide +kernel
theorem dX9_beautyDraws_9 : decode cX9_beautyDraws 9 = .ok (.invokevirtual 422, 3) := by decide +kernel
theorem dX9_beautyDraws_12 : decode cX9_beautyDraws 12 = .ok (.bipush 6, 2) := by decide +kernel
theorem dX9_beautyDraws_14 : decode cX9_beautyDraws 14 = .ok (.ixor, 1) := by decide +kernel
theorem dX9_beautyDraws_15 : decode cX9_beautyDraws 15 = .ok (.ireturn, 1) := by decide +kernel
theorem dX9_drawsAct_0 : decode cX9_drawsAct 0 = .ok (.aload_n 0, 1) := by decide +kernel
theorem dX9_drawsAct_1 : decode cX9_drawsAct 1 = .ok (.getfield 20, 3) := by decide +kernel
theorem dX9_drawsAct_4 : decode cX9_drawsAct 4 = .ok (.iload_n 1, 1) := by decide +kernel
theorem dX9_drawsAct_5 : decode cX9_drawsAct 5 = .ok (.iaload, 1) := by decide +kernel
theorem dX9_drawsAct_6 : decode cX9_drawsAct 6 = .ok (.lookupswitch 78 #[(1, 34), (4, 41), (6, 56)], 34) := by decide +kernel
theorem dX9_drawsAct_40 : decode cX9_drawsAct 40 = .ok (.aload_n 0, 1) := by decide +kernel
theorem dX9_drawsAct_41 : decode cX9_drawsAct 41 = .ok (.iload_n 1, 1) := by decide +kernel
theorem dX9_drawsAct_42 : decode cX9_drawsAct 42 = .ok (.iload_n 2, 1) := by decide +kernel
theorem dX9_drawsAct_43 : decode cX9_drawsAct 43 = .ok (.invokevirtual 425, 3) := by decide +kernel
theorem dX9_drawsAct_46 : decode cX9_drawsAct 46 = .ok (.ireturn, 1) := by decide +kernel
theorem dX9_drawsAct_47 : decode cX9_drawsAct 47 = .ok (.aload_n 0, 1) := by decide +kernel
theorem dX9_drawsAct_48 : decode cX9_drawsAct 48 = .ok (.bipush 51, 2) := by decide +kernel
theorem dX9_drawsAct_50 : decode cX9_drawsAct 50 = .ok (.invokevirtual 413, 3) := by decide +kernel
theorem dX9_drawsAct_53 : decode cX9_drawsAct 53 = .ok (.aload_n 0, 1) := by decide +kernel
theorem dX9_drawsAct_54 : decode cX9_drawsAct 54 = .ok (.iload_n 1, 1) := by decide +kernel
theorem dX9_drawsAct_55 : decode cX9_drawsAct 55 = .ok (.iload_n 2, 1) := by decide +kernel
theorem dX9_drawsAct_56 : decode cX9_drawsAct 56 = .ok (.iconst 1, 1) := by decide +kernel
theorem dX9_drawsAct_57 : decode cX9_drawsAct 57 = .ok (.iadd, 1) := by decide +kernel
theorem dX9_drawsAct_58 : decode cX9_drawsAct 58 = .ok (.invokevirtual 425, 3) := by decide +kernel
theorem dX9_drawsAct_61 : decode cX9_drawsAct 61 = .ok (.ireturn, 1) := by decide +kernel
theorem dX9_drawsAct_62 : decode cX9_drawsAct 62 = .ok (.aload_n 0, 1) := by decide +kernel
theorem dX9_drawsAct_63 : decode cX9_drawsAct 63 = .ok (.bipush 70, 2) := by decide +kernel
theorem dX9_drawsAct_65 : decode cX9_drawsAct 65 = .ok (.invokevirtual 413, 3) := by decide +kernel
theorem dX9_drawsAct_68 : decode cX9_drawsAct 68 = .ok (.aload_n 0, 1) := by decide +kernel
theorem dX9_drawsAct_69 : decode cX9_drawsAct 69 = .ok (.iload_n 1, 1) := by decide +kernel
theorem dX9_drawsAct_70 : decode cX9_drawsAct 70 = .ok (.iload_n 2, 1) := by decide +kernel
theorem dX9_drawsAct_71 : decode cX9_drawsAct 71 = .ok (.invokevirtual 422, 3) := by decide +kernel
theorem dX9_drawsAct_74 : decode cX9_drawsAct 74 = .ok (.istore_n 3, 1) := by decide +kernel
theorem dX9_drawsAct_75 : decode cX9_drawsAct 75 = .ok (.iload_n 3, 1) := by decide +kernel
theorem dX9_drawsAct_76 : decode cX9_drawsAct 76 = .ok (.aload_n 0, 1) := by decide +kernel
theorem dX9_drawsAct_77 : decode cX9_drawsAct 77 = .ok (.iload_n 1, 1) := by decide +kernel
theorem dX9_drawsAct_78 : decode cX9_drawsAct 78 = .ok (.iconst 2, 1) := by decide +kernel
theorem dX9_drawsAct_79 : decode cX9_drawsAct 79 = .ok (.invokevirtual 416, 3) := by decide +kernel
theorem dX9_drawsAct_82 : decode cX9_drawsAct 82 = .ok (.iadd, 1) := by decide +kernel
theorem dX9_drawsAct_83 : decode cX9_drawsAct 83 = .ok (.ireturn, 1) := by decide +kernel
theorem dX9_drawsAct_84 : decode cX9_drawsAct 84 = .ok (.aload_n 0, 1) := by decide +kernel
theorem dX9_drawsAct_85 : decode cX9_drawsAct 85 = .ok (.iload_n 1, 1) := by decide +kernel
theorem dX9_drawsAct_86 : decode cX9_drawsAct 86 = .ok (.iload_n 2, 1) := by decide +kernel
theorem dX9_drawsAct_87 : decode cX9_drawsAct 87 = .ok (.invokevirtual 422, 3) := by decide +kernel
theorem dX9_drawsAct_90 : decode cX9_drawsAct 90 = .ok (.ireturn, 1) := by decide +kernel
theorem dX9_travellerTells_0 : decode cX9_travellerTells 0 = .ok (.aload_n 0, 1) := by decide +kernel
theorem dX9_travellerTells_1 : decode cX9_travellerTells 1 = .ok (.bipush 12, 2) := by decide +kernel
theorem dX9_travellerTells_3 : decode cX9_travellerTells 3 = .ok (.invokevirtual 413, 3) := by decide +kernel
theorem dX9_travellerTells_6 : decode cX9_travellerTells 6 = .ok (.aload_n 0, 1) := by decide +kernel
theorem dX9_travellerTells_7 : decode cX9_travellerTells 7 = .ok (.iload_n 1, 1) := by decide +kernel
theorem dX9_travellerTells_8 : decode cX9_travellerTells 8 = .ok (.iload_n 2, 1) := by decide +kernel
theorem dX9_travellerTells_9 : decode cX9_travellerTells 9 = .ok (.invokevirtual 428, 3) := by decide +kernel
theorem dX9_travellerTells_12 : decode cX9_travellerTells 12 = .ok (.iconst 2, 1) := by decide +kernel
theorem dX9_travellerTells_13 : decode cX9_travellerTells 13 = .ok (.imul, 1) := by decide +kernel
theorem dX9_travellerTells_14 : decode cX9_travellerTells 14 = .ok (.ireturn, 1) := by decide +kernel
theorem dX9_tellsAct_0 : decode cX9_tellsAct 0 = .ok (.aload_n 0, 1) := by decide +kernel
theorem dX9_tellsAct_1 : decode cX9_tellsAct 1 = .ok (.getfield 20, 3) := by decide +kernel
theorem dX9_tellsAct_4 : decode cX9_tellsAct 4 = .ok (.iload_n 1, 1) := by decide +kernel
theorem dX9_tellsAct_5 : decode cX9_tellsAct 5 = .ok (.iaload, 1) := by decide +kernel
theorem dX9_tellsAct_6 : decode cX9_tellsAct 6 = .ok (.tableswitch 67 3 6 #[30, 67, 52, 30], 30) := by decide +kernel
theorem dX9_tellsAct_36 : decode cX9_tellsAct 36 = .ok (.aload_n 0, 1) := by decide +kernel
theorem dX9_tellsAct_37 : decode cX9_tellsAct 37 = .ok (.bipush 40, 2) := by decide +kernel
theorem dX9_tellsAct_39 : decode cX9_tellsAct 39 = .ok (.invokevirtual 413, 3) := by decide +kernel
theorem dX9_tellsAct_42 : decode cX9_tellsAct 42 = .ok (.aload_n 0, 1) := by decide +kernel
theorem dX9_tellsAct_43 : decode cX9_tellsAct 43 = .ok (.iload_n 1, 1) := by decide +kernel
theorem dX9_tellsAct_44 : decode cX9_tellsAct 44 = .ok (.iload_n 2, 1) := by decide +kernel
theorem dX9_tellsAct_45 : decode cX9_tellsAct 45 = .ok (.invokevirtual 431, 3) := by decide +kernel
theorem dX9_tellsAct_48 : decode cX9_tellsAct 48 = .ok (.istore_n 3, 1) := by decide +kernel
theorem dX9_tellsAct_49 : decode cX9_tellsAct 49 = .ok (.iload_n 3, 1) := by decide +kernel
theorem dX9_tellsAct_50 : decode cX9_tellsAct 50 = .ok (.aload_n 0, 1) := by decide +kernel
theorem dX9_tellsAct_51 : decode cX9_tellsAct 51 = .ok (.iload_n 1, 1) := by decide +kernel
theorem dX9_tellsAct_52 : decode cX9_tellsAct 52 = .ok (.iconst 1, 1) := by decide +kernel
theorem dX9_tellsAct_53 : decode cX9_tellsAct 53 = .ok (.invokevirtual 428, 3) := by decide +kernel
theorem dX9_tellsAct_56 : decode cX9_tellsAct 56 = .ok (.iadd, 1) := by decide +kernel
theorem dX9_tellsAct_57 : decode cX9_tellsAct 57 = .ok (.ireturn, 1) := by decide +kernel
theorem dX9_tellsAct_58 : decode cX9_tellsAct 58 = .ok (.aload_n 0, 1) := by decide +kernel
theorem dX9_tellsAct_59 : decode cX9_tellsAct 59 = .ok (.bipush 60, 2) := by decide +kernel
theorem dX9_tellsAct_61 : decode cX9_tellsAct 61 = .ok (.invokevirtual 413, 3) := by decide +kernel
theorem dX9_tellsAct_64 : decode cX9_tellsAct 64 = .ok (.aload_n 0, 1) := by decide +kernel
theorem dX9_tellsAct_65 : decode cX9_tellsAct 65 = .ok (.iload_n 1, 1) := by decide +kernel
theorem dX9_tellsAct_66 : decode cX9_tellsAct 66 = .ok (.iload_n 2, 1) := by decide +kernel
theorem dX9_tellsAct_67 : decode cX9_tellsAct 67 = .ok (.iload_n 1, 1) := by decide +kernel
theorem dX9_tellsAct_68 : decode cX9_tellsAct 68 = .ok (.isub, 1) := by decide +kernel
theorem dX9_tellsAct_69 : decode cX9_tellsAct 69 = .ok (.invokevirtual 431, 3) := by decide +kernel
theorem dX9_tellsAct_72 : decode cX9_tellsAct 72 = .ok (.ireturn, 1) := by decide +kernel
theorem dX9_tellsAct_73 : decode cX9_tellsAct 73 = .ok (.aload_n 0, 1) := by decide +kernel
theorem dX9_tellsAct_74 : decode cX9_tellsAct 74 = .ok (.iload_n 1, 1) := by decide +kernel
theorem dX9_tellsAct_75 : decode cX9_tellsAct 75 = .ok (.iload_n 2, 1) := by decide +kernel
theorem dX9_tellsAct_76 : decode cX9_tellsAct 76 = .ok (.invokevirtual 431, 3) := by decide +kernel
theorem dX9_tellsAct_79 : decode cX9_tellsAct 79 = .ok (.ireturn, 1) := by decide +kernel
theorem dX9_act_0 : decode cX9_act 0 = .ok (.aload_n 0, 1) := by decide +kernel
theorem dX9_act_1 : decode cX9_act 1 = .ok (.iconst 0, 1) := by decide +kernel
theorem dX9_act_2 : decode cX9_act 2 = .ok (.putfield 214, 3) := by decide +kernel
theorem dX9_act_5 : decode cX9_act 5 = .ok (.aload_n 0, 1) := by decide +kernel
theorem dX9_act_6 : decode cX9_act 6 = .ok (.iload_n 1, 1) := by decide +kernel
theorem dX9_act_7 : decode cX9_act 7 = .ok (.invokevirtual 245, 3) := by decide +kernel
theorem dX9_act_10 : decode cX9_act 10 = .ok (.ifCond .eq 13, 3) := by decide +kernel
theorem dX9_act_13 : decode cX9_act 13 = .ok (.aload_n 0, 1) := by decide +kernel
theorem dX9_act_14 : decode cX9_act 14 = .ok (.iload_n 2, 1) := by decide +kernel
theorem dX9_act_15 : decode cX9_act 15 = .ok (.iconst 0, 1) := by decide +kernel
theorem dX9_act_16 : decode cX9_act 16 = .ok (.iconst 2, 1) := by decide +kernel
theorem dX9_act_17 : decode cX9_act 17 = .ok (.invokevirtual 237, 3) := by decide +kernel
theorem dX9_act_20 : decode cX9_act 20 = .ok (.ifCond .ne 5, 3) := by decide +kernel
theorem dX9_act_23 : decode cX9_act 23 = .ok (.iconst 0, 1) := by decide +kernel
theorem dX9_act_24 : decode cX9_act 24 = .ok (.ireturn, 1) := by decide +kernel
theorem dX9_act_25 : decode cX9_act 25 = .ok (.iload_n 2, 1) := by decide +kernel
theorem dX9_act_26 : decode cX9_act 26 = .ok (.ifCond .ne 12, 3) := by decide +kernel
theorem dX9_act_29 : decode cX9_act 29 = .ok (.aload_n 0, 1) := by decide +kernel
theorem dX9_act_30 : decode cX9_act 30 = .ok (.iload_n 1, 1) := by decide +kernel
theorem dX9_act_31 : decode cX9_act 31 = .ok (.iload_n 3, 1) := by decide +kernel
theorem dX9_act_32 : decode cX9_act 32 = .ok (.invokevirtual 419, 3) := by decide +kernel
theorem dX9_act_35 : decode cX9_act 35 = .ok (.goto 23, 3) := by decide +kernel
theorem dX9_act_38 : decode cX9_act 38 = .ok (.iload_n 2, 1) := by decide +kernel
theorem dX9_act_39 : decode cX9_act 39 = .ok (.iconst 1, 1) := by decide +kernel
theorem dX9_act_40 : decode cX9_act 40 = .ok (.if_icmp .ne 12, 3) := by decide +kernel
theorem dX9_act_43 : decode cX9_act 43 = .ok (.aload_n 0, 1) := by decide +kernel
theorem dX9_act_44 : decode cX9_act 44 = .ok (.iload_n 1, 1) := by decide +kernel
theorem dX9_act_45 : decode cX9_act 45 = .ok (.iload_n 3, 1) := by decide +kernel
theorem dX9_act_46 : decode cX9_act 46 = .ok (.invokevirtual 428, 3) := by decide +kernel
theorem dX9_act_49 : decode cX9_act 49 = .ok (.goto 9, 3) := by decide +kernel
theorem dX9_act_52 : decode cX9_act 52 = .ok (.aload_n 0, 1) := by decide +kernel
theorem dX9_act_53 : decode cX9_act 53 = .ok (.iload_n 1, 1) := by decide +kernel
theorem dX9_act_54 : decode cX9_act 54 = .ok (.iload_n 3, 1) := by decide +kernel
theorem dX9_act_55 : decode cX9_act 55 = .ok (.invokevirtual 434, 3) := by decide +kernel
theorem dX9_act_58 : decode cX9_act 58 = .ok (.ireturn, 1) := by decide +kernel
theorem dX9_trace_0 : decode cX9_trace 0 = .ok (.aload_n 0, 1) := by decide +kernel
theorem dX9_trace_1 : decode cX9_trace 1 = .ok (.iload_n 1, 1) := by decide +kernel
theorem dX9_trace_2 : decode cX9_trace 2 = .ok (.iconst 0, 1) := by decide +kernel
theorem dX9_trace_3 : decode cX9_trace 3 = .ok (.bipush 19, 2) := by decide +kernel
theorem dX9_trace_5 : decode cX9_trace 5 = .ok (.invokevirtual 237, 3) := by decide +kernel
theorem dX9_trace_8 : decode cX9_trace 8 = .ok (.ifCond .eq 20, 3) := by decide +kernel
theorem dX9_trace_11 : decode cX9_trace 11 = .ok (.iload_n 1, 1) := by decide +kernel
theorem dX9_trace_12 : decode cX9_trace 12 = .ok (.aload_n 0, 1) := by decide +kernel
theorem dX9_trace_13 : decode cX9_trace 13 = .ok (.getfield 214, 3) := by decide +kernel
theorem dX9_trace_16 : decode cX9_trace 16 = .ok (.if_icmp .ge 12, 3) := by decide +kernel
theorem dX9_trace_19 : decode cX9_trace 19 = .ok (.aload_n 0, 1) := by decide +kernel
theorem dX9_trace_20 : decode cX9_trace 20 = .ok (.getfield 217, 3) := by decide +kernel
theorem dX9_trace_23 : decode cX9_trace 23 = .ok (.iload_n 1, 1) := by decide +kernel
theorem dX9_trace_24 : decode cX9_trace 24 = .ok (.iaload, 1) := by decide +kernel
theorem dX9_trace_25 : decode cX9_trace 25 = .ok (.goto 4, 3) := by decide +kernel
theorem dX9_trace_28 : decode cX9_trace 28 = .ok (.iconst (-1), 1) := by decide +kernel
theorem dX9_trace_29 : decode cX9_trace 29 = .ok (.ireturn, 1) := by decide +kernel
theorem dX9_taken_0 : decode cX9_taken 0 = .ok (.aload_n 0, 1) := by decide +kernel
theorem dX9_taken_1 : decode cX9_taken 1 = .ok (.iload_n 2, 1) := by decide +kernel
theorem dX9_taken_2 : decode cX9_taken 2 = .ok (.iconst 0, 1) := by decide +kernel
theorem dX9_taken_3 : decode cX9_taken 3 = .ok (.bipush 6, 2) := by decide +kernel
theorem dX9_taken_5 : decode cX9_taken 5 = .ok (.invokevirtual 237, 3) := by decide +kernel
theorem dX9_taken_8 : decode cX9_taken 8 = .ok (.ifCond .ne 6, 3) := by decide +kernel
theorem dX9_taken_11 : decode cX9_taken 11 = .ok (.bipush (-2), 2) := by decide +kernel
theorem dX9_taken_13 : decode cX9_taken 13 = .ok (.ireturn, 1) := by decide +kernel
theorem dX9_taken_14 : decode cX9_taken 14 = .ok (.aload_n 0, 1) := by decide +kernel
theorem dX9_taken_15 : decode cX9_taken 15 = .ok (.iload_n 1, 1) := by decide +kernel
theorem dX9_taken_16 : decode cX9_taken 16 = .ok (.invokevirtual 245, 3) := by decide +kernel
theorem dX9_taken_19 : decode cX9_taken 19 = .ok (.ifCond .ne 6, 3) := by decide +kernel
theorem dX9_taken_22 : decode cX9_taken 22 = .ok (.bipush (-11), 2) := by decide +kernel
theorem dX9_taken_24 : decode cX9_taken 24 = .ok (.ireturn, 1) := by decide +kernel
theorem dX9_taken_25 : decode cX9_taken 25 = .ok (.aload_n 0, 1) := by decide +kernel
theorem dX9_taken_26 : decode cX9_taken 26 = .ok (.getfield 20, 3) := by decide +kernel
theorem dX9_taken_29 : decode cX9_taken 29 = .ok (.iload_n 1, 1) := by decide +kernel
theorem dX9_taken_30 : decode cX9_taken 30 = .ok (.iaload, 1) := by decide +kernel
theorem dX9_taken_31 : decode cX9_taken 31 = .ok (.istore_n 3, 1) := by decide +kernel
theorem dX9_taken_32 : decode cX9_taken 32 = .ok (.iload_n 2, 1) := by decide +kernel
theorem dX9_taken_33 : decode cX9_taken 33 = .ok (.ifCond .eq 39, 3) := by decide +kernel
theorem dX9_taken_36 : decode cX9_taken 36 = .ok (.iload_n 3, 1) := by decide +kernel
theorem dX9_taken_37 : decode cX9_taken 37 = .ok (.iload_n 2, 1) := by decide +kernel
theorem dX9_taken_38 : decode cX9_taken 38 = .ok (.if_icmp .eq 34, 3) := by decide +kernel
theorem dX9_taken_41 : decode cX9_taken 41 = .ok (.iload_n 2, 1) := by decide +kernel
theorem dX9_taken_42 : decode cX9_taken 42 = .ok (.iconst 1, 1) := by decide +kernel
theorem dX9_taken_43 : decode cX9_taken 43 = .ok (.if_icmp .ne 8, 3) := by decide +kernel
theorem dX9_taken_46 : decode cX9_taken 46 = .ok (.iload_n 3, 1) := by decide +kernel
theorem dX9_taken_47 : decode cX9_taken 47 = .ok (.iconst 4, 1) := by decide +kernel
theorem dX9_taken_48 : decode cX9_taken 48 = .ok (.if_icmp .eq 24, 3) := by decide +kernel
theorem dX9_taken_51 : decode cX9_taken 51 = .ok (.iload_n 2, 1) := by decide +kernel
theorem dX9_taken_52 : decode cX9_taken 52 = .ok (.iconst 2, 1) := by decide +kernel
theorem dX9_taken_53 : decode cX9_taken 53 = .ok (.if_icmp .ne 8, 3) := by decide +kernel
theorem dX9_taken_56 : decode cX9_taken 56 = .ok (.iload_n 3, 1) := by decide +kernel
theorem dX9_taken_57 : decode cX9_taken 57 = .ok (.iconst 5, 1) := by decide +kernel
theorem dX9_taken_58 : decode cX9_taken 58 = .ok (.if_icmp .eq 14, 3) := by decide +kernel
theorem dX9_taken_61 : decode cX9_taken 61 = .ok (.iload_n 2, 1) := by decide +kernel
theorem dX9_taken_62 : decode cX9_taken 62 = .ok (.iconst 3, 1) := by decide +kernel
theorem dX9_taken_63 : decode cX9_taken 63 = .ok (.if_icmp .ne 13, 3) := by decide +kernel
theorem dX9_taken_66 : decode cX9_taken 66 = .ok (.iload_n 3, 1) := by decide +kernel
theorem dX9_taken_67 : decode cX9_taken 67 = .ok (.bipush 6, 2) := by decide +kernel
theorem dX9_taken_69 : decode cX9_taken 69 = .ok (.if_icmp .ne 7, 3) := by decide +kernel
theorem dX9_taken_72 : decode cX9_taken 72 = .ok (.iload_n 3, 1) := by decide +kernel
theorem dX9_taken_73 : decode cX9_taken 73 = .ok (.goto 5, 3) := by decide +kernel
theorem dX9_taken_76 : decode cX9_taken 76 = .ok (.bipush (-12), 2) := by decide +kernel
theorem dX9_taken_78 : decode cX9_taken 78 = .ok (.ireturn, 1) := by decide +kernel
theorem dX9_count_0 : decode cX9_count 0 = .ok (.iload_n 1, 1) := by decide +kernel
theorem dX9_count_1 : decode cX9_count 1 = .ok (.tableswitch 78 0 6 #[43, 48, 53, 58, 63, 68, 73], 43) := by decide +kernel
theorem dX9_count_44 : decode cX9_count 44 = .ok (.aload_n 0, 1) := by decide +kernel
theorem dX9_count_45 : decode cX9_count 45 = .ok (.getfield 7, 3) := by decide +kernel
theorem dX9_count_48 : decode cX9_count 48 = .ok (.ireturn, 1) := by decide +kernel
theorem dX9_count_49 : decode cX9_count 49 = .ok (.aload_n 0, 1) := by decide +kernel
theorem dX9_count_50 : decode cX9_count 50 = .ok (.getfield 41, 3) := by decide +kernel
theorem dX9_count_53 : decode cX9_count 53 = .ok (.ireturn, 1) := by decide +kernel
theorem dX9_count_54 : decode cX9_count 54 = .ok (.aload_n 0, 1) := by decide +kernel
theorem dX9_count_55 : decode cX9_count 55 = .ok (.getfield 117, 3) := by decide +kernel
theorem dX9_count_58 : decode cX9_count 58 = .ok (.ireturn, 1) := by decide +kernel
theorem dX9_count_59 : decode cX9_count 59 = .ok (.aload_n 0, 1) := by decide +kernel
theorem dX9_count_60 : decode cX9_count 60 = .ok (.getfield 129, 3) := by decide +kernel
theorem dX9_count_63 : decode cX9_count 63 = .ok (.ireturn, 1) := by decide +kernel
theorem dX9_count_64 : decode cX9_count 64 = .ok (.aload_n 0, 1) := by decide +kernel
theorem dX9_count_65 : decode cX9_count 65 = .ok (.getfield 132, 3) := by decide +kernel
theorem dX9_count_68 : decode cX9_count 68 = .ok (.ireturn, 1) := by decide +kernel
theorem dX9_count_69 : decode cX9_count 69 = .ok (.aload_n 0, 1) := by decide +kernel
theorem dX9_count_70 : decode cX9_count 70 = .ok (.getfield 47, 3) := by decide +kernel
theorem dX9_count_73 : decode cX9_count 73 = .ok (.ireturn, 1) := by decide +kernel
theorem dX9_count_74 : decode cX9_count 74 = .ok (.aload_n 0, 1) := by decide +kernel
theorem dX9_count_75 : decode cX9_count 75 = .ok (.getfield 214, 3) := by decide +kernel
theorem dX9_count_78 : decode cX9_count 78 = .ok (.ireturn, 1) := by decide +kernel
theorem dX9_count_79 : decode cX9_count 79 = .ok (.bipush (-2), 2) := by decide +kernel
theorem dX9_count_81 : decode cX9_count 81 = .ok (.ireturn, 1) := by decide +kernel
theorem dX9_isTape_0 : decode cX9_isTape 0 = .ok (.aload_n 0, 1) := by decide +kernel
theorem dX9_isTape_1 : decode cX9_isTape 1 = .ok (.iload_n 1, 1) := by decide +kernel
theorem dX9_isTape_2 : decode cX9_isTape 2 = .ok (.iconst 0, 1) := by decide +kernel
theorem dX9_isTape_3 : decode cX9_isTape 3 = .ok (.iconst 5, 1) := by decide +kernel
theorem dX9_isTape_4 : decode cX9_isTape 4 = .ok (.invokevirtual 237, 3) := by decide +kernel
theorem dX9_isTape_7 : decode cX9_isTape 7 = .ok (.ireturn, 1) := by decide +kernel
theorem dX9_tape_0 : decode cX9_tape 0 = .ok (.aload_n 0, 1) := by decide +kernel
theorem dX9_tape_1 : decode cX9_tape 1 = .ok (.iload_n 1, 1) := by decide +kernel
theorem dX9_tape_2 : decode cX9_tape 2 = .ok (.invokevirtual 410, 3) := by decide +kernel
theorem dX9_tape_5 : decode cX9_tape 5 = .ok (.ifCond .ne 5, 3) := by decide +kernel
theorem dX9_tape_8 : decode cX9_tape 8 = .ok (.iconst (-1), 1) := by decide +kernel
theorem dX9_tape_9 : decode cX9_tape 9 = .ok (.ireturn, 1) := by decide +kernel
theorem dX9_tape_10 : decode cX9_tape 10 = .ok (.aload_n 0, 1) := by decide +kernel
theorem dX9_tape_11 : decode cX9_tape 11 = .ok (.iload_n 2, 1) := by decide +kernel
theorem dX9_tape_12 : decode cX9_tape 12 = .ok (.iconst (-1), 1) := by decide +kernel
theorem dX9_tape_13 : decode cX9_tape 13 = .ok (.iconst 4, 1) := by decide +kernel
theorem dX9_tape_14 : decode cX9_tape 14 = .ok (.invokevirtual 237, 3) := by decide +kernel
theorem dX9_tape_17 : decode cX9_tape 17 = .ok (.ifCond .eq 13, 3) := by decide +kernel
theorem dX9_tape_20 : decode cX9_tape 20 = .ok (.iload_n 2, 1) := by decide +kernel
theorem dX9_tape_21 : decode cX9_tape 21 = .ok (.ifCond .lt 12, 3) := by decide +kernel
theorem dX9_tape_24 : decode cX9_tape 24 = .ok (.iload_n 3, 1) := by decide +kernel
theorem dX9_tape_25 : decode cX9_tape 25 = .ok (.bipush 60, 2) := by decide +kernel
theorem dX9_tape_27 : decode cX9_tape 27 = .ok (.if_icmp .le 6, 3) := by decide +kernel
theorem dX9_tape_30 : decode cX9_tape 30 = .ok (.bipush (-2), 2) := by decide +kernel
theorem dX9_tape_32 : decode cX9_tape 32 = .ok (.ireturn, 1) := by decide +kernel
theorem dX9_tape_33 : decode cX9_tape 33 = .ok (.iload_n 2, 1) := by decide +kernel
theorem dX9_tape_34 : decode cX9_tape 34 = .ok (.ifCond .lt 10, 3) := by decide +kernel
theorem dX9_tape_37 : decode cX9_tape 37 = .ok (.iload_n 3, 1) := by decide +kernel
theorem dX9_tape_38 : decode cX9_tape 38 = .ok (.ifCond .ge 6, 3) := by decide +kernel
theorem dX9_tape_41 : decode cX9_tape 41 = .ok (.bipush (-14), 2) := by decide +kernel
theorem dX9_tape_43 : decode cX9_tape 43 = .ok (.ireturn, 1) := by decide +kernel
theorem dX9_tape_44 : decode cX9_tape 44 = .ok (.aload_n 0, 1) := by decide +kernel
theorem dX9_tape_45 : decode cX9_tape 45 = .ok (.getfield 220, 3) := by decide +kernel
theorem dX9_tape_48 : decode cX9_tape 48 = .ok (.iload_n 1, 1) := by decide +kernel
theorem dX9_tape_49 : decode cX9_tape 49 = .ok (.iload_n 2, 1) := by decide +kernel
theorem dX9_tape_50 : decode cX9_tape 50 = .ok (.iastore, 1) := by decide +kernel
theorem dX9_tape_51 : decode cX9_tape 51 = .ok (.aload_n 0, 1) := by decide +kernel
theorem dX9_tape_52 : decode cX9_tape 52 = .ok (.getfield 223, 3) := by decide +kernel
theorem dX9_tape_55 : decode cX9_tape 55 = .ok (.iload_n 1, 1) := by decide +kernel
theorem dX9_tape_56 : decode cX9_tape 56 = .ok (.iload_n 2, 1) := by decide +kernel
theorem dX9_tape_57 : decode cX9_tape 57 = .ok (.ifCond .ge 7, 3) := by decide +kernel
theorem dX9_tape_60 : decode cX9_tape 60 = .ok (.iconst 0, 1) := by decide +kernel
theorem dX9_tape_61 : decode cX9_tape 61 = .ok (.goto 4, 3) := by decide +kernel
theorem dX9_tape_64 : decode cX9_tape 64 = .ok (.iload_n 3, 1) := by decide +kernel
theorem dX9_tape_65 : decode cX9_tape 65 = .ok (.iastore, 1) := by decide +kernel
theorem dX9_tape_66 : decode cX9_tape 66 = .ok (.iconst 0, 1) := by decide +kernel
theorem dX9_tape_67 : decode cX9_tape 67 = .ok (.istore 4, 2) := by decide +kernel
theorem dX9_tape_69 : decode cX9_tape 69 = .ok (.iload 4, 2) := by decide +kernel
theorem dX9_tape_71 : decode cX9_tape 71 = .ok (.bipush 60, 2) := by decide +kernel
theorem dX9_tape_73 : decode cX9_tape 73 = .ok (.if_icmp .ge 22, 3) := by decide +kernel
theorem dX9_tape_76 : decode cX9_tape 76 = .ok (.aload_n 0, 1) := by decide +kernel
theorem dX9_tape_77 : decode cX9_tape 77 = .ok (.getfield 226, 3) := by decide +kernel
theorem dX9_tape_80 : decode cX9_tape 80 = .ok (.bipush 60, 2) := by decide +kernel
theorem dX9_tape_82 : decode cX9_tape 82 = .ok (.iload_n 1, 1) := by decide +kernel
theorem dX9_tape_83 : decode cX9_tape 83 = .ok (.imul, 1) := by decide +kernel
theorem dX9_tape_84 : decode cX9_tape 84 = .ok (.iload 4, 2) := by decide +kernel
theorem dX9_tape_86 : decode cX9_tape 86 = .ok (.iadd, 1) := by decide +kernel
theorem dX9_tape_87 : decode cX9_tape 87 = .ok (.lconst 0, 1) := by decide +kernel
theorem dX9_tape_88 : decode cX9_tape 88 = .ok (.lastore, 1) := by decide +kernel
theorem dX9_tape_89 : decode cX9_tape 89 = .ok (.iinc 4 1, 3) := by decide +kernel
theorem dX9_tape_92 : decode cX9_tape 92 = .ok (.goto (-23), 3) := by decide +kernel
theorem dX9_tape_95 : decode cX9_tape 95 = .ok (.iconst 1, 1) := by decide +kernel
theorem dX9_tape_96 : decode cX9_tape 96 = .ok (.ireturn, 1) := by decide +kernel
theorem dX9_narrow_0 : decode cX9_narrow 0 = .ok (.iload_n 1, 1) := by decide +kernel
theorem dX9_narrow_1 : decode cX9_narrow 1 = .ok (.ifCond .ne 10, 3) := by decide +kernel
theorem dX9_narrow_4 : decode cX9_narrow 4 = .ok (.lload_n 2, 1) := by decide +kernel
theorem dX9_narrow_5 : decode cX9_narrow 5 = .ok (.l2i, 1) := by decide +kernel
theorem dX9_narrow_6 : decode cX9_narrow 6 = .ok (.i2b, 1) := by decide +kernel
theorem dX9_narrow_7 : decode cX9_narrow 7 = .ok (.i2l, 1) := by decide +kernel
theorem dX9_narrow_8 : decode cX9_narrow 8 = .ok (.goto 46, 3) := by decide +kernel
theorem dX9_narrow_11 : decode cX9_narrow 11 = .ok (.iload_n 1, 1) := by decide +kernel
theorem dX9_narrow_12 : decode cX9_narrow 12 = .ok (.iconst 1, 1) := by decide +kernel
theorem dX9_narrow_13 : decode cX9_narrow 13 = .ok (.if_icmp .ne 10, 3) := by decide +kernel
theorem dX9_narrow_16 : decode cX9_narrow 16 = .ok (.lload_n 2, 1) := by decide +kernel
theorem dX9_narrow_17 : decode cX9_narrow 17 = .ok (.l2i, 1) := by decide +kernel
theorem dX9_narrow_18 : decode cX9_narrow 18 = .ok (.i2s, 1) := by decide +kernel
theorem dX9_narrow_19 : decode cX9_narrow 19 = .ok (.i2l, 1) := by decide +kernel
theorem dX9_narrow_20 : decode cX9_narrow 20 = .ok (.goto 34, 3) := by decide +kernel
theorem dX9_narrow_23 : decode cX9_narrow 23 = .ok (.iload_n 1, 1) := by decide +kernel
theorem dX9_narrow_24 : decode cX9_narrow 24 = .ok (.iconst 2, 1) := by decide +kernel
theorem dX9_narrow_25 : decode cX9_narrow 25 = .ok (.if_icmp .ne 9, 3) := by decide +kernel
theorem dX9_narrow_28 : decode cX9_narrow 28 = .ok (.lload_n 2, 1) := by decide +kernel
theorem dX9_narrow_29 : decode cX9_narrow 29 = .ok (.l2i, 1) := by decide +kernel
theorem dX9_narrow_30 : decode cX9_narrow 30 = .ok (.i2l, 1) := by decide +kernel
theorem dX9_narrow_31 : decode cX9_narrow 31 = .ok (.goto 23, 3) := by decide +kernel
theorem dX9_narrow_34 : decode cX9_narrow 34 = .ok (.iload_n 1, 1) := by decide +kernel
theorem dX9_narrow_35 : decode cX9_narrow 35 = .ok (.iconst 4, 1) := by decide +kernel
theorem dX9_narrow_36 : decode cX9_narrow 36 = .ok (.if_icmp .ne 17, 3) := by decide +kernel
theorem dX9_narrow_39 : decode cX9_narrow 39 = .ok (.lload_n 2, 1) := by decide +kernel
theorem dX9_narrow_40 : decode cX9_narrow 40 = .ok (.lconst 0, 1) := by decide +kernel
theorem dX9_narrow_41 : decode cX9_narrow 41 = .ok (.lcmp, 1) := by decide +kernel
theorem dX9_narrow_42 : decode cX9_narrow 42 = .ok (.ifCond .eq 7, 3) := by decide +kernel
theorem dX9_narrow_45 : decode cX9_narrow 45 = .ok (.lconst 1, 1) := by decide +kernel
theorem dX9_narrow_46 : decode cX9_narrow 46 = .ok (.goto 8, 3) := by decide +kernel
theorem dX9_narrow_49 : decode cX9_narrow 49 = .ok (.lconst 0, 1) := by decide +kernel
theorem dX9_narrow_50 : decode cX9_narrow 50 = .ok (.goto 4, 3) := by decide +kernel
theorem dX9_narrow_53 : decode cX9_narrow 53 = .ok (.lload_n 2, 1) := by decide +kernel
theorem dX9_narrow_54 : decode cX9_narrow 54 = .ok (.lreturn, 1) := by decide +kernel
theorem dX9_item_0 : decode cX9_item 0 = .ok (.aload_n 0, 1) := by decide +kernel
theorem dX9_item_1 : decode cX9_item 1 = .ok (.iload_n 1, 1) := by decide +kernel
theorem dX9_item_2 : decode cX9_item 2 = .ok (.invokevirtual 410, 3) := by decide +kernel
theorem dX9_item_5 : decode cX9_item 5 = .ok (.ifCond .ne 5, 3) := by decide +kernel
theorem dX9_item_8 : decode cX9_item 8 = .ok (.iconst (-1), 1) := by decide +kernel
theorem dX9_item_9 : decode cX9_item 9 = .ok (.ireturn, 1) := by decide +kernel
theorem dX9_item_10 : decode cX9_item 10 = .ok (.aload_n 0, 1) := by decide +kernel
theorem dX9_item_11 : decode cX9_item 11 = .ok (.getfield 220, 3) := by decide +kernel
theorem dX9_item_14 : decode cX9_item 14 = .ok (.iload_n 1, 1) := by decide +kernel
theorem dX9_item_15 : decode cX9_item 15 = .ok (.iaload, 1) := by decide +kernel
theorem dX9_item_16 : decode cX9_item 16 = .ok (.ifCond .ge 6, 3) := by decide +kernel
theorem dX9_item_19 : decode cX9_item 19 = .ok (.bipush (-11), 2) := by decide +kernel
theorem dX9_item_21 : decode cX9_item 21 = .ok (.ireturn, 1) := by decide +kernel
theorem dX9_item_22 : decode cX9_item 22 = .ok (.aload_n 0, 1) := by decide +kernel
theorem dX9_item_23 : decode cX9_item 23 = .ok (.iload_n 2, 1) := by decide +kernel
theorem dX9_item_24 : decode cX9_item 24 = .ok (.iconst 0, 1) := by decide +kernel
theorem dX9_item_25 : decode cX9_item 25 = .ok (.aload_n 0, 1) := by decide +kernel
theorem dX9_item_26 : decode cX9_item 26 = .ok (.getfield 223, 3) := by decide +kernel
theorem dX9_item_29 : decode cX9_item 29 = .ok (.iload_n 1, 1) := by decide +kernel
theorem dX9_item_30 : decode cX9_item 30 = .ok (.iaload, 1) := by decide +kernel
theorem dX9_item_31 : decode cX9_item 31 = .ok (.iconst 1, 1) := by decide +kernel
theorem dX9_item_32 : decode cX9_item 32 = .ok (.isub, 1) := by decide +kernel
theorem dX9_item_33 : decode cX9_item 33 = .ok (.invokevirtual 237, 3) := by decide +kernel
theorem dX9_item_36 : decode cX9_item 36 = .ok (.ifCond .ne 6, 3) := by decide +kernel
theorem dX9_item_39 : decode cX9_item 39 = .ok (.bipush (-13), 2) := by decide +kernel
theorem dX9_item_41 : decode cX9_item 41 = .ok (.ireturn, 1) := by decide +kernel
theorem dX9_item_42 : decode cX9_item 42 = .ok (.aload_n 0, 1) := by decide +kernel
theorem dX9_item_43 : decode cX9_item 43 = .ok (.getfield 226, 3) := by decide +kernel
theorem dX9_item_46 : decode cX9_item 46 = .ok (.bipush 60, 2) := by decide +kernel
theorem dX9_item_48 : decode cX9_item 48 = .ok (.iload_n 1, 1) := by decide +kernel
theorem dX9_item_49 : decode cX9_item 49 = .ok (.imul, 1) := by decide +kernel
theorem dX9_item_50 : decode cX9_item 50 = .ok (.iload_n 2, 1) := by decide +kernel
theorem dX9_item_51 : decode cX9_item 51 = .ok (.iadd, 1) := by decide +kernel
theorem dX9_item_52 : decode cX9_item 52 = .ok (.aload_n 0, 1) := by decide +kernel
theorem dX9_item_53 : decode cX9_item 53 = .ok (.aload_n 0, 1) := by decide +kernel
theorem dX9_item_54 : decode cX9_item 54 = .ok (.getfield 220, 3) := by decide +kernel
theorem dX9_item_57 : decode cX9_item 57 = .ok (.iload_n 1, 1) := by decide +kernel
theorem dX9_item_58 : decode cX9_item 58 = .ok (.iaload, 1) := by decide +kernel
theorem dX9_item_59 : decode cX9_item 59 = .ok (.lload_n 3, 1) := by decide +kernel
theorem dX9_item_60 : decode cX9_item 60 = .ok (.invokevirtual 437, 3) := by decide +kernel
theorem dX9_item_63 : decode cX9_item 63 = .ok (.lastore, 1) := by decide +kernel
theorem dX9_item_64 : decode cX9_item 64 = .ok (.iconst 1, 1) := by decide +kernel
theorem dX9_item_65 : decode cX9_item 65 = .ok (.ireturn, 1) := by decide +kernel
theorem dX9_read_0 : decode cX9_read 0 = .ok (.aload_n 0, 1) := by decide +kernel
theorem dX9_read_1 : decode cX9_read 1 = .ok (.iload_n 1, 1) := by decide +kernel
theorem dX9_read_2 : decode cX9_read 2 = .ok (.invokevirtual 410, 3) := by decide +kernel
theorem dX9_read_5 : decode cX9_read 5 = .ok (.ifCond .eq 29, 3) := by decide +kernel
theorem dX9_read_8 : decode cX9_read 8 = .ok (.aload_n 0, 1) := by decide +kernel
theorem dX9_read_9 : decode cX9_read 9 = .ok (.getfield 220, 3) := by decide +kernel
theorem dX9_read_12 : decode cX9_read 12 = .ok (.iload_n 1, 1) := by decide +kernel
theorem dX9_read_13 : decode cX9_read 13 = .ok (.iaload, 1) := by decide +kernel
theorem dX9_read_14 : decode cX9_read 14 = .ok (.ifCond .lt 20, 3) := by decide +kernel
theorem dX9_read_17 : decode cX9_read 17 = .ok (.aload_n 0, 1) := by decide +kernel
theorem dX9_read_18 : decode cX9_read 18 = .ok (.iload_n 2, 1) := by decide +kernel
theorem dX9_read_19 : decode cX9_read 19 = .ok (.iconst 0, 1) := by decide +kernel
theorem dX9_read_20 : decode cX9_read 20 = .ok (.aload_n 0, 1) := by decide +kernel
theorem dX9_read_21 : decode cX9_read 21 = .ok (.getfield 223, 3) := by decide +kernel
theorem dX9_read_24 : decode cX9_read 24 = .ok (.iload_n 1, 1) := by decide +kernel
theorem dX9_read_25 : decode cX9_read 25 = .ok (.iaload, 1) := by decide +kernel
theorem dX9_read_26 : decode cX9_read 26 = .ok (.iconst 1, 1) := by decide +kernel
theorem dX9_read_27 : decode cX9_read 27 = .ok (.isub, 1) := by decide +kernel
theorem dX9_read_28 : decode cX9_read 28 = .ok (.invokevirtual 237, 3) := by decide +kernel
theorem dX9_read_31 : decode cX9_read 31 = .ok (.ifCond .ne 9, 3) := by decide +kernel
theorem dX9_read_34 : decode cX9_read 34 = .ok (.ldc2_w 401, 3) := by decide +kernel
theorem dX9_read_37 : decode cX9_read 37 = .ok (.goto 14, 3) := by decide +kernel
theorem dX9_read_40 : decode cX9_read 40 = .ok (.aload_n 0, 1) := by decide +kernel
theorem dX9_read_41 : decode cX9_read 41 = .ok (.getfield 226, 3) := by decide +kernel
theorem dX9_read_44 : decode cX9_read 44 = .ok (.bipush 60, 2) := by decide +kernel
theorem dX9_read_46 : decode cX9_read 46 = .ok (.iload_n 1, 1) := by decide +kernel
theorem dX9_read_47 : decode cX9_read 47 = .ok (.imul, 1) := by decide +kernel
theorem dX9_read_48 : decode cX9_read 48 = .ok (.iload_n 2, 1) := by decide +kernel
theorem dX9_read_49 : decode cX9_read 49 = .ok (.iadd, 1) := by decide +kernel
theorem dX9_read_50 : decode cX9_read 50 = .ok (.laload, 1) := by decide +kernel
theorem dX9_read_51 : decode cX9_read 51 = .ok (.lreturn, 1) := by decide +kernel
theorem dX9_shift_0 : decode cX9_shift 0 = .ok (.aload_n 0, 1) := by decide +kernel
theorem dX9_shift_1 : decode cX9_shift 1 = .ok (.iload_n 1, 1) := by decide +kernel
theorem dX9_shift_2 : decode cX9_shift 2 = .ok (.invokevirtual 410, 3) := by decide +kernel
theorem dX9_shift_5 : decode cX9_shift 5 = .ok (.ifCond .eq 11, 3) := by decide +kernel
theorem dX9_shift_8 : decode cX9_shift 8 = .ok (.aload_n 0, 1) := by decide +kernel
theorem dX9_shift_9 : decode cX9_shift 9 = .ok (.iload_n 3, 1) := by decide +kernel
theorem dX9_shift_10 : decode cX9_shift 10 = .ok (.invokevirtual 410, 3) := by decide +kernel
theorem dX9_shift_13 : decode cX9_shift 13 = .ok (.ifCond .ne 5, 3) := by decide +kernel
theorem dX9_shift_16 : decode cX9_shift 16 = .ok (.iconst (-1), 1) := by decide +kernel
theorem dX9_shift_17 : decode cX9_shift 17 = .ok (.ireturn, 1) := by decide +kernel
theorem dX9_shift_18 : decode cX9_shift 18 = .ok (.aload_n 0, 1) := by decide +kernel
theorem dX9_shift_19 : decode cX9_shift 19 = .ok (.getfield 220, 3) := by decide +kernel
theorem dX9_shift_22 : decode cX9_shift 22 = .ok (.iload_n 1, 1) := by decide +kernel
theorem dX9_shift_23 : decode cX9_shift 23 = .ok (.iaload, 1) := by decide +kernel
theorem dX9_shift_24 : decode cX9_shift 24 = .ok (.ifCond .lt 12, 3) := by decide +kernel
theorem dX9_shift_27 : decode cX9_shift 27 = .ok (.aload_n 0, 1) := by decide +kernel
theorem dX9_shift_28 : decode cX9_shift 28 = .ok (.getfield 220, 3) := by decide +kernel
theorem dX9_shift_31 : decode cX9_shift 31 = .ok (.iload_n 3, 1) := by decide +kernel
theorem dX9_shift_32 : decode cX9_shift 32 = .ok (.iaload, 1) := by decide +kernel
theorem dX9_shift_33 : decode cX9_shift 33 = .ok (.ifCond .ge 6, 3) := by decide +kernel
theorem dX9_shift_36 : decode cX9_shift 36 = .ok (.bipush (-11), 2) := by decide +kernel
theorem dX9_shift_38 : decode cX9_shift 38 = .ok (.ireturn, 1) := by decide +kernel
theorem dX9_shift_39 : decode cX9_shift 39 = .ok (.aload_n 0, 1) := by decide +kernel
theorem dX9_shift_40 : decode cX9_shift 40 = .ok (.getfield 220, 3) := by decide +kernel
theorem dX9_shift_43 : decode cX9_shift 43 = .ok (.iload_n 1, 1) := by decide +kernel
theorem dX9_shift_44 : decode cX9_shift 44 = .ok (.iaload, 1) := by decide +kernel
theorem dX9_shift_45 : decode cX9_shift 45 = .ok (.aload_n 0, 1) := by decide +kernel
theorem dX9_shift_46 : decode cX9_shift 46 = .ok (.getfield 220, 3) := by decide +kernel
theorem dX9_shift_49 : decode cX9_shift 49 = .ok (.iload_n 3, 1) := by decide +kernel
theorem dX9_shift_50 : decode cX9_shift 50 = .ok (.iaload, 1) := by decide +kernel
theorem dX9_shift_51 : decode cX9_shift 51 = .ok (.if_icmp .eq 6, 3) := by decide +kernel
theorem dX9_shift_54 : decode cX9_shift 54 = .ok (.bipush (-12), 2) := by decide +kernel
theorem dX9_shift_56 : decode cX9_shift 56 = .ok (.ireturn, 1) := by decide +kernel
theorem dX9_shift_57 : decode cX9_shift 57 = .ok (.iload 5, 2) := by decide +kernel
theorem dX9_shift_59 : decode cX9_shift 59 = .ok (.ifCond .lt 39, 3) := by decide +kernel
theorem dX9_shift_62 : decode cX9_shift 62 = .ok (.iload_n 2, 1) := by decide +kernel
theorem dX9_shift_63 : decode cX9_shift 63 = .ok (.ifCond .lt 35, 3) := by decide +kernel
theorem dX9_shift_66 : decode cX9_shift 66 = .ok (.iload 4, 2) := by decide +kernel
theorem dX9_shift_68 : decode cX9_shift 68 = .ok (.ifCond .lt 30, 3) := by decide +kernel
theorem dX9_shift_71 : decode cX9_shift 71 = .ok (.iload_n 2, 1) := by decide +kernel
theorem dX9_shift_72 : decode cX9_shift 72 = .ok (.aload_n 0, 1) := by decide +kernel
theorem dX9_shift_73 : decode cX9_shift 73 = .ok (.getfield 223, 3) := by decide +kernel
theorem dX9_shift_76 : decode cX9_shift 76 = .ok (.iload_n 1, 1) := by decide +kernel
theorem dX9_shift_77 : decode cX9_shift 77 = .ok (.iaload, 1) := by decide +kernel
theorem dX9_shift_78 : decode cX9_shift 78 = .ok (.iload 5, 2) := by decide +kernel
theorem dX9_shift_80 : decode cX9_shift 80 = .ok (.isub, 1) := by decide +kernel
theorem dX9_shift_81 : decode cX9_shift 81 = .ok (.if_icmp .gt 17, 3) := by decide +kernel
theorem dX9_shift_84 : decode cX9_shift 84 = .ok (.iload 4, 2) := by decide +kernel
theorem dX9_shift_86 : decode cX9_shift 86 = .ok (.aload_n 0, 1) := by decide +kernel
theorem dX9_shift_87 : decode cX9_shift 87 = .ok (.getfield 223, 3) := by decide +kernel
theorem dX9_shift_90 : decode cX9_shift 90 = .ok (.iload_n 3, 1) := by decide +kernel
theorem dX9_shift_91 : decode cX9_shift 91 = .ok (.iaload, 1) := by decide +kernel
theorem dX9_shift_92 : decode cX9_shift 92 = .ok (.iload 5, 2) := by decide +kernel
theorem dX9_shift_94 : decode cX9_shift 94 = .ok (.isub, 1) := by decide +kernel
theorem dX9_shift_95 : decode cX9_shift 95 = .ok (.if_icmp .le 6, 3) := by decide +kernel
theorem dX9_shift_98 : decode cX9_shift 98 = .ok (.bipush (-13), 2) := by decide +kernel
theorem dX9_shift_100 : decode cX9_shift 100 = .ok (.ireturn, 1) := by decide +kernel
theorem dX9_shift_101 : decode cX9_shift 101 = .ok (.iconst 0, 1) := by decide +kernel
theorem dX9_shift_102 : decode cX9_shift 102 = .ok (.istore 6, 2) := by decide +kernel
theorem dX9_shift_104 : decode cX9_shift 104 = .ok (.iload 6, 2) := by decide +kernel
theorem dX9_shift_106 : decode cX9_shift 106 = .ok (.iload 5, 2) := by decide +kernel
theorem dX9_shift_108 : decode cX9_shift 108 = .ok (.if_icmp .ge 30, 3) := by decide +kernel
theorem dX9_shift_111 : decode cX9_shift 111 = .ok (.aload_n 0, 1) := by decide +kernel
theorem dX9_shift_112 : decode cX9_shift 112 = .ok (.getfield 230, 3) := by decide +kernel
theorem dX9_shift_115 : decode cX9_shift 115 = .ok (.iload 6, 2) := by decide +kernel
theorem dX9_shift_117 : decode cX9_shift 117 = .ok (.aload_n 0, 1) := by decide +kernel
theorem dX9_shift_118 : decode cX9_shift 118 = .ok (.getfield 226, 3) := by decide +kernel
theorem dX9_shift_121 : decode cX9_shift 121 = .ok (.bipush 60, 2) := by decide +kernel
theorem dX9_shift_123 : decode cX9_shift 123 = .ok (.iload_n 1, 1) := by decide +kernel
theorem dX9_shift_124 : decode cX9_shift 124 = .ok (.imul, 1) := by decide +kernel
theorem dX9_shift_125 : decode cX9_shift 125 = .ok (.iload_n 2, 1) := by decide +kernel
theorem dX9_shift_126 : decode cX9_shift 126 = .ok (.iadd, 1) := by decide +kernel
theorem dX9_shift_127 : decode cX9_shift 127 = .ok (.iload 6, 2) := by decide +kernel
theorem dX9_shift_129 : decode cX9_shift 129 = .ok (.iadd, 1) := by decide +kernel
theorem dX9_shift_130 : decode cX9_shift 130 = .ok (.laload, 1) := by decide +kernel
theorem dX9_shift_131 : decode cX9_shift 131 = .ok (.lastore, 1) := by decide +kernel
theorem dX9_shift_132 : decode cX9_shift 132 = .ok (.iinc 6 1, 3) := by decide +kernel
theorem dX9_shift_135 : decode cX9_shift 135 = .ok (.goto (-31), 3) := by decide +kernel
theorem dX9_shift_138 : decode cX9_shift 138 = .ok (.iconst 0, 1) := by decide +kernel
theorem dX9_shift_139 : decode cX9_shift 139 = .ok (.istore 6, 2) := by decide +kernel
theorem dX9_shift_141 : decode cX9_shift 141 = .ok (.iload 6, 2) := by decide +kernel
theorem dX9_shift_143 : decode cX9_shift 143 = .ok (.iload 5, 2) := by decide +kernel
theorem dX9_shift_145 : decode cX9_shift 145 = .ok (.if_icmp .ge 31, 3) := by decide +kernel
theorem dX9_shift_148 : decode cX9_shift 148 = .ok (.aload_n 0, 1) := by decide +kernel
theorem dX9_shift_149 : decode cX9_shift 149 = .ok (.getfield 226, 3) := by decide +kernel
theorem dX9_shift_152 : decode cX9_shift 152 = .ok (.bipush 60, 2) := by decide +kernel
theorem dX9_shift_154 : decode cX9_shift 154 = .ok (.iload_n 3, 1) := by decide +kernel
theorem dX9_shift_155 : decode cX9_shift 155 = .ok (.imul, 1) := by decide +kernel
theorem dX9_shift_156 : decode cX9_shift 156 = .ok (.iload 4, 2) := by decide +kernel
theorem dX9_shift_158 : decode cX9_shift 158 = .ok (.iadd, 1) := by decide +kernel
theorem dX9_shift_159 : decode cX9_shift 159 = .ok (.iload 6, 2) := by decide +kernel
theorem dX9_shift_161 : decode cX9_shift 161 = .ok (.iadd, 1) := by decide +kernel
theorem dX9_shift_162 : decode cX9_shift 162 = .ok (.aload_n 0, 1) := by decide +kernel
theorem dX9_shift_163 : decode cX9_shift 163 = .ok (.getfield 230, 3) := by decide +kernel
theorem dX9_shift_166 : decode cX9_shift 166 = .ok (.iload 6, 2) := by decide +kernel
theorem dX9_shift_168 : decode cX9_shift 168 = .ok (.laload, 1) := by decide +kernel
theorem dX9_shift_169 : decode cX9_shift 169 = .ok (.lastore, 1) := by decide +kernel
theorem dX9_shift_170 : decode cX9_shift 170 = .ok (.iinc 6 1, 3) := by decide +kernel
theorem dX9_shift_173 : decode cX9_shift 173 = .ok (.goto (-32), 3) := by decide +kernel
theorem dX9_shift_176 : decode cX9_shift 176 = .ok (.iload 5, 2) := by decide +kernel
theorem dX9_shift_178 : decode cX9_shift 178 = .ok (.ireturn, 1) := by decide +kernel
