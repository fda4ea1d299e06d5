theorem dX0_init_0 : decode cX0_init 0 = .ok (.aload_n 0, 1) := by decide +kernel
theorem dX0_init_1 : decode cX0_init 1 = .ok (.invokespecial 3, 3) := by decide +kernel
theorem dX0_init_4 : decode cX0_init 4 = .ok (.aload_n 0, 1) := by decide +kernel
theorem dX0_init_5 : decode cX0_init 5 = .ok (.bipush 20, 2) := by decide +kernel
theorem dX0_init_7 : decode cX0_init 7 = .ok (.newarray .int, 2) := by decide +kernel
theorem dX0_init_9 : decode cX0_init 9 = .ok (.putfield 11, 3) := by decide +kernel
theorem dX0_init_12 : decode cX0_init 12 = .ok (.return_, 1) := by decide +kernel
theorem dX0_kept_0 : decode cX0_kept 0 = .ok (.aload_n 0, 1) := by decide +kernel
theorem dX0_kept_1 : decode cX0_kept 1 = .ok (.getfield 15, 3) := by decide +kernel
theorem dX0_kept_4 : decode cX0_kept 4 = .ok (.bipush 20, 2) := by decide +kernel
theorem dX0_kept_6 : decode cX0_kept 6 = .ok (.invokestatic 19, 3) := by decide +kernel
theorem dX0_kept_9 : decode cX0_kept 9 = .ok (.ireturn, 1) := by decide +kernel
theorem dX0_begin_0 : decode cX0_begin 0 = .ok (.aload_n 0, 1) := by decide +kernel
theorem dX0_begin_1 : decode cX0_begin 1 = .ok (.iload_n 1, 1) := by decide +kernel
theorem dX0_begin_2 : decode cX0_begin 2 = .ok (.putfield 25, 3) := by decide +kernel
theorem dX0_begin_5 : decode cX0_begin 5 = .ok (.aload_n 0, 1) := by decide +kernel
theorem dX0_begin_6 : decode cX0_begin 6 = .ok (.iload_n 2, 1) := by decide +kernel
theorem dX0_begin_7 : decode cX0_begin 7 = .ok (.putfield 28, 3) := by decide +kernel
theorem dX0_begin_10 : decode cX0_begin 10 = .ok (.aload_n 0, 1) := by decide +kernel
theorem dX0_begin_11 : decode cX0_begin 11 = .ok (.iload_n 3, 1) := by decide +kernel
theorem dX0_begin_12 : decode cX0_begin 12 = .ok (.putfield 31, 3) := by decide +kernel
theorem dX0_begin_15 : decode cX0_begin 15 = .ok (.aload_n 0, 1) := by decide +kernel
theorem dX0_begin_16 : decode cX0_begin 16 = .ok (.iload 4, 2) := by decide +kernel
theorem dX0_begin_18 : decode cX0_begin 18 = .ok (.iload_n 2, 1) := by decide +kernel
theorem dX0_begin_19 : decode cX0_begin 19 = .ok (.iload 5, 2) := by decide +kernel
theorem dX0_begin_21 : decode cX0_begin 21 = .ok (.iconst 0, 1) := by decide +kernel
theorem dX0_begin_22 : decode cX0_begin 22 = .ok (.invokevirtual 34, 3) := by decide +kernel
theorem dX0_begin_25 : decode cX0_begin 25 = .ok (.ireturn, 1) := by decide +kernel
theorem dX0_run_0 : decode cX0_run 0 = .ok (.bipush 7, 2) := by decide +kernel
theorem dX0_run_2 : decode cX0_run 2 = .ok (.iload_n 1, 1) := by decide +kernel
theorem dX0_run_3 : decode cX0_run 3 = .ok (.imul, 1) := by decide +kernel
theorem dX0_run_4 : decode cX0_run 4 = .ok (.iload_n 2, 1) := by decide +kernel
theorem dX0_run_5 : decode cX0_run 5 = .ok (.iadd, 1) := by decide +kernel
theorem dX0_run_6 : decode cX0_run 6 = .ok (.istore 5, 2) := by decide +kernel
theorem dX0_run_8 : decode cX0_run 8 = .ok (.iload 4, 2) := by decide +kernel
theorem dX0_run_10 : decode cX0_run 10 = .ok (.bipush 20, 2) := by decide +kernel
theorem dX0_run_12 : decode cX0_run 12 = .ok (.if_icmp .gt 17, 3) := by decide +kernel
theorem dX0_run_15 : decode cX0_run 15 = .ok (.iload 5, 2) := by decide +kernel
theorem dX0_run_17 : decode cX0_run 17 = .ok (.ifCond .lt 12, 3) := by decide +kernel
theorem dX0_run_20 : decode cX0_run 20 = .ok (.iload 5, 2) := by decide +kernel
theorem dX0_run_22 : decode cX0_run 22 = .ok (.getstatic 38, 3) := by decide +kernel
theorem dX0_run_25 : decode cX0_run 25 = .ok (.arraylength, 1) := by decide +kernel
theorem dX0_run_26 : decode cX0_run 26 = .ok (.if_icmp .lt 5, 3) := by decide +kernel
theorem dX0_run_29 : decode cX0_run 29 = .ok (.iconst 0, 1) := by decide +kernel
theorem dX0_run_30 : decode cX0_run 30 = .ok (.ireturn, 1) := by decide +kernel
theorem dX0_run_31 : decode cX0_run 31 = .ok (.getstatic 38, 3) := by decide +kernel
theorem dX0_run_34 : decode cX0_run 34 = .ok (.iload 5, 2) := by decide +kernel
theorem dX0_run_36 : decode cX0_run 36 = .ok (.iaload, 1) := by decide +kernel
theorem dX0_run_37 : decode cX0_run 37 = .ok (.istore 6, 2) := by decide +kernel
theorem dX0_run_39 : decode cX0_run 39 = .ok (.aload_n 0, 1) := by decide +kernel
theorem dX0_run_40 : decode cX0_run 40 = .ok (.iload 6, 2) := by decide +kernel
theorem dX0_run_42 : decode cX0_run 42 = .ok (.invokevirtual 41, 3) := by decide +kernel
theorem dX0_run_45 : decode cX0_run 45 = .ok (.iload 4, 2) := by decide +kernel
theorem dX0_run_47 : decode cX0_run 47 = .ok (.iconst 1, 1) := by decide +kernel
theorem dX0_run_48 : decode cX0_run 48 = .ok (.iadd, 1) := by decide +kernel
theorem dX0_run_49 : decode cX0_run 49 = .ok (.istore 7, 2) := by decide +kernel
theorem dX0_run_51 : decode cX0_run 51 = .ok (.iload 6, 2) := by decide +kernel
theorem dX0_run_53 : decode cX0_run 53 = .ok (.lookupswitch 260 #[(10, 99), (11, 106), (12, 124), (20, 139), (30, 152), (40, 164), (50, 187), (51, 198), (60, 210), (70, 225), (71, 245)], 99) := by decide +kernel
theorem dX0_run_152 : decode cX0_run 152 = .ok (.iload_n 3, 1) := by decide +kernel
theorem dX0_run_153 : decode cX0_run 153 = .ok (.aload_n 0, 1) := by decide +kernel
theorem dX0_run_154 : decode cX0_run 154 = .ok (.getfield 25, 3) := by decide +kernel
theorem dX0_run_157 : decode cX0_run 157 = .ok (.iadd, 1) := by decide +kernel
theorem dX0_run_158 : decode cX0_run 158 = .ok (.ireturn, 1) := by decide +kernel
theorem dX0_run_159 : decode cX0_run 159 = .ok (.aload_n 0, 1) := by decide +kernel
theorem dX0_run_160 : decode cX0_run 160 = .ok (.iconst 0, 1) := by decide +kernel
theorem dX0_run_161 : decode cX0_run 161 = .ok (.aload_n 0, 1) := by decide +kernel
theorem dX0_run_162 : decode cX0_run 162 = .ok (.getfield 28, 3) := by decide +kernel
theorem dX0_run_165 : decode cX0_run 165 = .ok (.iload_n 3, 1) := by decide +kernel
theorem dX0_run_166 : decode cX0_run 166 = .ok (.iload 7, 2) := by decide +kernel
theorem dX0_run_168 : decode cX0_run 168 = .ok (.invokevirtual 34, 3) := by decide +kernel
theorem dX0_run_171 : decode cX0_run 171 = .ok (.aload_n 0, 1) := by decide +kernel
theorem dX0_run_172 : decode cX0_run 172 = .ok (.getfield 31, 3) := by decide +kernel
theorem dX0_run_175 : decode cX0_run 175 = .ok (.isub, 1) := by decide +kernel
theorem dX0_run_176 : decode cX0_run 176 = .ok (.ireturn, 1) := by decide +kernel
theorem dX0_run_177 : decode cX0_run 177 = .ok (.aload_n 0, 1) := by decide +kernel
theorem dX0_run_178 : decode cX0_run 178 = .ok (.iconst 1, 1) := by decide +kernel
theorem dX0_run_179 : decode cX0_run 179 = .ok (.aload_n 0, 1) := by decide +kernel
theorem dX0_run_180 : decode cX0_run 180 = .ok (.getfield 28, 3) := by decide +kernel
theorem dX0_run_183 : decode cX0_run 183 = .ok (.iload_n 3, 1) := by decide +kernel
theorem dX0_run_184 : decode cX0_run 184 = .ok (.iload 7, 2) := by decide +kernel
theorem dX0_run_186 : decode cX0_run 186 = .ok (.invokevirtual 34, 3) := by decide +kernel
theorem dX0_run_189 : decode cX0_run 189 = .ok (.iconst 2, 1) := by decide +kernel
theorem dX0_run_190 : decode cX0_run 190 = .ok (.imul, 1) := by decide +kernel
theorem dX0_run_191 : decode cX0_run 191 = .ok (.ireturn, 1) := by decide +kernel
theorem dX0_run_192 : decode cX0_run 192 = .ok (.aload_n 0, 1) := by decide +kernel
theorem dX0_run_193 : decode cX0_run 193 = .ok (.iconst 1, 1) := by decide +kernel
theorem dX0_run_194 : decode cX0_run 194 = .ok (.iconst 0, 1) := by decide +kernel
theorem dX0_run_195 : decode cX0_run 195 = .ok (.iload_n 3, 1) := by decide +kernel
theorem dX0_run_196 : decode cX0_run 196 = .ok (.iload 7, 2) := by decide +kernel
theorem dX0_run_198 : decode cX0_run 198 = .ok (.invokevirtual 34, 3) := by decide +kernel
theorem dX0_run_201 : decode cX0_run 201 = .ok (.bipush 6, 2) := by decide +kernel
theorem dX0_run_203 : decode cX0_run 203 = .ok (.ixor, 1) := by decide +kernel
theorem dX0_run_204 : decode cX0_run 204 = .ok (.ireturn, 1) := by decide +kernel
theorem dX0_run_205 : decode cX0_run 205 = .ok (.aload_n 0, 1) := by decide +kernel
theorem dX0_run_206 : decode cX0_run 206 = .ok (.iconst 0, 1) := by decide +kernel
theorem dX0_run_207 : decode cX0_run 207 = .ok (.iconst 0, 1) := by decide +kernel
theorem dX0_run_208 : decode cX0_run 208 = .ok (.iload_n 3, 1) := by decide +kernel
theorem dX0_run_209 : decode cX0_run 209 = .ok (.iconst 3, 1) := by decide +kernel
theorem dX0_run_210 : decode cX0_run 210 = .ok (.imul, 1) := by decide +kernel
theorem dX0_run_211 : decode cX0_run 211 = .ok (.iload 7, 2) := by decide +kernel
theorem dX0_run_213 : decode cX0_run 213 = .ok (.invokevirtual 34, 3) := by decide +kernel
theorem dX0_run_216 : decode cX0_run 216 = .ok (.ireturn, 1) := by decide +kernel
theorem dX0_run_217 : decode cX0_run 217 = .ok (.aload_n 0, 1) := by decide +kernel
theorem dX0_run_218 : decode cX0_run 218 = .ok (.iconst 2, 1) := by decide +kernel
theorem dX0_run_219 : decode cX0_run 219 = .ok (.iconst 0, 1) := by decide +kernel
theorem dX0_run_220 : decode cX0_run 220 = .ok (.iload_n 3, 1) := by decide +kernel
theorem dX0_run_221 : decode cX0_run 221 = .ok (.iload 7, 2) := by decide +kernel
theorem dX0_run_223 : decode cX0_run 223 = .ok (.invokevirtual 34, 3) := by decide +kernel
theorem dX0_run_226 : decode cX0_run 226 = .ok (.aload_n 0, 1) := by decide +kernel
theorem dX0_run_227 : decode cX0_run 227 = .ok (.iconst 1, 1) := by decide +kernel
theorem dX0_run_228 : decode cX0_run 228 = .ok (.aload_n 0, 1) := by decide +kernel
theorem dX0_run_229 : decode cX0_run 229 = .ok (.getfield 28, 3) := by decide +kernel
theorem dX0_run_232 : decode cX0_run 232 = .ok (.iconst 1, 1) := by decide +kernel
theorem dX0_run_233 : decode cX0_run 233 = .ok (.iload 7, 2) := by decide +kernel
theorem dX0_run_235 : decode cX0_run 235 = .ok (.invokevirtual 34, 3) := by decide +kernel
theorem dX0_run_238 : decode cX0_run 238 = .ok (.iadd, 1) := by decide +kernel
theorem dX0_run_239 : decode cX0_run 239 = .ok (.ireturn, 1) := by decide +kernel
theorem dX0_run_240 : decode cX0_run 240 = .ok (.aload_n 0, 1) := by decide +kernel
theorem dX0_run_241 : decode cX0_run 241 = .ok (.iconst 0, 1) := by decide +kernel
theorem dX0_run_242 : decode cX0_run 242 = .ok (.iconst 1, 1) := by decide +kernel
theorem dX0_run_243 : decode cX0_run 243 = .ok (.iload_n 3, 1) := by decide +kernel
theorem dX0_run_244 : decode cX0_run 244 = .ok (.iload 7, 2) := by decide +kernel
theorem dX0_run_246 : decode cX0_run 246 = .ok (.invokevirtual 34, 3) := by decide +kernel
theorem dX0_run_249 : decode cX0_run 249 = .ok (.ineg, 1) := by decide +kernel
theorem dX0_run_250 : decode cX0_run 250 = .ok (.ireturn, 1) := by decide +kernel
theorem dX0_run_251 : decode cX0_run 251 = .ok (.aload_n 0, 1) := by decide +kernel
theorem dX0_run_252 : decode cX0_run 252 = .ok (.iconst 1, 1) := by decide +kernel
theorem dX0_run_253 : decode cX0_run 253 = .ok (.iconst 1, 1) := by decide +kernel
theorem dX0_run_254 : decode cX0_run 254 = .ok (.iload_n 3, 1) := by decide +kernel
theorem dX0_run_255 : decode cX0_run 255 = .ok (.iconst 1, 1) := by decide +kernel
theorem dX0_run_256 : decode cX0_run 256 = .ok (.iadd, 1) := by decide +kernel
theorem dX0_run_257 : decode cX0_run 257 = .ok (.iload 7, 2) := by decide +kernel
theorem dX0_run_259 : decode cX0_run 259 = .ok (.invokevirtual 34, 3) := by decide +kernel
theorem dX0_run_262 : decode cX0_run 262 = .ok (.ireturn, 1) := by decide +kernel
theorem dX0_run_263 : decode cX0_run 263 = .ok (.aload_n 0, 1) := by decide +kernel
theorem dX0_run_264 : decode cX0_run 264 = .ok (.iconst 2, 1) := by decide +kernel
theorem dX0_run_265 : decode cX0_run 265 = .ok (.iconst 2, 1) := by decide +kernel
theorem dX0_run_266 : decode cX0_run 266 = .ok (.iload_n 3, 1) := by decide +kernel
theorem dX0_run_267 : decode cX0_run 267 = .ok (.aload_n 0, 1) := by decide +kernel
theorem dX0_run_268 : decode cX0_run 268 = .ok (.getfield 25, 3) := by decide +kernel
theorem dX0_run_271 : decode cX0_run 271 = .ok (.isub, 1) := by decide +kernel
theorem dX0_run_272 : decode cX0_run 272 = .ok (.iload 7, 2) := by decide +kernel
theorem dX0_run_274 : decode cX0_run 274 = .ok (.invokevirtual 34, 3) := by decide +kernel
theorem dX0_run_277 : decode cX0_run 277 = .ok (.ireturn, 1) := by decide +kernel
theorem dX0_run_278 : decode cX0_run 278 = .ok (.aload_n 0, 1) := by decide +kernel
theorem dX0_run_279 : decode cX0_run 279 = .ok (.iconst 1, 1) := by decide +kernel
theorem dX0_run_280 : decode cX0_run 280 = .ok (.iconst 3, 1) := by decide +kernel
theorem dX0_run_281 : decode cX0_run 281 = .ok (.iload_n 3, 1) := by decide +kernel
theorem dX0_run_282 : decode cX0_run 282 = .ok (.iload 7, 2) := by decide +kernel
theorem dX0_run_284 : decode cX0_run 284 = .ok (.invokevirtual 34, 3) := by decide +kernel
theorem dX0_run_287 : decode cX0_run 287 = .ok (.aload_n 0, 1) := by decide +kernel
theorem dX0_run_288 : decode cX0_run 288 = .ok (.iconst 0, 1) := by decide +kernel
theorem dX0_run_289 : decode cX0_run 289 = .ok (.iconst 3, 1) := by decide +kernel
theorem dX0_run_290 : decode cX0_run 290 = .ok (.iconst 2, 1) := by decide +kernel
theorem dX0_run_291 : decode cX0_run 291 = .ok (.iload 7, 2) := by decide +kernel
theorem dX0_run_293 : decode cX0_run 293 = .ok (.invokevirtual 34, 3) := by decide +kernel
theorem dX0_run_296 : decode cX0_run 296 = .ok (.iadd, 1) := by decide +kernel
theorem dX0_run_297 : decode cX0_run 297 = .ok (.ireturn, 1) := by decide +kernel
theorem dX0_run_298 : decode cX0_run 298 = .ok (.aload_n 0, 1) := by decide +kernel
theorem dX0_run_299 : decode cX0_run 299 = .ok (.iconst 0, 1) := by decide +kernel
theorem dX0_run_300 : decode cX0_run 300 = .ok (.iconst 3, 1) := by decide +kernel
theorem dX0_run_301 : decode cX0_run 301 = .ok (.iload_n 3, 1) := by decide +kernel
theorem dX0_run_302 : decode cX0_run 302 = .ok (.iload 7, 2) := by decide +kernel
theorem dX0_run_304 : decode cX0_run 304 = .ok (.invokevirtual 34, 3) := by decide +kernel
theorem dX0_run_307 : decode cX0_run 307 = .ok (.aload_n 0, 1) := by decide +kernel
theorem dX0_run_308 : decode cX0_run 308 = .ok (.getfield 31, 3) := by decide +kernel
theorem dX0_run_311 : decode cX0_run 311 = .ok (.ixor, 1) := by decide +kernel
theorem dX0_run_312 : decode cX0_run 312 = .ok (.ireturn, 1) := by decide +kernel
theorem dX0_run_313 : decode cX0_run 313 = .ok (.iconst 0, 1) := by decide +kernel
theorem dX0_run_314 : decode cX0_run 314 = .ok (.ireturn, 1) := by decide +kernel
theorem dX0_note_0 : decode cX0_note 0 = .ok (.aload_n 0, 1) := by decide +kernel
theorem dX0_note_1 : decode cX0_note 1 = .ok (.getfield 15, 3) := by decide +kernel
theorem dX0_note_4 : decode cX0_note 4 = .ok (.bipush 20, 2) := by decide +kernel
theorem dX0_note_6 : decode cX0_note 6 = .ok (.if_icmp .ge 13, 3) := by decide +kernel
theorem dX0_note_9 : decode cX0_note 9 = .ok (.aload_n 0, 1) := by decide +kernel
theorem dX0_note_10 : decode cX0_note 10 = .ok (.getfield 11, 3) := by decide +kernel
theorem dX0_note_13 : decode cX0_note 13 = .ok (.aload_n 0, 1) := by decide +kernel
theorem dX0_note_14 : decode cX0_note 14 = .ok (.getfield 15, 3) := by decide +kernel
theorem dX0_note_17 : decode cX0_note 17 = .ok (.iload_n 1, 1) := by decide +kernel
theorem dX0_note_18 : decode cX0_note 18 = .ok (.iastore, 1) := by decide +kernel
theorem dX0_note_19 : decode cX0_note 19 = .ok (.aload_n 0, 1) := by decide +kernel
theorem dX0_note_20 : decode cX0_note 20 = .ok (.dup, 1) := by decide +kernel
theorem dX0_note_21 : decode cX0_note 21 = .ok (.getfield 15, 3) := by decide +kernel
theorem dX0_note_24 : decode cX0_note 24 = .ok (.iconst 1, 1) := by decide +kernel
theorem dX0_note_25 : decode cX0_note 25 = .ok (.iadd, 1) := by decide +kernel
theorem dX0_note_26 : decode cX0_note 26 = .ok (.putfield 15, 3) := by decide +kernel
theorem dX0_note_29 : decode cX0_note 29 = .ok (.return_, 1) := by decide +kernel
theorem dX1_init_0 : decode cX1_init 0 = .ok (.aload_n 0, 1) := by decide +kernel
theorem dX1_init_1 : decode cX1_init 1 = .ok (.invokespecial 1, 3) := by decide +kernel
theorem dX1_init_4 : decode cX1_init 4 = .ok (.aload_n 0, 1) := by decide +kernel
theorem dX1_init_5 : decode cX1_init 5 = .ok (.new 7, 3) := by decide +kernel
theorem dX1_init_8 : decode cX1_init 8 = .ok (.dup, 1) := by decide +kernel
theorem dX1_init_9 : decode cX1_init 9 = .ok (.iconst 5, 1) := by decide +kernel
theorem dX1_init_10 : decode cX1_init 10 = .ok (.invokespecial 9, 3) := by decide +kernel
theorem dX1_init_13 : decode cX1_init 13 = .ok (.putfield 12, 3) := by decide +kernel
theorem dX1_init_16 : decode cX1_init 16 = .ok (.aload_n 0, 1) := by decide +kernel
theorem dX1_init_17 : decode cX1_init 17 = .ok (.new 7, 3) := by decide +kernel
theorem dX1_init_20 : decode cX1_init 20 = .ok (.dup, 1) := by decide +kernel
theorem dX1_init_21 : decode cX1_init 21 = .ok (.bipush 8, 2) := by decide +kernel
theorem dX1_init_23 : decode cX1_init 23 = .ok (.invokespecial 9, 3) := by decide +kernel
theorem dX1_init_26 : decode cX1_init 26 = .ok (.putfield 18, 3) := by decide +kernel
theorem dX1_init_29 : decode cX1_init 29 = .ok (.aload_n 0, 1) := by decide +kernel
theorem dX1_init_30 : decode cX1_init 30 = .ok (.new 7, 3) := by decide +kernel
theorem dX1_init_33 : decode cX1_init 33 = .ok (.dup, 1) := by decide +kernel
theorem dX1_init_34 : decode cX1_init 34 = .ok (.bipush 8, 2) := by decide +kernel
theorem dX1_init_36 : decode cX1_init 36 = .ok (.invokespecial 9, 3) := by decide +kernel
theorem dX1_init_39 : decode cX1_init 39 = .ok (.putfield 21, 3) := by decide +kernel
theorem dX1_init_42 : decode cX1_init 42 = .ok (.return_, 1) := by decide +kernel
theorem dX1_copyFrom_0 : decode cX1_copyFrom 0 = .ok (.aload_n 0, 1) := by decide +kernel
theorem dX1_copyFrom_1 : decode cX1_copyFrom 1 = .ok (.getfield 12, 3) := by decide +kernel
theorem dX1_copyFrom_4 : decode cX1_copyFrom 4 = .ok (.aload_n 1, 1) := by decide +kernel
theorem dX1_copyFrom_5 : decode cX1_copyFrom 5 = .ok (.getfield 12, 3) := by decide +kernel
theorem dX1_copyFrom_8 : decode cX1_copyFrom 8 = .ok (.invokevirtual 24, 3) := by decide +kernel
theorem dX1_copyFrom_11 : decode cX1_copyFrom 11 = .ok (.aload_n 0, 1) := by decide +kernel
theorem dX1_copyFrom_12 : decode cX1_copyFrom 12 = .ok (.getfield 18, 3) := by decide +kernel
theorem dX1_copyFrom_15 : decode cX1_copyFrom 15 = .ok (.aload_n 1, 1) := by decide +kernel
theorem dX1_copyFrom_16 : decode cX1_copyFrom 16 = .ok (.getfield 18, 3) := by decide +kernel
theorem dX1_copyFrom_19 : decode cX1_copyFrom 19 = .ok (.invokevirtual 24, 3) := by decide +kernel
theorem dX1_copyFrom_22 : decode cX1_copyFrom 22 = .ok (.aload_n 0, 1) := by decide +kernel
theorem dX1_copyFrom_23 : decode cX1_copyFrom 23 = .ok (.getfield 21, 3) := by decide +kernel
theorem dX1_copyFrom_26 : decode cX1_copyFrom 26 = .ok (.aload_n 1, 1) := by decide +kernel
theorem dX1_copyFrom_27 : decode cX1_copyFrom 27 = .ok (.getfield 21, 3) := by decide +kernel
theorem dX1_copyFrom_30 : decode cX1_copyFrom 30 = .ok (.invokevirtual 24, 3) := by decide +kernel
theorem dX1_copyFrom_33 : decode cX1_copyFrom 33 = .ok (.return_, 1) := by decide +kernel
theorem dX2_init_0 : decode cX2_init 0 = .ok (.aload_n 0, 1) := by decide +kernel
theorem dX2_init_1 : decode cX2_init 1 = .ok (.invokespecial 3, 3) := by decide +kernel
theorem dX2_init_4 : decode cX2_init 4 = .ok (.aload_n 0, 1) := by decide +kernel
theorem dX2_init_5 : decode cX2_init 5 = .ok (.bipush 16, 2) := by decide +kernel
theorem dX2_init_7 : decode cX2_init 7 = .ok (.newarray .int, 2) := by decide +kernel
theorem dX2_init_9 : decode cX2_init 9 = .ok (.putfield 9, 3) := by decide +kernel
theorem dX2_init_12 : decode cX2_init 12 = .ok (.aload_n 0, 1) := by decide +kernel
theorem dX2_init_13 : decode cX2_init 13 = .ok (.bipush 6, 2) := by decide +kernel
theorem dX2_init_15 : decode cX2_init 15 = .ok (.newarray .int, 2) := by decide +kernel
theorem dX2_init_17 : decode cX2_init 17 = .ok (.putfield 15, 3) := by decide +kernel
theorem dX2_init_20 : decode cX2_init 20 = .ok (.aload_n 0, 1) := by decide +kernel
theorem dX2_init_21 : decode cX2_init 21 = .ok (.bipush 6, 2) := by decide +kernel
theorem dX2_init_23 : decode cX2_init 23 = .ok (.newarray .int, 2) := by decide +kernel
theorem dX2_init_25 : decode cX2_init 25 = .ok (.putfield 18, 3) := by decide +kernel
theorem dX2_init_28 : decode cX2_init 28 = .ok (.aload_n 0, 1) := by decide +kernel
theorem dX2_init_29 : decode cX2_init 29 = .ok (.bipush 6, 2) := by decide +kernel
theorem dX2_init_31 : decode cX2_init 31 = .ok (.newarray .int, 2) := by decide +kernel
theorem dX2_init_33 : decode cX2_init 33 = .ok (.putfield 21, 3) := by decide +kernel
theorem dX2_init_36 : decode cX2_init 36 = .ok (.aload_n 0, 1) := by decide +kernel
theorem dX2_init_37 : decode cX2_init 37 = .ok (.bipush 6, 2) := by decide +kernel
theorem dX2_init_39 : decode cX2_init 39 = .ok (.newarray .int, 2) := by decide +kernel
theorem dX2_init_41 : decode cX2_init 41 = .ok (.putfield 24, 3) := by decide +kernel
theorem dX2_init_44 : decode cX2_init 44 = .ok (.aload_n 0, 1) := by decide +kernel
theorem dX2_init_45 : decode cX2_init 45 = .ok (.bipush 6, 2) := by decide +kernel
theorem dX2_init_47 : decode cX2_init 47 = .ok (.newarray .int, 2) := by decide +kernel
theorem dX2_init_49 : decode cX2_init 49 = .ok (.putfield 27, 3) := by decide +kernel
theorem dX2_init_52 : decode cX2_init 52 = .ok (.aload_n 0, 1) := by decide +kernel
theorem dX2_init_53 : decode cX2_init 53 = .ok (.bipush 6, 2) := by decide +kernel
theorem dX2_init_55 : decode cX2_init 55 = .ok (.newarray .int, 2) := by decide +kernel
theorem dX2_init_57 : decode cX2_init 57 = .ok (.putfield 30, 3) := by decide +kernel
theorem dX2_init_60 : decode cX2_init 60 = .ok (.aload_n 0, 1) := by decide +kernel
theorem dX2_init_61 : decode cX2_init 61 = .ok (.bipush 24, 2) := by decide +kernel
theorem dX2_init_63 : decode cX2_init 63 = .ok (.newarray .int, 2) := by decide +kernel
theorem dX2_init_65 : decode cX2_init 65 = .ok (.putfield 33, 3) := by decide +kernel
theorem dX2_init_68 : decode cX2_init 68 = .ok (.aload_n 0, 1) := by decide +kernel
theorem dX2_init_69 : decode cX2_init 69 = .ok (.bipush 63, 2) := by decide +kernel
theorem dX2_init_71 : decode cX2_init 71 = .ok (.putfield 36, 3) := by decide +kernel
theorem dX2_init_74 : decode cX2_init 74 = .ok (.aload_n 0, 1) := by decide +kernel
theorem dX2_init_75 : decode cX2_init 75 = .ok (.bipush 8, 2) := by decide +kernel
theorem dX2_init_77 : decode cX2_init 77 = .ok (.newarray .int, 2) := by decide +kernel
theorem dX2_init_79 : decode cX2_init 79 = .ok (.putfield 42, 3) := by decide +kernel
theorem dX2_init_82 : decode cX2_init 82 = .ok (.aload_n 0, 1) := by decide +kernel
theorem dX2_init_83 : decode cX2_init 83 = .ok (.aload_n 1, 1) := by decide +kernel
theorem dX2_init_84 : decode cX2_init 84 = .ok (.putfield 45, 3) := by decide +kernel
theorem dX2_init_87 : decode cX2_init 87 = .ok (.iconst 0, 1) := by decide +kernel
theorem dX2_init_88 : decode cX2_init 88 = .ok (.istore_n 2, 1) := by decide +kernel
theorem dX2_init_89 : decode cX2_init 89 = .ok (.iload_n 2, 1) := by decide +kernel
theorem dX2_init_90 : decode cX2_init 90 = .ok (.bipush 16, 2) := by decide +kernel
theorem dX2_init_92 : decode cX2_init 92 = .ok (.if_icmp .ge 16, 3) := by decide +kernel
theorem dX2_init_95 : decode cX2_init 95 = .ok (.aload_n 0, 1) := by decide +kernel
theorem dX2_init_96 : decode cX2_init 96 = .ok (.getfield 9, 3) := by decide +kernel
theorem dX2_init_99 : decode cX2_init 99 = .ok (.iload_n 2, 1) := by decide +kernel
theorem dX2_init_100 : decode cX2_init 100 = .ok (.iconst 3, 1) := by decide +kernel
theorem dX2_init_101 : decode cX2_init 101 = .ok (.iastore, 1) := by decide +kernel
theorem dX2_init_102 : decode cX2_init 102 = .ok (.iinc 2 1, 3) := by decide +kernel
theorem dX2_init_105 : decode cX2_init 105 = .ok (.goto (-16), 3) := by decide +kernel
theorem dX2_init_108 : decode cX2_init 108 = .ok (.return_, 1) := by decide +kernel
theorem dX2_tryFor_0 : decode cX2_tryFor 0 = .ok (.aload_n 0, 1) := by decide +kernel
theorem dX2_tryFor_1 : decode cX2_tryFor 1 = .ok (.aload_n 1, 1) := by decide +kernel
theorem dX2_tryFor_2 : decode cX2_tryFor 2 = .ok (.invokevirtual 49, 3) := by decide +kernel
theorem dX2_tryFor_5 : decode cX2_tryFor 5 = .ok (.aload_n 0, 1) := by decide +kernel
theorem dX2_tryFor_6 : decode cX2_tryFor 6 = .ok (.iload_n 2, 1) := by decide +kernel
theorem dX2_tryFor_7 : decode cX2_tryFor 7 = .ok (.putfield 36, 3) := by decide +kernel
theorem dX2_tryFor_10 : decode cX2_tryFor 10 = .ok (.iconst 0, 1) := by decide +kernel
theorem dX2_tryFor_11 : decode cX2_tryFor 11 = .ok (.istore_n 3, 1) := by decide +kernel
theorem dX2_tryFor_12 : decode cX2_tryFor 12 = .ok (.iload_n 3, 1) := by decide +kernel
theorem dX2_tryFor_13 : decode cX2_tryFor 13 = .ok (.aload_n 0, 1) := by decide +kernel
theorem dX2_tryFor_14 : decode cX2_tryFor 14 = .ok (.getfield 53, 3) := by decide +kernel
theorem dX2_tryFor_17 : decode cX2_tryFor 17 = .ok (.if_icmp .ge 33, 3) := by decide +kernel
theorem dX2_tryFor_20 : decode cX2_tryFor 20 = .ok (.aload_n 0, 1) := by decide +kernel
theorem dX2_tryFor_21 : decode cX2_tryFor 21 = .ok (.getfield 15, 3) := by decide +kernel
theorem dX2_tryFor_24 : decode cX2_tryFor 24 = .ok (.iload_n 3, 1) := by decide +kernel
theorem dX2_tryFor_25 : decode cX2_tryFor 25 = .ok (.iaload, 1) := by decide +kernel
theorem dX2_tryFor_26 : decode cX2_tryFor 26 = .ok (.iconst 4, 1) := by decide +kernel
theorem dX2_tryFor_27 : decode cX2_tryFor 27 = .ok (.if_icmp .ne 17, 3) := by decide +kernel
theorem dX2_tryFor_30 : decode cX2_tryFor 30 = .ok (.iload_n 2, 1) := by decide +kernel
theorem dX2_tryFor_31 : decode cX2_tryFor 31 = .ok (.iload_n 3, 1) := by decide +kernel
theorem dX2_tryFor_32 : decode cX2_tryFor 32 = .ok (.ishr, 1) := by decide +kernel
theorem dX2_tryFor_33 : decode cX2_tryFor 33 = .ok (.iconst 1, 1) := by decide +kernel
theorem dX2_tryFor_34 : decode cX2_tryFor 34 = .ok (.iand, 1) := by decide +kernel
theorem dX2_tryFor_35 : decode cX2_tryFor 35 = .ok (.ifCond .eq 9, 3) := by decide +kernel
theorem dX2_tryFor_38 : decode cX2_tryFor 38 = .ok (.aload_n 0, 1) := by decide +kernel
theorem dX2_tryFor_39 : decode cX2_tryFor 39 = .ok (.bipush 63, 2) := by decide +kernel
theorem dX2_tryFor_41 : decode cX2_tryFor 41 = .ok (.putfield 36, 3) := by decide +kernel
theorem dX2_tryFor_44 : decode cX2_tryFor 44 = .ok (.iinc 3 1, 3) := by decide +kernel
theorem dX2_tryFor_47 : decode cX2_tryFor 47 = .ok (.goto (-35), 3) := by decide +kernel
theorem dX2_tryFor_50 : decode cX2_tryFor 50 = .ok (.return_, 1) := by decide +kernel
theorem dX2_copyFrom_0 : decode cX2_copyFrom 0 = .ok (.aload_n 0, 1) := by decide +kernel
theorem dX2_copyFrom_1 : decode cX2_copyFrom 1 = .ok (.bipush 63, 2) := by decide +kernel
theorem dX2_copyFrom_3 : decode cX2_copyFrom 3 = .ok (.putfield 36, 3) := by decide +kernel
theorem dX2_copyFrom_6 : decode cX2_copyFrom 6 = .ok (.aload_n 1, 1) := by decide +kernel
theorem dX2_copyFrom_7 : decode cX2_copyFrom 7 = .ok (.getfield 9, 3) := by decide +kernel
theorem dX2_copyFrom_10 : decode cX2_copyFrom 10 = .ok (.iconst 0, 1) := by decide +kernel
theorem dX2_copyFrom_11 : decode cX2_copyFrom 11 = .ok (.aload_n 0, 1) := by decide +kernel
theorem dX2_copyFrom_12 : decode cX2_copyFrom 12 = .ok (.getfield 9, 3) := by decide +kernel
theorem dX2_copyFrom_15 : decode cX2_copyFrom 15 = .ok (.iconst 0, 1) := by decide +kernel
theorem dX2_copyFrom_16 : decode cX2_copyFrom 16 = .ok (.bipush 16, 2) := by decide +kernel
theorem dX2_copyFrom_18 : decode cX2_copyFrom 18 = .ok (.invokestatic 56, 3) := by decide +kernel
theorem dX2_copyFrom_21 : decode cX2_copyFrom 21 = .ok (.aload_n 0, 1) := by decide +kernel
theorem dX2_copyFrom_22 : decode cX2_copyFrom 22 = .ok (.aload_n 1, 1) := by decide +kernel
theorem dX2_copyFrom_23 : decode cX2_copyFrom 23 = .ok (.getfield 53, 3) := by decide +kernel
theorem dX2_copyFrom_26 : decode cX2_copyFrom 26 = .ok (.putfield 53, 3) := by decide +kernel
theorem dX2_copyFrom_29 : decode cX2_copyFrom 29 = .ok (.aload_n 1, 1) := by decide +kernel
theorem dX2_copyFrom_30 : decode cX2_copyFrom 30 = .ok (.getfield 15, 3) := by decide +kernel
theorem dX2_copyFrom_33 : decode cX2_copyFrom 33 = .ok (.iconst 0, 1) := by decide +kernel
theorem dX2_copyFrom_34 : decode cX2_copyFrom 34 = .ok (.aload_n 0, 1) := by decide +kernel
theorem dX2_copyFrom_35 : decode cX2_copyFrom 35 = .ok (.getfield 15, 3) := by decide +kernel
theorem dX2_copyFrom_38 : decode cX2_copyFrom 38 = .ok (.iconst 0, 1) := by decide +kernel
theorem dX2_copyFrom_39 : decode cX2_copyFrom 39 = .ok (.bipush 6, 2) := by decide +kernel
theorem dX2_copyFrom_41 : decode cX2_copyFrom 41 = .ok (.invokestatic 56, 3) := by decide +kernel
theorem dX2_copyFrom_44 : decode cX2_copyFrom 44 = .ok (.aload_n 1, 1) := by decide +kernel
theorem dX2_copyFrom_45 : decode cX2_copyFrom 45 = .ok (.getfield 18, 3) := by decide +kernel
theorem dX2_copyFrom_48 : decode cX2_copyFrom 48 = .ok (.iconst 0, 1) := by decide +kernel
theorem dX2_copyFrom_49 : decode cX2_copyFrom 49 = .ok (.aload_n 0, 1) := by decide +kernel
theorem dX2_copyFrom_50 : decode cX2_copyFrom 50 = .ok (.getfield 18, 3) := by decide +kernel
theorem dX2_copyFrom_53 : decode cX2_copyFrom 53 = .ok (.iconst 0, 1) := by decide +kernel
theorem dX2_copyFrom_54 : decode cX2_copyFrom 54 = .ok (.bipush 6, 2) := by decide +kernel
theorem dX2_copyFrom_56 : decode cX2_copyFrom 56 = .ok (.invokestatic 56, 3) := by decide +kernel
theorem dX2_copyFrom_59 : decode cX2_copyFrom 59 = .ok (.aload_n 1, 1) := by decide +kernel
theorem dX2_copyFrom_60 : decode cX2_copyFrom 60 = .ok (.getfield 21, 3) := by decide +kernel
theorem dX2_copyFrom_63 : decode cX2_copyFrom 63 = .ok (.iconst 0, 1) := by decide +kernel
theorem dX2_copyFrom_64 : decode cX2_copyFrom 64 = .ok (.aload_n 0, 1) := by decide +kernel
theorem dX2_copyFrom_65 : decode cX2_copyFrom 65 = .ok (.getfield 21, 3) := by decide +kernel
theorem dX2_copyFrom_68 : decode cX2_copyFrom 68 = .ok (.iconst 0, 1) := by decide +kernel
theorem dX2_copyFrom_69 : decode cX2_copyFrom 69 = .ok (.bipush 6, 2) := by decide +kernel
theorem dX2_copyFrom_71 : decode cX2_copyFrom 71 = .ok (.invokestatic 56, 3) := by decide +kernel
theorem dX2_copyFrom_74 : decode cX2_copyFrom 74 = .ok (.aload_n 1, 1) := by decide +kernel
theorem dX2_copyFrom_75 : decode cX2_copyFrom 75 = .ok (.getfield 24, 3) := by decide +kernel
theorem dX2_copyFrom_78 : decode cX2_copyFrom 78 = .ok (.iconst 0, 1) := by decide +kernel
theorem dX2_copyFrom_79 : decode cX2_copyFrom 79 = .ok (.aload_n 0, 1) := by decide +kernel
theorem dX2_copyFrom_80 : decode cX2_copyFrom 80 = .ok (.getfield 24, 3) := by decide +kernel
theorem dX2_copyFrom_83 : decode cX2_copyFrom 83 = .ok (.iconst 0, 1) := by decide +kernel
theorem dX2_copyFrom_84 : decode cX2_copyFrom 84 = .ok (.bipush 6, 2) := by decide +kernel
theorem dX2_copyFrom_86 : decode cX2_copyFrom 86 = .ok (.invokestatic 56, 3) := by decide +kernel
theorem dX2_copyFrom_89 : decode cX2_copyFrom 89 = .ok (.aload_n 1, 1) := by decide +kernel
theorem dX2_copyFrom_90 : decode cX2_copyFrom 90 = .ok (.getfield 27, 3) := by decide +kernel
theorem dX2_copyFrom_93 : decode cX2_copyFrom 93 = .ok (.iconst 0, 1) := by decide +kernel
theorem dX2_copyFrom_94 : decode cX2_copyFrom 94 = .ok (.aload_n 0, 1) := by decide +kernel
theorem dX2_copyFrom_95 : decode cX2_copyFrom 95 = .ok (.getfield 27, 3) := by decide +kernel
theorem dX2_copyFrom_98 : decode cX2_copyFrom 98 = .ok (.iconst 0, 1) := by decide +kernel
theorem dX2_copyFrom_99 : decode cX2_copyFrom 99 = .ok (.bipush 6, 2) := by decide +kernel
theorem dX2_copyFrom_101 : decode cX2_copyFrom 101 = .ok (.invokestatic 56, 3) := by decide +kernel
theorem dX2_copyFrom_104 : decode cX2_copyFrom 104 = .ok (.aload_n 1, 1) := by decide +kernel
theorem dX2_copyFrom_105 : decode cX2_copyFrom 105 = .ok (.getfield 30, 3) := by decide +kernel
theorem dX2_copyFrom_108 : decode cX2_copyFrom 108 = .ok (.iconst 0, 1) := by decide +kernel
theorem dX2_copyFrom_109 : decode cX2_copyFrom 109 = .ok (.aload_n 0, 1) := by decide +kernel
theorem dX2_copyFrom_110 : decode cX2_copyFrom 110 = .ok (.getfield 30, 3) := by decide +kernel
theorem dX2_copyFrom_113 : decode cX2_copyFrom 113 = .ok (.iconst 0, 1) := by decide +kernel
theorem dX2_copyFrom_114 : decode cX2_copyFrom 114 = .ok (.bipush 6, 2) := by decide +kernel
theorem dX2_copyFrom_116 : decode cX2_copyFrom 116 = .ok (.invokestatic 56, 3) := by decide +kernel
theorem dX2_copyFrom_119 : decode cX2_copyFrom 119 = .ok (.aload_n 1, 1) := by decide +kernel
theorem dX2_copyFrom_120 : decode cX2_copyFrom 120 = .ok (.getfield 33, 3) := by decide +kernel
theorem dX2_copyFrom_123 : decode cX2_copyFrom 123 = .ok (.iconst 0, 1) := by decide +kernel
theorem dX2_copyFrom_124 : decode cX2_copyFrom 124 = .ok (.aload_n 0, 1) := by decide +kernel
theorem dX2_copyFrom_125 : decode cX2_copyFrom 125 = .ok (.getfield 33, 3) := by decide +kernel
theorem dX2_copyFrom_128 : decode cX2_copyFrom 128 = .ok (.iconst 0, 1) := by decide +kernel
theorem dX2_copyFrom_129 : decode cX2_copyFrom 129 = .ok (.bipush 24, 2) := by decide +kernel
theorem dX2_copyFrom_131 : decode cX2_copyFrom 131 = .ok (.invokestatic 56, 3) := by decide +kernel
theorem dX2_copyFrom_134 : decode cX2_copyFrom 134 = .ok (.aload_n 0, 1) := by decide +kernel
theorem dX2_copyFrom_135 : decode cX2_copyFrom 135 = .ok (.aload_n 1, 1) := by decide +kernel
theorem dX2_copyFrom_136 : decode cX2_copyFrom 136 = .ok (.getfield 62, 3) := by decide +kernel
theorem dX2_copyFrom_139 : decode cX2_copyFrom 139 = .ok (.putfield 62, 3) := by decide +kernel
theorem dX2_copyFrom_142 : decode cX2_copyFrom 142 = .ok (.aload_n 0, 1) := by decide +kernel
theorem dX2_copyFrom_143 : decode cX2_copyFrom 143 = .ok (.aload_n 1, 1) := by decide +kernel
theorem dX2_copyFrom_144 : decode cX2_copyFrom 144 = .ok (.getfield 45, 3) := by decide +kernel
theorem dX2_copyFrom_147 : decode cX2_copyFrom 147 = .ok (.putfield 45, 3) := by decide +kernel
theorem dX2_copyFrom_150 : decode cX2_copyFrom 150 = .ok (.return_, 1) := by decide +kernel
theorem dX2_welcomeNew_0 : decode cX2_welcomeNew 0 = .ok (.aload_n 0, 1) := by decide +kernel
theorem dX2_welcomeNew_1 : decode cX2_welcomeNew 1 = .ok (.getfield 53, 3) := by decide +kernel
theorem dX2_welcomeNew_4 : decode cX2_welcomeNew 4 = .ok (.istore 4, 2) := by decide +kernel
theorem dX2_welcomeNew_6 : decode cX2_welcomeNew 6 = .ok (.aload_n 0, 1) := by decide +kernel
theorem dX2_welcomeNew_7 : decode cX2_welcomeNew 7 = .ok (.getfield 15, 3) := by decide +kernel
theorem dX2_welcomeNew_10 : decode cX2_welcomeNew 10 = .ok (.iload 4, 2) := by decide +kernel
theorem dX2_welcomeNew_12 : decode cX2_welcomeNew 12 = .ok (.iload_n 1, 1) := by decide +kernel
theorem dX2_welcomeNew_13 : decode cX2_welcomeNew 13 = .ok (.iastore, 1) := by decide +kernel
theorem dX2_welcomeNew_14 : decode cX2_welcomeNew 14 = .ok (.aload_n 0, 1) := by decide +kernel
theorem dX2_welcomeNew_15 : decode cX2_welcomeNew 15 = .ok (.getfield 18, 3) := by decide +kernel
theorem dX2_welcomeNew_18 : decode cX2_welcomeNew 18 = .ok (.iload 4, 2) := by decide +kernel
theorem dX2_welcomeNew_20 : decode cX2_welcomeNew 20 = .ok (.iload_n 2, 1) := by decide +kernel
theorem dX2_welcomeNew_21 : decode cX2_welcomeNew 21 = .ok (.iastore, 1) := by decide +kernel
theorem dX2_welcomeNew_22 : decode cX2_welcomeNew 22 = .ok (.aload_n 0, 1) := by decide +kernel
theorem dX2_welcomeNew_23 : decode cX2_welcomeNew 23 = .ok (.getfield 21, 3) := by decide +kernel
theorem dX2_welcomeNew_26 : decode cX2_welcomeNew 26 = .ok (.iload 4, 2) := by decide +kernel
theorem dX2_welcomeNew_28 : decode cX2_welcomeNew 28 = .ok (.iload_n 3, 1) := by decide +kernel
theorem dX2_welcomeNew_29 : decode cX2_welcomeNew 29 = .ok (.iastore, 1) := by decide +kernel
theorem dX2_welcomeNew_30 : decode cX2_welcomeNew 30 = .ok (.aload_n 0, 1) := by decide +kernel
theorem dX2_welcomeNew_31 : decode cX2_welcomeNew 31 = .ok (.getfield 24, 3) := by decide +kernel
theorem dX2_welcomeNew_34 : decode cX2_welcomeNew 34 = .ok (.iload 4, 2) := by decide +kernel
theorem dX2_welcomeNew_36 : decode cX2_welcomeNew 36 = .ok (.iconst (-1), 1) := by decide +kernel
theorem dX2_welcomeNew_37 : decode cX2_welcomeNew 37 = .ok (.iastore, 1) := by decide +kernel
theorem dX2_welcomeNew_38 : decode cX2_welcomeNew 38 = .ok (.aload_n 0, 1) := by decide +kernel
theorem dX2_welcomeNew_39 : decode cX2_welcomeNew 39 = .ok (.getfield 27, 3) := by decide +kernel
theorem dX2_welcomeNew_42 : decode cX2_welcomeNew 42 = .ok (.iload 4, 2) := by decide +kernel
theorem dX2_welcomeNew_44 : decode cX2_welcomeNew 44 = .ok (.iconst 0, 1) := by decide +kernel
theorem dX2_welcomeNew_45 : decode cX2_welcomeNew 45 = .ok (.iastore, 1) := by decide +kernel
theorem dX2_welcomeNew_46 : decode cX2_welcomeNew 46 = .ok (.aload_n 0, 1) := by decide +kernel
theorem dX2_welcomeNew_47 : decode cX2_welcomeNew 47 = .ok (.getfield 30, 3) := by decide +kernel
theorem dX2_welcomeNew_50 : decode cX2_welcomeNew 50 = .ok (.iload 4, 2) := by decide +kernel
theorem dX2_welcomeNew_52 : decode cX2_welcomeNew 52 = .ok (.iconst 0, 1) := by decide +kernel
theorem dX2_welcomeNew_53 : decode cX2_welcomeNew 53 = .ok (.iastore, 1) := by decide +kernel
theorem dX2_welcomeNew_54 : decode cX2_welcomeNew 54 = .ok (.iconst 0, 1) := by decide +kernel
theorem dX2_welcomeNew_55 : decode cX2_welcomeNew 55 = .ok (.istore 5, 2) := by decide +kernel
theorem dX2_welcomeNew_57 : decode cX2_welcomeNew 57 = .ok (.iload 5, 2) := by decide +kernel
theorem dX2_welcomeNew_59 : decode cX2_welcomeNew 59 = .ok (.iconst 4, 1) := by decide +kernel
theorem dX2_welcomeNew_60 : decode cX2_welcomeNew 60 = .ok (.if_icmp .ge 22, 3) := by decide +kernel
theorem dX2_welcomeNew_63 : decode cX2_welcomeNew 63 = .ok (.aload_n 0, 1) := by decide +kernel
theorem dX2_welcomeNew_64 : decode cX2_welcomeNew 64 = .ok (.getfield 33, 3) := by decide +kernel
theorem dX2_welcomeNew_67 : decode cX2_welcomeNew 67 = .ok (.iconst 4, 1) := by decide +kernel
theorem dX2_welcomeNew_68 : decode cX2_welcomeNew 68 = .ok (.iload 4, 2) := by decide +kernel
theorem dX2_welcomeNew_70 : decode cX2_welcomeNew 70 = .ok (.imul, 1) := by decide +kernel
theorem dX2_welcomeNew_71 : decode cX2_welcomeNew 71 = .ok (.iload 5, 2) := by decide +kernel
theorem dX2_welcomeNew_73 : decode cX2_welcomeNew 73 = .ok (.iadd, 1) := by decide +kernel
theorem dX2_welcomeNew_74 : decode cX2_welcomeNew 74 = .ok (.iconst 0, 1) := by decide +kernel
theorem dX2_welcomeNew_75 : decode cX2_welcomeNew 75 = .ok (.iastore, 1) := by decide +kernel
theorem dX2_welcomeNew_76 : decode cX2_welcomeNew 76 = .ok (.iinc 5 1, 3) := by decide +kernel
theorem dX2_welcomeNew_79 : decode cX2_welcomeNew 79 = .ok (.goto (-22), 3) := by decide +kernel
theorem dX2_welcomeNew_82 : decode cX2_welcomeNew 82 = .ok (.aload_n 0, 1) := by decide +kernel
theorem dX2_welcomeNew_83 : decode cX2_welcomeNew 83 = .ok (.iload 4, 2) := by decide +kernel
theorem dX2_welcomeNew_85 : decode cX2_welcomeNew 85 = .ok (.iconst 1, 1) := by decide +kernel
theorem dX2_welcomeNew_86 : decode cX2_welcomeNew 86 = .ok (.iadd, 1) := by decide +kernel
theorem dX2_welcomeNew_87 : decode cX2_welcomeNew 87 = .ok (.putfield 53, 3) := by decide +kernel
theorem dX2_welcomeNew_90 : decode cX2_welcomeNew 90 = .ok (.iload 4, 2) := by decide +kernel
theorem dX2_welcomeNew_92 : decode cX2_welcomeNew 92 = .ok (.ireturn, 1) := by decide +kernel
theorem dX2_welcomeOf_0 : decode cX2_welcomeOf 0 = .ok (.aload_n 0, 1) := by decide +kernel
theorem dX2_welcomeOf_1 : decode cX2_welcomeOf 1 = .ok (.getfield 18, 3) := by decide +kernel
theorem dX2_welcomeOf_4 : decode cX2_welcomeOf 4 = .ok (.iload_n 1, 1) := by decide +kernel
theorem dX2_welcomeOf_5 : decode cX2_welcomeOf 5 = .ok (.iaload, 1) := by decide +kernel
theorem dX2_welcomeOf_6 : decode cX2_welcomeOf 6 = .ok (.istore_n 3, 1) := by decide +kernel
theorem dX2_welcomeOf_7 : decode cX2_welcomeOf 7 = .ok (.aload_n 0, 1) := by decide +kernel
theorem dX2_welcomeOf_8 : decode cX2_welcomeOf 8 = .ok (.getfield 42, 3) := by decide +kernel
theorem dX2_welcomeOf_11 : decode cX2_welcomeOf 11 = .ok (.iconst 0, 1) := by decide +kernel
theorem dX2_welcomeOf_12 : decode cX2_welcomeOf 12 = .ok (.iload_n 1, 1) := by decide +kernel
theorem dX2_welcomeOf_13 : decode cX2_welcomeOf 13 = .ok (.iastore, 1) := by decide +kernel
theorem dX2_welcomeOf_14 : decode cX2_welcomeOf 14 = .ok (.aload_n 0, 1) := by decide +kernel
theorem dX2_welcomeOf_15 : decode cX2_welcomeOf 15 = .ok (.getfield 42, 3) := by decide +kernel
theorem dX2_welcomeOf_18 : decode cX2_welcomeOf 18 = .ok (.iconst 1, 1) := by decide +kernel
theorem dX2_welcomeOf_19 : decode cX2_welcomeOf 19 = .ok (.aload_n 0, 1) := by decide +kernel
theorem dX2_welcomeOf_20 : decode cX2_welcomeOf 20 = .ok (.getfield 15, 3) := by decide +kernel
theorem dX2_welcomeOf_23 : decode cX2_welcomeOf 23 = .ok (.iload_n 1, 1) := by decide +kernel
theorem dX2_welcomeOf_24 : decode cX2_welcomeOf 24 = .ok (.iaload, 1) := by decide +kernel
theorem dX2_welcomeOf_25 : decode cX2_welcomeOf 25 = .ok (.iastore, 1) := by decide +kernel
theorem dX2_welcomeOf_26 : decode cX2_welcomeOf 26 = .ok (.aload_n 0, 1) := by decide +kernel
theorem dX2_welcomeOf_27 : decode cX2_welcomeOf 27 = .ok (.getfield 42, 3) := by decide +kernel
theorem dX2_welcomeOf_30 : decode cX2_welcomeOf 30 = .ok (.iconst 2, 1) := by decide +kernel
theorem dX2_welcomeOf_31 : decode cX2_welcomeOf 31 = .ok (.iload_n 3, 1) := by decide +kernel
theorem dX2_welcomeOf_32 : decode cX2_welcomeOf 32 = .ok (.iastore, 1) := by decide +kernel
theorem dX2_welcomeOf_33 : decode cX2_welcomeOf 33 = .ok (.aload_n 0, 1) := by decide +kernel
theorem dX2_welcomeOf_34 : decode cX2_welcomeOf 34 = .ok (.getfield 42, 3) := by decide +kernel
theorem dX2_welcomeOf_37 : decode cX2_welcomeOf 37 = .ok (.iconst 3, 1) := by decide +kernel
theorem dX2_welcomeOf_38 : decode cX2_welcomeOf 38 = .ok (.iload_n 2, 1) := by decide +kernel
theorem dX2_welcomeOf_39 : decode cX2_welcomeOf 39 = .ok (.iastore, 1) := by decide +kernel
theorem dX2_welcomeOf_40 : decode cX2_welcomeOf 40 = .ok (.aload_n 0, 1) := by decide +kernel
theorem dX2_welcomeOf_41 : decode cX2_welcomeOf 41 = .ok (.getfield 42, 3) := by decide +kernel
theorem dX2_welcomeOf_44 : decode cX2_welcomeOf 44 = .ok (.iconst 4, 1) := by decide +kernel
theorem dX2_welcomeOf_45 : decode cX2_welcomeOf 45 = .ok (.aload_n 0, 1) := by decide +kernel
theorem dX2_welcomeOf_46 : decode cX2_welcomeOf 46 = .ok (.getfield 9, 3) := by decide +kernel
theorem dX2_welcomeOf_49 : decode cX2_welcomeOf 49 = .ok (.iload_n 2, 1) := by decide +kernel
theorem dX2_welcomeOf_50 : decode cX2_welcomeOf 50 = .ok (.iaload, 1) := by decide +kernel
theorem dX2_welcomeOf_51 : decode cX2_welcomeOf 51 = .ok (.iastore, 1) := by decide +kernel
theorem dX2_welcomeOf_52 : decode cX2_welcomeOf 52 = .ok (.aload_n 0, 1) := by decide +kernel
theorem dX2_welcomeOf_53 : decode cX2_welcomeOf 53 = .ok (.getfield 42, 3) := by decide +kernel
theorem dX2_welcomeOf_56 : decode cX2_welcomeOf 56 = .ok (.iconst 5, 1) := by decide +kernel
theorem dX2_welcomeOf_57 : decode cX2_welcomeOf 57 = .ok (.aload_n 0, 1) := by decide +kernel
theorem dX2_welcomeOf_58 : decode cX2_welcomeOf 58 = .ok (.getfield 62, 3) := by decide +kernel
theorem dX2_welcomeOf_61 : decode cX2_welcomeOf 61 = .ok (.bipush 10, 2) := by decide +kernel
theorem dX2_welcomeOf_63 : decode cX2_welcomeOf 63 = .ok (.irem, 1) := by decide +kernel
theorem dX2_welcomeOf_64 : decode cX2_welcomeOf 64 = .ok (.iastore, 1) := by decide +kernel
theorem dX2_welcomeOf_65 : decode cX2_welcomeOf 65 = .ok (.aload_n 0, 1) := by decide +kernel
theorem dX2_welcomeOf_66 : decode cX2_welcomeOf 66 = .ok (.getfield 9, 3) := by decide +kernel
theorem dX2_welcomeOf_69 : decode cX2_welcomeOf 69 = .ok (.iload_n 2, 1) := by decide +kernel
theorem dX2_welcomeOf_70 : decode cX2_welcomeOf 70 = .ok (.iaload, 1) := by decide +kernel
theorem dX2_welcomeOf_71 : decode cX2_welcomeOf 71 = .ok (.aload_n 0, 1) := by decide +kernel
theorem dX2_welcomeOf_72 : decode cX2_welcomeOf 72 = .ok (.getfield 45, 3) := by decide +kernel
theorem dX2_welcomeOf_75 : decode cX2_welcomeOf 75 = .ok (.aload_n 0, 1) := by decide +kernel
theorem dX2_welcomeOf_76 : decode cX2_welcomeOf 76 = .ok (.getfield 42, 3) := by decide +kernel
theorem dX2_welcomeOf_79 : decode cX2_welcomeOf 79 = .ok (.invokevirtual 65, 3) := by decide +kernel
theorem dX2_welcomeOf_82 : decode cX2_welcomeOf 82 = .ok (.iadd, 1) := by decide +kernel
theorem dX2_welcomeOf_83 : decode cX2_welcomeOf 83 = .ok (.istore 4, 2) := by decide +kernel
theorem dX2_welcomeOf_85 : decode cX2_welcomeOf 85 = .ok (.aload_n 0, 1) := by decide +kernel
theorem dX2_welcomeOf_86 : decode cX2_welcomeOf 86 = .ok (.getfield 15, 3) := by decide +kernel
theorem dX2_welcomeOf_89 : decode cX2_welcomeOf 89 = .ok (.iload_n 1, 1) := by decide +kernel
theorem dX2_welcomeOf_90 : decode cX2_welcomeOf 90 = .ok (.iaload, 1) := by decide +kernel
theorem dX2_welcomeOf_91 : decode cX2_welcomeOf 91 = .ok (.tableswitch 130 1 6 #[37, 42, 49, 62, 83, 102], 37) := by decide +kernel
theorem dX2_welcomeOf_128 : decode cX2_welcomeOf 128 = .ok (.iload 4, 2) := by decide +kernel
theorem dX2_welcomeOf_130 : decode cX2_welcomeOf 130 = .ok (.iload_n 3, 1) := by decide +kernel
theorem dX2_welcomeOf_131 : decode cX2_welcomeOf 131 = .ok (.iadd, 1) := by decide +kernel
theorem dX2_welcomeOf_132 : decode cX2_welcomeOf 132 = .ok (.ireturn, 1) := by decide +kernel
theorem dX2_welcomeOf_133 : decode cX2_welcomeOf 133 = .ok (.iload 4, 2) := by decide +kernel
theorem dX2_welcomeOf_135 : decode cX2_welcomeOf 135 = .ok (.iconst 2, 1) := by decide +kernel
theorem dX2_welcomeOf_136 : decode cX2_welcomeOf 136 = .ok (.idiv, 1) := by decide +kernel
theorem dX2_welcomeOf_137 : decode cX2_welcomeOf 137 = .ok (.iconst 1, 1) := by decide +kernel
theorem dX2_welcomeOf_138 : decode cX2_welcomeOf 138 = .ok (.iadd, 1) := by decide +kernel
theorem dX2_welcomeOf_139 : decode cX2_welcomeOf 139 = .ok (.ireturn, 1) := by decide +kernel
theorem dX2_welcomeOf_140 : decode cX2_welcomeOf 140 = .ok (.iload_n 2, 1) := by decide +kernel
theorem dX2_welcomeOf_141 : decode cX2_welcomeOf 141 = .ok (.iload_n 3, 1) := by decide +kernel
theorem dX2_welcomeOf_142 : decode cX2_welcomeOf 142 = .ok (.if_icmp .ge 8, 3) := by decide +kernel
theorem dX2_welcomeOf_145 : decode cX2_welcomeOf 145 = .ok (.bipush 9, 2) := by decide +kernel
theorem dX2_welcomeOf_147 : decode cX2_welcomeOf 147 = .ok (.goto 5, 3) := by decide +kernel
theorem dX2_welcomeOf_150 : decode cX2_welcomeOf 150 = .ok (.iload 4, 2) := by decide +kernel
theorem dX2_welcomeOf_152 : decode cX2_welcomeOf 152 = .ok (.ireturn, 1) := by decide +kernel
theorem dX2_welcomeOf_153 : decode cX2_welcomeOf 153 = .ok (.iload 4, 2) := by decide +kernel
theorem dX2_welcomeOf_155 : decode cX2_welcomeOf 155 = .ok (.iload_n 3, 1) := by decide +kernel
theorem dX2_welcomeOf_156 : decode cX2_welcomeOf 156 = .ok (.iadd, 1) := by decide +kernel
theorem dX2_welcomeOf_157 : decode cX2_welcomeOf 157 = .ok (.aload_n 0, 1) := by decide +kernel
theorem dX2_welcomeOf_158 : decode cX2_welcomeOf 158 = .ok (.iload_n 1, 1) := by decide +kernel
theorem dX2_welcomeOf_159 : decode cX2_welcomeOf 159 = .ok (.iload_n 2, 1) := by decide +kernel
theorem dX2_welcomeOf_160 : decode cX2_welcomeOf 160 = .ok (.invokevirtual 69, 3) := by decide +kernel
theorem dX2_welcomeOf_163 : decode cX2_welcomeOf 163 = .ok (.ifCond .eq 8, 3) := by decide +kernel
theorem dX2_welcomeOf_166 : decode cX2_welcomeOf 166 = .ok (.bipush 8, 2) := by decide +kernel
theorem dX2_welcomeOf_168 : decode cX2_welcomeOf 168 = .ok (.goto 4, 3) := by decide +kernel
theorem dX2_welcomeOf_171 : decode cX2_welcomeOf 171 = .ok (.iconst 0, 1) := by decide +kernel
theorem dX2_welcomeOf_172 : decode cX2_welcomeOf 172 = .ok (.isub, 1) := by decide +kernel
theorem dX2_welcomeOf_173 : decode cX2_welcomeOf 173 = .ok (.ireturn, 1) := by decide +kernel
theorem dX2_welcomeOf_174 : decode cX2_welcomeOf 174 = .ok (.iload 4, 2) := by decide +kernel
theorem dX2_welcomeOf_176 : decode cX2_welcomeOf 176 = .ok (.iconst 2, 1) := by decide +kernel
theorem dX2_welcomeOf_177 : decode cX2_welcomeOf 177 = .ok (.idiv, 1) := by decide +kernel
theorem dX2_welcomeOf_178 : decode cX2_welcomeOf 178 = .ok (.iconst 1, 1) := by decide +kernel
theorem dX2_welcomeOf_179 : decode cX2_welcomeOf 179 = .ok (.iadd, 1) := by decide +kernel
theorem dX2_welcomeOf_180 : decode cX2_welcomeOf 180 = .ok (.aload_n 0, 1) := by decide +kernel
theorem dX2_welcomeOf_181 : decode cX2_welcomeOf 181 = .ok (.getfield 27, 3) := by decide +kernel
theorem dX2_welcomeOf_184 : decode cX2_welcomeOf 184 = .ok (.iload_n 1, 1) := by decide +kernel
theorem dX2_welcomeOf_185 : decode cX2_welcomeOf 185 = .ok (.iaload, 1) := by decide +kernel
theorem dX2_welcomeOf_186 : decode cX2_welcomeOf 186 = .ok (.invokestatic 73, 3) := by decide +kernel
theorem dX2_welcomeOf_189 : decode cX2_welcomeOf 189 = .ok (.iconst 2, 1) := by decide +kernel
theorem dX2_welcomeOf_190 : decode cX2_welcomeOf 190 = .ok (.idiv, 1) := by decide +kernel
theorem dX2_welcomeOf_191 : decode cX2_welcomeOf 191 = .ok (.iadd, 1) := by decide +kernel
theorem dX2_welcomeOf_192 : decode cX2_welcomeOf 192 = .ok (.ireturn, 1) := by decide +kernel
theorem dX2_welcomeOf_193 : decode cX2_welcomeOf 193 = .ok (.iload_n 2, 1) := by decide +kernel
theorem dX2_welcomeOf_194 : decode cX2_welcomeOf 194 = .ok (.iload_n 3, 1) := by decide +kernel
theorem dX2_welcomeOf_195 : decode cX2_welcomeOf 195 = .ok (.if_icmp .ge 8, 3) := by decide +kernel
theorem dX2_welcomeOf_198 : decode cX2_welcomeOf 198 = .ok (.bipush 9, 2) := by decide +kernel
theorem dX2_welcomeOf_200 : decode cX2_welcomeOf 200 = .ok (.goto 5, 3) := by decide +kernel
theorem dX2_welcomeOf_203 : decode cX2_welcomeOf 203 = .ok (.iload 4, 2) := by decide +kernel
theorem dX2_welcomeOf_205 : decode cX2_welcomeOf 205 = .ok (.aload_n 0, 1) := by decide +kernel
theorem dX2_welcomeOf_206 : decode cX2_welcomeOf 206 = .ok (.getfield 33, 3) := by decide +kernel
theorem dX2_welcomeOf_209 : decode cX2_welcomeOf 209 = .ok (.iconst 4, 1) := by decide +kernel
theorem dX2_welcomeOf_210 : decode cX2_welcomeOf 210 = .ok (.iload_n 1, 1) := by decide +kernel
theorem dX2_welcomeOf_211 : decode cX2_welcomeOf 211 = .ok (.imul, 1) := by decide +kernel
theorem dX2_welcomeOf_212 : decode cX2_welcomeOf 212 = .ok (.iload_n 2, 1) := by decide +kernel
theorem dX2_welcomeOf_213 : decode cX2_welcomeOf 213 = .ok (.iconst 4, 1) := by decide +kernel
theorem dX2_welcomeOf_214 : decode cX2_welcomeOf 214 = .ok (.irem, 1) := by decide +kernel
theorem dX2_welcomeOf_215 : decode cX2_welcomeOf 215 = .ok (.iadd, 1) := by decide +kernel
theorem dX2_welcomeOf_216 : decode cX2_welcomeOf 216 = .ok (.iaload, 1) := by decide +kernel
theorem dX2_welcomeOf_217 : decode cX2_welcomeOf 217 = .ok (.iadd, 1) := by decide +kernel
theorem dX2_welcomeOf_218 : decode cX2_welcomeOf 218 = .ok (.iconst 4, 1) := by decide +kernel
theorem dX2_welcomeOf_219 : decode cX2_welcomeOf 219 = .ok (.isub, 1) := by decide +kernel
theorem dX2_welcomeOf_220 : decode cX2_welcomeOf 220 = .ok (.ireturn, 1) := by decide +kernel
theorem dX2_welcomeOf_221 : decode cX2_welcomeOf 221 = .ok (.iload 4, 2) := by decide +kernel
theorem dX2_welcomeOf_223 : decode cX2_welcomeOf 223 = .ok (.ireturn, 1) := by decide +kernel
theorem dX2_isOtherAt_0 : decode cX2_isOtherAt 0 = .ok (.iconst 0, 1) := by decide +kernel
theorem dX2_isOtherAt_1 : decode cX2_isOtherAt 1 = .ok (.istore_n 3, 1) := by decide +kernel
theorem dX2_isOtherAt_2 : decode cX2_isOtherAt 2 = .ok (.iload_n 3, 1) := by decide +kernel
theorem dX2_isOtherAt_3 : decode cX2_isOtherAt 3 = .ok (.aload_n 0, 1) := by decide +kernel
theorem dX2_isOtherAt_4 : decode cX2_isOtherAt 4 = .ok (.getfield 53, 3) := by decide +kernel
theorem dX2_isOtherAt_7 : decode cX2_isOtherAt 7 = .ok (.if_icmp .ge 26, 3) := by decide +kernel
theorem dX2_isOtherAt_10 : decode cX2_isOtherAt 10 = .ok (.iload_n 3, 1) := by decide +kernel
theorem dX2_isOtherAt_11 : decode cX2_isOtherAt 11 = .ok (.iload_n 1, 1) := by decide +kernel
theorem dX2_isOtherAt_12 : decode cX2_isOtherAt 12 = .ok (.if_icmp .eq 15, 3) := by decide +kernel
theorem dX2_isOtherAt_15 : decode cX2_isOtherAt 15 = .ok (.aload_n 0, 1) := by decide +kernel
theorem dX2_isOtherAt_16 : decode cX2_isOtherAt 16 = .ok (.getfield 21, 3) := by decide +kernel
theorem dX2_isOtherAt_19 : decode cX2_isOtherAt 19 = .ok (.iload_n 3, 1) := by decide +kernel
theorem dX2_isOtherAt_20 : decode cX2_isOtherAt 20 = .ok (.iaload, 1) := by decide +kernel
theorem dX2_isOtherAt_21 : decode cX2_isOtherAt 21 = .ok (.iload_n 2, 1) := by decide +kernel
theorem dX2_isOtherAt_22 : decode cX2_isOtherAt 22 = .ok (.if_icmp .ne 5, 3) := by decide +kernel
theorem dX2_isOtherAt_25 : decode cX2_isOtherAt 25 = .ok (.iconst 1, 1) := by decide +kernel
theorem dX2_isOtherAt_26 : decode cX2_isOtherAt 26 = .ok (.ireturn, 1) := by decide +kernel
theorem dX2_isOtherAt_27 : decode cX2_isOtherAt 27 = .ok (.iinc 3 1, 3) := by decide +kernel
theorem dX2_isOtherAt_30 : decode cX2_isOtherAt 30 = .ok (.goto (-28), 3) := by decide +kernel
theorem dX2_isOtherAt_33 : decode cX2_isOtherAt 33 = .ok (.iconst 0, 1) := by decide +kernel
theorem dX2_isOtherAt_34 : decode cX2_isOtherAt 34 = .ok (.ireturn, 1) := by decide +kernel
theorem dX2_refusals_0 : decode cX2_refusals 0 = .ok (.iconst 0, 1) := by decide +kernel
theorem dX2_refusals_1 : decode cX2_refusals 1 = .ok (.istore_n 2, 1) := by decide +kernel
theorem dX2_refusals_2 : decode cX2_refusals 2 = .ok (.iconst 0, 1) := by decide +kernel
theorem dX2_refusals_3 : decode cX2_refusals 3 = .ok (.istore_n 3, 1) := by decide +kernel
theorem dX2_refusals_4 : decode cX2_refusals 4 = .ok (.iload_n 3, 1) := by decide +kernel
theorem dX2_refusals_5 : decode cX2_refusals 5 = .ok (.bipush 16, 2) := by decide +kernel
theorem dX2_refusals_7 : decode cX2_refusals 7 = .ok (.if_icmp .ge 24, 3) := by decide +kernel
theorem dX2_refusals_10 : decode cX2_refusals 10 = .ok (.aload_n 0, 1) := by decide +kernel
theorem dX2_refusals_11 : decode cX2_refusals 11 = .ok (.iload_n 1, 1) := by decide +kernel
theorem dX2_refusals_12 : decode cX2_refusals 12 = .ok (.iload_n 3, 1) := by decide +kernel
theorem dX2_refusals_13 : decode cX2_refusals 13 = .ok (.invokevirtual 79, 3) := by decide +kernel
theorem dX2_refusals_16 : decode cX2_refusals 16 = .ok (.ifCond .gt 9, 3) := by decide +kernel
theorem dX2_refusals_19 : decode cX2_refusals 19 = .ok (.iload_n 2, 1) := by decide +kernel
theorem dX2_refusals_20 : decode cX2_refusals 20 = .ok (.iconst 1, 1) := by decide +kernel
theorem dX2_refusals_21 : decode cX2_refusals 21 = .ok (.iload_n 3, 1) := by decide +kernel
theorem dX2_refusals_22 : decode cX2_refusals 22 = .ok (.ishl, 1) := by decide +kernel
theorem dX2_refusals_23 : decode cX2_refusals 23 = .ok (.ior, 1) := by decide +kernel
theorem dX2_refusals_24 : decode cX2_refusals 24 = .ok (.istore_n 2, 1) := by decide +kernel
theorem dX2_refusals_25 : decode cX2_refusals 25 = .ok (.iinc 3 1, 3) := by decide +kernel
theorem dX2_refusals_28 : decode cX2_refusals 28 = .ok (.goto (-24), 3) := by decide +kernel
theorem dX2_refusals_31 : decode cX2_refusals 31 = .ok (.iload_n 2, 1) := by decide +kernel
theorem dX2_refusals_32 : decode cX2_refusals 32 = .ok (.ireturn, 1) := by decide +kernel
theorem dX2_goHours_0 : decode cX2_goHours 0 = .ok (.iconst 0, 1) := by decide +kernel
theorem dX2_goHours_1 : decode cX2_goHours 1 = .ok (.istore_n 3, 1) := by decide +kernel
theorem dX2_goHours_2 : decode cX2_goHours 2 = .ok (.iload_n 3, 1) := by decide +kernel
theorem dX2_goHours_3 : decode cX2_goHours 3 = .ok (.iload_n 1, 1) := by decide +kernel
theorem dX2_goHours_4 : decode cX2_goHours 4 = .ok (.if_icmp .ge 112, 3) := by decide +kernel
theorem dX2_goHours_7 : decode cX2_goHours 7 = .ok (.iconst 0, 1) := by decide +kernel
theorem dX2_goHours_8 : decode cX2_goHours 8 = .ok (.istore 4, 2) := by decide +kernel
theorem dX2_goHours_10 : decode cX2_goHours 10 = .ok (.iload 4, 2) := by decide +kernel
theorem dX2_goHours_12 : decode cX2_goHours 12 = .ok (.aload_n 0, 1) := by decide +kernel
theorem dX2_goHours_13 : decode cX2_goHours 13 = .ok (.getfield 53, 3) := by decide +kernel
theorem dX2_goHours_16 : decode cX2_goHours 16 = .ok (.if_icmp .ge 55, 3) := by decide +kernel
theorem dX2_goHours_19 : decode cX2_goHours 19 = .ok (.aload_n 0, 1) := by decide +kernel
theorem dX2_goHours_20 : decode cX2_goHours 20 = .ok (.getfield 36, 3) := by decide +kernel
theorem dX2_goHours_23 : decode cX2_goHours 23 = .ok (.iload 4, 2) := by decide +kernel
theorem dX2_goHours_25 : decode cX2_goHours 25 = .ok (.ishr, 1) := by decide +kernel
theorem dX2_goHours_26 : decode cX2_goHours 26 = .ok (.iconst 1, 1) := by decide +kernel
theorem dX2_goHours_27 : decode cX2_goHours 27 = .ok (.iand, 1) := by decide +kernel
theorem dX2_goHours_28 : decode cX2_goHours 28 = .ok (.ifCond .eq 37, 3) := by decide +kernel
theorem dX2_goHours_31 : decode cX2_goHours 31 = .ok (.aload_n 0, 1) := by decide +kernel
theorem dX2_goHours_32 : decode cX2_goHours 32 = .ok (.getfield 24, 3) := by decide +kernel
theorem dX2_goHours_35 : decode cX2_goHours 35 = .ok (.iload 4, 2) := by decide +kernel
theorem dX2_goHours_37 : decode cX2_goHours 37 = .ok (.iaload, 1) := by decide +kernel
theorem dX2_goHours_38 : decode cX2_goHours 38 = .ok (.ifCond .lt 27, 3) := by decide +kernel
theorem dX2_goHours_41 : decode cX2_goHours 41 = .ok (.aload_n 0, 1) := by decide +kernel
theorem dX2_goHours_42 : decode cX2_goHours 42 = .ok (.getfield 24, 3) := by decide +kernel
theorem dX2_goHours_45 : decode cX2_goHours 45 = .ok (.iload 4, 2) := by decide +kernel
theorem dX2_goHours_47 : decode cX2_goHours 47 = .ok (.iaload, 1) := by decide +kernel
theorem dX2_goHours_48 : decode cX2_goHours 48 = .ok (.aload_n 0, 1) := by decide +kernel
theorem dX2_goHours_49 : decode cX2_goHours 49 = .ok (.getfield 21, 3) := by decide +kernel
theorem dX2_goHours_52 : decode cX2_goHours 52 = .ok (.iload 4, 2) := by decide +kernel
theorem dX2_goHours_54 : decode cX2_goHours 54 = .ok (.iaload, 1) := by decide +kernel
theorem dX2_goHours_55 : decode cX2_goHours 55 = .ok (.if_icmp .eq 10, 3) := by decide +kernel
theorem dX2_goHours_58 : decode cX2_goHours 58 = .ok (.aload_n 0, 1) := by decide +kernel
theorem dX2_goHours_59 : decode cX2_goHours 59 = .ok (.iload 4, 2) := by decide +kernel
theorem dX2_goHours_61 : decode cX2_goHours 61 = .ok (.iload_n 2, 1) := by decide +kernel
theorem dX2_goHours_62 : decode cX2_goHours 62 = .ok (.invokevirtual 83, 3) := by decide +kernel
theorem dX2_goHours_65 : decode cX2_goHours 65 = .ok (.iinc 4 1, 3) := by decide +kernel
theorem dX2_goHours_68 : decode cX2_goHours 68 = .ok (.goto (-58), 3) := by decide +kernel
theorem dX2_goHours_71 : decode cX2_goHours 71 = .ok (.aload_n 0, 1) := by decide +kernel
theorem dX2_goHours_72 : decode cX2_goHours 72 = .ok (.getfield 45, 3) := by decide +kernel
theorem dX2_goHours_75 : decode cX2_goHours 75 = .ok (.getfield 87, 3) := by decide +kernel
theorem dX2_goHours_78 : decode cX2_goHours 78 = .ok (.ifCond .le 22, 3) := by decide +kernel
theorem dX2_goHours_81 : decode cX2_goHours 81 = .ok (.aload_n 0, 1) := by decide +kernel
theorem dX2_goHours_82 : decode cX2_goHours 82 = .ok (.getfield 62, 3) := by decide +kernel
theorem dX2_goHours_85 : decode cX2_goHours 85 = .ok (.aload_n 0, 1) := by decide +kernel
theorem dX2_goHours_86 : decode cX2_goHours 86 = .ok (.getfield 45, 3) := by decide +kernel
theorem dX2_goHours_89 : decode cX2_goHours 89 = .ok (.getfield 87, 3) := by decide +kernel
theorem dX2_goHours_92 : decode cX2_goHours 92 = .ok (.irem, 1) := by decide +kernel
theorem dX2_goHours_93 : decode cX2_goHours 93 = .ok (.ifCond .ne 7, 3) := by decide +kernel
theorem dX2_goHours_96 : decode cX2_goHours 96 = .ok (.aload_n 0, 1) := by decide +kernel
theorem dX2_goHours_97 : decode cX2_goHours 97 = .ok (.invokevirtual 90, 3) := by decide +kernel
theorem dX2_goHours_100 : decode cX2_goHours 100 = .ok (.aload_n 0, 1) := by decide +kernel
theorem dX2_goHours_101 : decode cX2_goHours 101 = .ok (.dup, 1) := by decide +kernel
theorem dX2_goHours_102 : decode cX2_goHours 102 = .ok (.getfield 62, 3) := by decide +kernel
theorem dX2_goHours_105 : decode cX2_goHours 105 = .ok (.iconst 1, 1) := by decide +kernel
theorem dX2_goHours_106 : decode cX2_goHours 106 = .ok (.iadd, 1) := by decide +kernel
theorem dX2_goHours_107 : decode cX2_goHours 107 = .ok (.putfield 62, 3) := by decide +kernel
theorem dX2_goHours_110 : decode cX2_goHours 110 = .ok (.iinc 3 1, 3) := by decide +kernel
theorem dX2_goHours_113 : decode cX2_goHours 113 = .ok (.goto (-111), 3) := by decide +kernel
theorem dX2_goHours_116 : decode cX2_goHours 116 = .ok (.return_, 1) := by decide +kernel
theorem dX2_goOn_0 : decode cX2_goOn 0 = .ok (.aload_n 0, 1) := by decide +kernel
theorem dX2_goOn_1 : decode cX2_goOn 1 = .ok (.getfield 21, 3) := by decide +kernel
theorem dX2_goOn_4 : decode cX2_goOn 4 = .ok (.iload_n 1, 1) := by decide +kernel
theorem dX2_goOn_5 : decode cX2_goOn 5 = .ok (.iaload, 1) := by decide +kernel
theorem dX2_goOn_6 : decode cX2_goOn 6 = .ok (.aload_n 0, 1) := by decide +kernel
theorem dX2_goOn_7 : decode cX2_goOn 7 = .ok (.getfield 24, 3) := by decide +kernel
theorem dX2_goOn_10 : decode cX2_goOn 10 = .ok (.iload_n 1, 1) := by decide +kernel
theorem dX2_goOn_11 : decode cX2_goOn 11 = .ok (.iaload, 1) := by decide +kernel
theorem dX2_goOn_12 : decode cX2_goOn 12 = .ok (.aload_n 0, 1) := by decide +kernel
theorem dX2_goOn_13 : decode cX2_goOn 13 = .ok (.getfield 27, 3) := by decide +kernel
theorem dX2_goOn_16 : decode cX2_goOn 16 = .ok (.iload_n 1, 1) := by decide +kernel
theorem dX2_goOn_17 : decode cX2_goOn 17 = .ok (.iaload, 1) := by decide +kernel
theorem dX2_goOn_18 : decode cX2_goOn 18 = .ok (.invokestatic 93, 3) := by decide +kernel
theorem dX2_goOn_21 : decode cX2_goOn 21 = .ok (.istore_n 3, 1) := by decide +kernel
theorem dX2_goOn_22 : decode cX2_goOn 22 = .ok (.iload_n 3, 1) := by decide +kernel
theorem dX2_goOn_23 : decode cX2_goOn 23 = .ok (.ifCond .ge 4, 3) := by decide +kernel
theorem dX2_goOn_26 : decode cX2_goOn 26 = .ok (.return_, 1) := by decide +kernel
theorem dX2_goOn_27 : decode cX2_goOn 27 = .ok (.aload_n 0, 1) := by decide +kernel
theorem dX2_goOn_28 : decode cX2_goOn 28 = .ok (.iload_n 1, 1) := by decide +kernel
theorem dX2_goOn_29 : decode cX2_goOn 29 = .ok (.iload_n 3, 1) := by decide +kernel
theorem dX2_goOn_30 : decode cX2_goOn 30 = .ok (.invokevirtual 79, 3) := by decide +kernel
theorem dX2_goOn_33 : decode cX2_goOn 33 = .ok (.ifCond .le 11, 3) := by decide +kernel
theorem dX2_goOn_36 : decode cX2_goOn 36 = .ok (.aload_n 0, 1) := by decide +kernel
theorem dX2_goOn_37 : decode cX2_goOn 37 = .ok (.getfield 21, 3) := by decide +kernel
theorem dX2_goOn_40 : decode cX2_goOn 40 = .ok (.iload_n 1, 1) := by decide +kernel
theorem dX2_goOn_41 : decode cX2_goOn 41 = .ok (.iload_n 3, 1) := by decide +kernel
theorem dX2_goOn_42 : decode cX2_goOn 42 = .ok (.iastore, 1) := by decide +kernel
theorem dX2_goOn_43 : decode cX2_goOn 43 = .ok (.return_, 1) := by decide +kernel
theorem dX2_goOn_44 : decode cX2_goOn 44 = .ok (.aload_n 0, 1) := by decide +kernel
theorem dX2_goOn_45 : decode cX2_goOn 45 = .ok (.getfield 27, 3) := by decide +kernel
theorem dX2_goOn_48 : decode cX2_goOn 48 = .ok (.iload_n 1, 1) := by decide +kernel
theorem dX2_goOn_49 : decode cX2_goOn 49 = .ok (.dup2, 1) := by decide +kernel
theorem dX2_goOn_50 : decode cX2_goOn 50 = .ok (.iaload, 1) := by decide +kernel
theorem dX2_goOn_51 : decode cX2_goOn 51 = .ok (.iconst 1, 1) := by decide +kernel
theorem dX2_goOn_52 : decode cX2_goOn 52 = .ok (.iload_n 3, 1) := by decide +kernel
theorem dX2_goOn_53 : decode cX2_goOn 53 = .ok (.ishl, 1) := by decide +kernel
theorem dX2_goOn_54 : decode cX2_goOn 54 = .ok (.ior, 1) := by decide +kernel
theorem dX2_goOn_55 : decode cX2_goOn 55 = .ok (.iastore, 1) := by decide +kernel
theorem dX2_goOn_56 : decode cX2_goOn 56 = .ok (.aload_n 0, 1) := by decide +kernel
theorem dX2_goOn_57 : decode cX2_goOn 57 = .ok (.getfield 30, 3) := by decide +kernel
theorem dX2_goOn_60 : decode cX2_goOn 60 = .ok (.iload_n 1, 1) := by decide +kernel
theorem dX2_goOn_61 : decode cX2_goOn 61 = .ok (.iaload, 1) := by decide +kernel
theorem dX2_goOn_62 : decode cX2_goOn 62 = .ok (.iload_n 2, 1) := by decide +kernel
theorem dX2_goOn_63 : decode cX2_goOn 63 = .ok (.if_icmp .ge 13, 3) := by decide +kernel
theorem dX2_goOn_66 : decode cX2_goOn 66 = .ok (.aload_n 0, 1) := by decide +kernel
theorem dX2_goOn_67 : decode cX2_goOn 67 = .ok (.getfield 30, 3) := by decide +kernel
theorem dX2_goOn_70 : decode cX2_goOn 70 = .ok (.iload_n 1, 1) := by decide +kernel
theorem dX2_goOn_71 : decode cX2_goOn 71 = .ok (.dup2, 1) := by decide +kernel
theorem dX2_goOn_72 : decode cX2_goOn 72 = .ok (.iaload, 1) := by decide +kernel
theorem dX2_goOn_73 : decode cX2_goOn 73 = .ok (.iconst 1, 1) := by decide +kernel
theorem dX2_goOn_74 : decode cX2_goOn 74 = .ok (.iadd, 1) := by decide +kernel
theorem dX2_goOn_75 : decode cX2_goOn 75 = .ok (.iastore, 1) := by decide +kernel
theorem dX2_goOn_76 : decode cX2_goOn 76 = .ok (.return_, 1) := by decide +kernel
theorem dX2_fadeCharts_0 : decode cX2_fadeCharts 0 = .ok (.iconst 0, 1) := by decide +kernel
theorem dX2_fadeCharts_1 : decode cX2_fadeCharts 1 = .ok (.istore_n 1, 1) := by decide +kernel
theorem dX2_fadeCharts_2 : decode cX2_fadeCharts 2 = .ok (.iload_n 1, 1) := by decide +kernel
theorem dX2_fadeCharts_3 : decode cX2_fadeCharts 3 = .ok (.aload_n 0, 1) := by decide +kernel
theorem dX2_fadeCharts_4 : decode cX2_fadeCharts 4 = .ok (.getfield 53, 3) := by decide +kernel
theorem dX2_fadeCharts_7 : decode cX2_fadeCharts 7 = .ok (.if_icmp .ge 26, 3) := by decide +kernel
theorem dX2_fadeCharts_10 : decode cX2_fadeCharts 10 = .ok (.aload_n 0, 1) := by decide +kernel
theorem dX2_fadeCharts_11 : decode cX2_fadeCharts 11 = .ok (.getfield 27, 3) := by decide +kernel
theorem dX2_fadeCharts_14 : decode cX2_fadeCharts 14 = .ok (.iload_n 1, 1) := by decide +kernel
theorem dX2_fadeCharts_15 : decode cX2_fadeCharts 15 = .ok (.dup2, 1) := by decide +kernel
theorem dX2_fadeCharts_16 : decode cX2_fadeCharts 16 = .ok (.iaload, 1) := by decide +kernel
theorem dX2_fadeCharts_17 : decode cX2_fadeCharts 17 = .ok (.aload_n 0, 1) := by decide +kernel
theorem dX2_fadeCharts_18 : decode cX2_fadeCharts 18 = .ok (.getfield 27, 3) := by decide +kernel
theorem dX2_fadeCharts_21 : decode cX2_fadeCharts 21 = .ok (.iload_n 1, 1) := by decide +kernel
theorem dX2_fadeCharts_22 : decode cX2_fadeCharts 22 = .ok (.iaload, 1) := by decide +kernel
theorem dX2_fadeCharts_23 : decode cX2_fadeCharts 23 = .ok (.iconst 1, 1) := by decide +kernel
theorem dX2_fadeCharts_24 : decode cX2_fadeCharts 24 = .ok (.isub, 1) := by decide +kernel
theorem dX2_fadeCharts_25 : decode cX2_fadeCharts 25 = .ok (.iand, 1) := by decide +kernel
theorem dX2_fadeCharts_26 : decode cX2_fadeCharts 26 = .ok (.iastore, 1) := by decide +kernel
theorem dX2_fadeCharts_27 : decode cX2_fadeCharts 27 = .ok (.iinc 1 1, 3) := by decide +kernel
theorem dX2_fadeCharts_30 : decode cX2_fadeCharts 30 = .ok (.goto (-28), 3) := by decide +kernel
theorem dX2_fadeCharts_33 : decode cX2_fadeCharts 33 = .ok (.return_, 1) := by decide +kernel
theorem dX2_hoursToGoal_0 : decode cX2_hoursToGoal 0 = .ok (.aload_n 0, 1) := by decide +kernel
theorem dX2_hoursToGoal_1 : decode cX2_hoursToGoal 1 = .ok (.getfield 24, 3) := by decide +kernel
theorem dX2_hoursToGoal_4 : decode cX2_hoursToGoal 4 = .ok (.iload_n 1, 1) := by decide +kernel
theorem dX2_hoursToGoal_5 : decode cX2_hoursToGoal 5 = .ok (.iaload, 1) := by decide +kernel
theorem dX2_hoursToGoal_6 : decode cX2_hoursToGoal 6 = .ok (.ifCond .ge 6, 3) := by decide +kernel
theorem dX2_hoursToGoal_9 : decode cX2_hoursToGoal 9 = .ok (.bipush (-5), 2) := by decide +kernel
theorem dX2_hoursToGoal_11 : decode cX2_hoursToGoal 11 = .ok (.ireturn, 1) := by decide +kernel
theorem dX2_hoursToGoal_12 : decode cX2_hoursToGoal 12 = .ok (.iconst 0, 1) := by decide +kernel
theorem dX2_hoursToGoal_13 : decode cX2_hoursToGoal 13 = .ok (.istore_n 3, 1) := by decide +kernel
theorem dX2_hoursToGoal_14 : decode cX2_hoursToGoal 14 = .ok (.iload_n 3, 1) := by decide +kernel
theorem dX2_hoursToGoal_15 : decode cX2_hoursToGoal 15 = .ok (.iload_n 2, 1) := by decide +kernel
theorem dX2_hoursToGoal_16 : decode cX2_hoursToGoal 16 = .ok (.if_icmp .gt 44, 3) := by decide +kernel
theorem dX2_hoursToGoal_19 : decode cX2_hoursToGoal 19 = .ok (.iload_n 3, 1) := by decide +kernel
theorem dX2_hoursToGoal_20 : decode cX2_hoursToGoal 20 = .ok (.bipush 40, 2) := by decide +kernel
theorem dX2_hoursToGoal_22 : decode cX2_hoursToGoal 22 = .ok (.if_icmp .gt 38, 3) := by decide +kernel
theorem dX2_hoursToGoal_25 : decode cX2_hoursToGoal 25 = .ok (.aload_n 0, 1) := by decide +kernel
theorem dX2_hoursToGoal_26 : decode cX2_hoursToGoal 26 = .ok (.getfield 21, 3) := by decide +kernel
theorem dX2_hoursToGoal_29 : decode cX2_hoursToGoal 29 = .ok (.iload_n 1, 1) := by decide +kernel
theorem dX2_hoursToGoal_30 : decode cX2_hoursToGoal 30 = .ok (.iaload, 1) := by decide +kernel
theorem dX2_hoursToGoal_31 : decode cX2_hoursToGoal 31 = .ok (.aload_n 0, 1) := by decide +kernel
theorem dX2_hoursToGoal_32 : decode cX2_hoursToGoal 32 = .ok (.getfield 24, 3) := by decide +kernel
theorem dX2_hoursToGoal_35 : decode cX2_hoursToGoal 35 = .ok (.iload_n 1, 1) := by decide +kernel
theorem dX2_hoursToGoal_36 : decode cX2_hoursToGoal 36 = .ok (.iaload, 1) := by decide +kernel
theorem dX2_hoursToGoal_37 : decode cX2_hoursToGoal 37 = .ok (.if_icmp .ne 5, 3) := by decide +kernel
theorem dX2_hoursToGoal_40 : decode cX2_hoursToGoal 40 = .ok (.iload_n 3, 1) := by decide +kernel
theorem dX2_hoursToGoal_41 : decode cX2_hoursToGoal 41 = .ok (.ireturn, 1) := by decide +kernel
theorem dX2_hoursToGoal_42 : decode cX2_hoursToGoal 42 = .ok (.iload_n 3, 1) := by decide +kernel
theorem dX2_hoursToGoal_43 : decode cX2_hoursToGoal 43 = .ok (.iload_n 2, 1) := by decide +kernel
theorem dX2_hoursToGoal_44 : decode cX2_hoursToGoal 44 = .ok (.if_icmp .ge 10, 3) := by decide +kernel
theorem dX2_hoursToGoal_47 : decode cX2_hoursToGoal 47 = .ok (.aload_n 0, 1) := by decide +kernel
theorem dX2_hoursToGoal_48 : decode cX2_hoursToGoal 48 = .ok (.iconst 1, 1) := by decide +kernel
theorem dX2_hoursToGoal_49 : decode cX2_hoursToGoal 49 = .ok (.ldc 99, 2) := by decide +kernel
theorem dX2_hoursToGoal_51 : decode cX2_hoursToGoal 51 = .ok (.invokevirtual 100, 3) := by decide +kernel
theorem dX2_hoursToGoal_54 : decode cX2_hoursToGoal 54 = .ok (.iinc 3 1, 3) := by decide +kernel
theorem dX2_hoursToGoal_57 : decode cX2_hoursToGoal 57 = .ok (.goto (-43), 3) := by decide +kernel
theorem dX2_hoursToGoal_60 : decode cX2_hoursToGoal 60 = .ok (.bipush (-5), 2) := by decide +kernel
theorem dX2_hoursToGoal_62 : decode cX2_hoursToGoal 62 = .ok (.ireturn, 1) := by decide +kernel
theorem dX2_goPlanned_0 : decode cX2_goPlanned 0 = .ok (.iload_n 1, 1) := by decide +kernel
theorem dX2_goPlanned_1 : decode cX2_goPlanned 1 = .ok (.ifCond .ne 11, 3) := by decide +kernel
theorem dX2_goPlanned_4 : decode cX2_goPlanned 4 = .ok (.aload_n 0, 1) := by decide +kernel
theorem dX2_goPlanned_5 : decode cX2_goPlanned 5 = .ok (.iconst 1, 1) := by decide +kernel
theorem dX2_goPlanned_6 : decode cX2_goPlanned 6 = .ok (.ldc 99, 2) := by decide +kernel
theorem dX2_goPlanned_8 : decode cX2_goPlanned 8 = .ok (.invokevirtual 100, 3) := by decide +kernel
theorem dX2_goPlanned_11 : decode cX2_goPlanned 11 = .ok (.return_, 1) := by decide +kernel
theorem dX2_goPlanned_12 : decode cX2_goPlanned 12 = .ok (.iload_n 1, 1) := by decide +kernel
theorem dX2_goPlanned_13 : decode cX2_goPlanned 13 = .ok (.iconst 2, 1) := by decide +kernel
theorem dX2_goPlanned_14 : decode cX2_goPlanned 14 = .ok (.if_icmp .ne 10, 3) := by decide +kernel
theorem dX2_goPlanned_17 : decode cX2_goPlanned 17 = .ok (.iload_n 2, 1) := by decide +kernel
theorem dX2_goPlanned_18 : decode cX2_goPlanned 18 = .ok (.bipush 10, 2) := by decide +kernel
theorem dX2_goPlanned_20 : decode cX2_goPlanned 20 = .ok (.idiv, 1) := by decide +kernel
theorem dX2_goPlanned_21 : decode cX2_goPlanned 21 = .ok (.goto 4, 3) := by decide +kernel
theorem dX2_goPlanned_24 : decode cX2_goPlanned 24 = .ok (.iload_n 2, 1) := by decide +kernel
theorem dX2_goPlanned_25 : decode cX2_goPlanned 25 = .ok (.istore_n 3, 1) := by decide +kernel
theorem dX2_goPlanned_26 : decode cX2_goPlanned 26 = .ok (.iload_n 3, 1) := by decide +kernel
theorem dX2_goPlanned_27 : decode cX2_goPlanned 27 = .ok (.ifCond .lt 11, 3) := by decide +kernel
theorem dX2_goPlanned_30 : decode cX2_goPlanned 30 = .ok (.iload_n 3, 1) := by decide +kernel
theorem dX2_goPlanned_31 : decode cX2_goPlanned 31 = .ok (.aload_n 0, 1) := by decide +kernel
theorem dX2_goPlanned_32 : decode cX2_goPlanned 32 = .ok (.getfield 53, 3) := by decide +kernel
theorem dX2_goPlanned_35 : decode cX2_goPlanned 35 = .ok (.if_icmp .lt 4, 3) := by decide +kernel
theorem dX2_goPlanned_38 : decode cX2_goPlanned 38 = .ok (.return_, 1) := by decide +kernel
theorem dX2_goPlanned_39 : decode cX2_goPlanned 39 = .ok (.iload_n 1, 1) := by decide +kernel
theorem dX2_goPlanned_40 : decode cX2_goPlanned 40 = .ok (.iconst 1, 1) := by decide +kernel
theorem dX2_goPlanned_41 : decode cX2_goPlanned 41 = .ok (.if_icmp .ne 13, 3) := by decide +kernel
theorem dX2_goPlanned_44 : decode cX2_goPlanned 44 = .ok (.aload_n 0, 1) := by decide +kernel
theorem dX2_goPlanned_45 : decode cX2_goPlanned 45 = .ok (.getfield 27, 3) := by decide +kernel
theorem dX2_goPlanned_48 : decode cX2_goPlanned 48 = .ok (.iload_n 3, 1) := by decide +kernel
theorem dX2_goPlanned_49 : decode cX2_goPlanned 49 = .ok (.iconst 0, 1) := by decide +kernel
theorem dX2_goPlanned_50 : decode cX2_goPlanned 50 = .ok (.iastore, 1) := by decide +kernel
theorem dX2_goPlanned_51 : decode cX2_goPlanned 51 = .ok (.goto 37, 3) := by decide +kernel
theorem dX2_goPlanned_54 : decode cX2_goPlanned 54 = .ok (.iload_n 1, 1) := by decide +kernel
theorem dX2_goPlanned_55 : decode cX2_goPlanned 55 = .ok (.iconst 3, 1) := by decide +kernel
theorem dX2_goPlanned_56 : decode cX2_goPlanned 56 = .ok (.if_icmp .ne 13, 3) := by decide +kernel
theorem dX2_goPlanned_59 : decode cX2_goPlanned 59 = .ok (.aload_n 0, 1) := by decide +kernel
theorem dX2_goPlanned_60 : decode cX2_goPlanned 60 = .ok (.getfield 24, 3) := by decide +kernel
theorem dX2_goPlanned_63 : decode cX2_goPlanned 63 = .ok (.iload_n 3, 1) := by decide +kernel
theorem dX2_goPlanned_64 : decode cX2_goPlanned 64 = .ok (.iconst (-1), 1) := by decide +kernel
theorem dX2_goPlanned_65 : decode cX2_goPlanned 65 = .ok (.iastore, 1) := by decide +kernel
theorem dX2_goPlanned_66 : decode cX2_goPlanned 66 = .ok (.goto 22, 3) := by decide +kernel
theorem dX2_goPlanned_69 : decode cX2_goPlanned 69 = .ok (.aload_n 0, 1) := by decide +kernel
theorem dX2_goPlanned_70 : decode cX2_goPlanned 70 = .ok (.getfield 27, 3) := by decide +kernel
theorem dX2_goPlanned_73 : decode cX2_goPlanned 73 = .ok (.iload_n 3, 1) := by decide +kernel
theorem dX2_goPlanned_74 : decode cX2_goPlanned 74 = .ok (.dup2, 1) := by decide +kernel
theorem dX2_goPlanned_75 : decode cX2_goPlanned 75 = .ok (.iaload, 1) := by decide +kernel
theorem dX2_goPlanned_76 : decode cX2_goPlanned 76 = .ok (.aload_n 0, 1) := by decide +kernel
theorem dX2_goPlanned_77 : decode cX2_goPlanned 77 = .ok (.iconst 1, 1) := by decide +kernel
theorem dX2_goPlanned_78 : decode cX2_goPlanned 78 = .ok (.iload_n 2, 1) := by decide +kernel
theorem dX2_goPlanned_79 : decode cX2_goPlanned 79 = .ok (.bipush 10, 2) := by decide +kernel
theorem dX2_goPlanned_81 : decode cX2_goPlanned 81 = .ok (.irem, 1) := by decide +kernel
theorem dX2_goPlanned_82 : decode cX2_goPlanned 82 = .ok (.ishl, 1) := by decide +kernel
theorem dX2_goPlanned_83 : decode cX2_goPlanned 83 = .ok (.invokevirtual 103, 3) := by decide +kernel
theorem dX2_goPlanned_86 : decode cX2_goPlanned 86 = .ok (.ior, 1) := by decide +kernel
theorem dX2_goPlanned_87 : decode cX2_goPlanned 87 = .ok (.iastore, 1) := by decide +kernel
theorem dX2_goPlanned_88 : decode cX2_goPlanned 88 = .ok (.return_, 1) := by decide +kernel
theorem dX2_chartsOf_0 : decode cX2_chartsOf 0 = .ok (.iconst 0, 1) := by decide +kernel
theorem dX2_chartsOf_1 : decode cX2_chartsOf 1 = .ok (.istore_n 2, 1) := by decide +kernel
theorem dX2_chartsOf_2 : decode cX2_chartsOf 2 = .ok (.iconst 0, 1) := by decide +kernel
theorem dX2_chartsOf_3 : decode cX2_chartsOf 3 = .ok (.istore_n 3, 1) := by decide +kernel
theorem dX2_chartsOf_4 : decode cX2_chartsOf 4 = .ok (.iload_n 3, 1) := by decide +kernel
theorem dX2_chartsOf_5 : decode cX2_chartsOf 5 = .ok (.aload_n 0, 1) := by decide +kernel
theorem dX2_chartsOf_6 : decode cX2_chartsOf 6 = .ok (.getfield 53, 3) := by decide +kernel
theorem dX2_chartsOf_9 : decode cX2_chartsOf 9 = .ok (.if_icmp .ge 26, 3) := by decide +kernel
theorem dX2_chartsOf_12 : decode cX2_chartsOf 12 = .ok (.iload_n 1, 1) := by decide +kernel
theorem dX2_chartsOf_13 : decode cX2_chartsOf 13 = .ok (.iload_n 3, 1) := by decide +kernel
theorem dX2_chartsOf_14 : decode cX2_chartsOf 14 = .ok (.ishr, 1) := by decide +kernel
theorem dX2_chartsOf_15 : decode cX2_chartsOf 15 = .ok (.iconst 1, 1) := by decide +kernel
theorem dX2_chartsOf_16 : decode cX2_chartsOf 16 = .ok (.iand, 1) := by decide +kernel
theorem dX2_chartsOf_17 : decode cX2_chartsOf 17 = .ok (.ifCond .eq 12, 3) := by decide +kernel
theorem dX2_chartsOf_20 : decode cX2_chartsOf 20 = .ok (.iload_n 2, 1) := by decide +kernel
theorem dX2_chartsOf_21 : decode cX2_chartsOf 21 = .ok (.aload_n 0, 1) := by decide +kernel
theorem dX2_chartsOf_22 : decode cX2_chartsOf 22 = .ok (.getfield 27, 3) := by decide +kernel
theorem dX2_chartsOf_25 : decode cX2_chartsOf 25 = .ok (.iload_n 3, 1) := by decide +kernel
theorem dX2_chartsOf_26 : decode cX2_chartsOf 26 = .ok (.iaload, 1) := by decide +kernel
theorem dX2_chartsOf_27 : decode cX2_chartsOf 27 = .ok (.ior, 1) := by decide +kernel
theorem dX2_chartsOf_28 : decode cX2_chartsOf 28 = .ok (.istore_n 2, 1) := by decide +kernel
theorem dX2_chartsOf_29 : decode cX2_chartsOf 29 = .ok (.iinc 3 1, 3) := by decide +kernel
theorem dX2_chartsOf_32 : decode cX2_chartsOf 32 = .ok (.goto (-28), 3) := by decide +kernel
theorem dX2_chartsOf_35 : decode cX2_chartsOf 35 = .ok (.iload_n 2, 1) := by decide +kernel
theorem dX2_chartsOf_36 : decode cX2_chartsOf 36 = .ok (.ireturn, 1) := by decide +kernel
theorem dX2_atGoals_0 : decode cX2_atGoals 0 = .ok (.iconst 0, 1) := by decide +kernel
theorem dX2_atGoals_1 : decode cX2_atGoals 1 = .ok (.istore_n 1, 1) := by decide +kernel
theorem dX2_atGoals_2 : decode cX2_atGoals 2 = .ok (.iconst 0, 1) := by decide +kernel
theorem dX2_atGoals_3 : decode cX2_atGoals 3 = .ok (.istore_n 2, 1) := by decide +kernel
theorem dX2_atGoals_4 : decode cX2_atGoals 4 = .ok (.iload_n 2, 1) := by decide +kernel
theorem dX2_atGoals_5 : decode cX2_atGoals 5 = .ok (.aload_n 0, 1) := by decide +kernel
theorem dX2_atGoals_6 : decode cX2_atGoals 6 = .ok (.getfield 53, 3) := by decide +kernel
theorem dX2_atGoals_9 : decode cX2_atGoals 9 = .ok (.if_icmp .ge 30, 3) := by decide +kernel
theorem dX2_atGoals_12 : decode cX2_atGoals 12 = .ok (.aload_n 0, 1) := by decide +kernel
theorem dX2_atGoals_13 : decode cX2_atGoals 13 = .ok (.getfield 21, 3) := by decide +kernel
theorem dX2_atGoals_16 : decode cX2_atGoals 16 = .ok (.iload_n 2, 1) := by decide +kernel
theorem dX2_atGoals_17 : decode cX2_atGoals 17 = .ok (.iaload, 1) := by decide +kernel
theorem dX2_atGoals_18 : decode cX2_atGoals 18 = .ok (.aload_n 0, 1) := by decide +kernel
theorem dX2_atGoals_19 : decode cX2_atGoals 19 = .ok (.getfield 24, 3) := by decide +kernel
theorem dX2_atGoals_22 : decode cX2_atGoals 22 = .ok (.iload_n 2, 1) := by decide +kernel
theorem dX2_atGoals_23 : decode cX2_atGoals 23 = .ok (.iaload, 1) := by decide +kernel
theorem dX2_atGoals_24 : decode cX2_atGoals 24 = .ok (.if_icmp .ne 9, 3) := by decide +kernel
theorem dX2_atGoals_27 : decode cX2_atGoals 27 = .ok (.iload_n 1, 1) := by decide +kernel
theorem dX2_atGoals_28 : decode cX2_atGoals 28 = .ok (.iconst 1, 1) := by decide +kernel
theorem dX2_atGoals_29 : decode cX2_atGoals 29 = .ok (.iload_n 2, 1) := by decide +kernel
theorem dX2_atGoals_30 : decode cX2_atGoals 30 = .ok (.ishl, 1) := by decide +kernel
theorem dX2_atGoals_31 : decode cX2_atGoals 31 = .ok (.ior, 1) := by decide +kernel
theorem dX2_atGoals_32 : decode cX2_atGoals 32 = .ok (.istore_n 1, 1) := by decide +kernel
theorem dX2_atGoals_33 : decode cX2_atGoals 33 = .ok (.iinc 2 1, 3) := by decide +kernel
theorem dX2_atGoals_36 : decode cX2_atGoals 36 = .ok (.goto (-32), 3) := by decide +kernel
theorem dX2_atGoals_39 : decode cX2_atGoals 39 = .ok (.iload_n 1, 1) := by decide +kernel
theorem dX2_atGoals_40 : decode cX2_atGoals 40 = .ok (.ireturn, 1) := by decide +kernel
theorem dX2_allNoes_0 : decode cX2_allNoes 0 = .ok (.iconst 0, 1) := by decide +kernel
theorem dX2_allNoes_1 : decode cX2_allNoes 1 = .ok (.istore_n 1, 1) := by decide +kernel
theorem dX2_allNoes_2 : decode cX2_allNoes 2 = .ok (.iconst 0, 1) := by decide +kernel
theorem dX2_allNoes_3 : decode cX2_allNoes 3 = .ok (.istore_n 2, 1) := by decide +kernel
theorem dX2_allNoes_4 : decode cX2_allNoes 4 = .ok (.iload_n 2, 1) := by decide +kernel
theorem dX2_allNoes_5 : decode cX2_allNoes 5 = .ok (.aload_n 0, 1) := by decide +kernel
theorem dX2_allNoes_6 : decode cX2_allNoes 6 = .ok (.getfield 53, 3) := by decide +kernel
theorem dX2_allNoes_9 : decode cX2_allNoes 9 = .ok (.if_icmp .ge 18, 3) := by decide +kernel
theorem dX2_allNoes_12 : decode cX2_allNoes 12 = .ok (.iload_n 1, 1) := by decide +kernel
theorem dX2_allNoes_13 : decode cX2_allNoes 13 = .ok (.aload_n 0, 1) := by decide +kernel
theorem dX2_allNoes_14 : decode cX2_allNoes 14 = .ok (.getfield 30, 3) := by decide +kernel
theorem dX2_allNoes_17 : decode cX2_allNoes 17 = .ok (.iload_n 2, 1) := by decide +kernel
theorem dX2_allNoes_18 : decode cX2_allNoes 18 = .ok (.iaload, 1) := by decide +kernel
theorem dX2_allNoes_19 : decode cX2_allNoes 19 = .ok (.iadd, 1) := by decide +kernel
theorem dX2_allNoes_20 : decode cX2_allNoes 20 = .ok (.istore_n 1, 1) := by decide +kernel
theorem dX2_allNoes_21 : decode cX2_allNoes 21 = .ok (.iinc 2 1, 3) := by decide +kernel
theorem dX2_allNoes_24 : decode cX2_allNoes 24 = .ok (.goto (-20), 3) := by decide +kernel
theorem dX2_allNoes_27 : decode cX2_allNoes 27 = .ok (.iload_n 1, 1) := by decide +kernel
theorem dX2_allNoes_28 : decode cX2_allNoes 28 = .ok (.ireturn, 1) := by decide +kernel
theorem dX2_allDrawn_0 : decode cX2_allDrawn 0 = .ok (.iconst 0, 1) := by decide +kernel
theorem dX2_allDrawn_1 : decode cX2_allDrawn 1 = .ok (.istore_n 1, 1) := by decide +kernel
theorem dX2_allDrawn_2 : decode cX2_allDrawn 2 = .ok (.iconst 0, 1) := by decide +kernel
theorem dX2_allDrawn_3 : decode cX2_allDrawn 3 = .ok (.istore_n 2, 1) := by decide +kernel
theorem dX2_allDrawn_4 : decode cX2_allDrawn 4 = .ok (.iload_n 2, 1) := by decide +kernel
theorem dX2_allDrawn_5 : decode cX2_allDrawn 5 = .ok (.aload_n 0, 1) := by decide +kernel
theorem dX2_allDrawn_6 : decode cX2_allDrawn 6 = .ok (.getfield 53, 3) := by decide +kernel
theorem dX2_allDrawn_9 : decode cX2_allDrawn 9 = .ok (.if_icmp .ge 21, 3) := by decide +kernel
theorem dX2_allDrawn_12 : decode cX2_allDrawn 12 = .ok (.iload_n 1, 1) := by decide +kernel
theorem dX2_allDrawn_13 : decode cX2_allDrawn 13 = .ok (.aload_n 0, 1) := by decide +kernel
theorem dX2_allDrawn_14 : decode cX2_allDrawn 14 = .ok (.getfield 27, 3) := by decide +kernel
theorem dX2_allDrawn_17 : decode cX2_allDrawn 17 = .ok (.iload_n 2, 1) := by decide +kernel
theorem dX2_allDrawn_18 : decode cX2_allDrawn 18 = .ok (.iaload, 1) := by decide +kernel
theorem dX2_allDrawn_19 : decode cX2_allDrawn 19 = .ok (.invokestatic 73, 3) := by decide +kernel
theorem dX2_allDrawn_22 : decode cX2_allDrawn 22 = .ok (.iadd, 1) := by decide +kernel
theorem dX2_allDrawn_23 : decode cX2_allDrawn 23 = .ok (.istore_n 1, 1) := by decide +kernel
theorem dX2_allDrawn_24 : decode cX2_allDrawn 24 = .ok (.iinc 2 1, 3) := by decide +kernel
theorem dX2_allDrawn_27 : decode cX2_allDrawn 27 = .ok (.goto (-23), 3) := by decide +kernel
theorem dX2_allDrawn_30 : decode cX2_allDrawn 30 = .ok (.iload_n 1, 1) := by decide +kernel
theorem dX2_allDrawn_31 : decode cX2_allDrawn 31 = .ok (.ireturn, 1) := by decide +kernel
theorem dX3_init_0 : decode cX3_init 0 = .ok (.aload_n 0, 1) := by decide +kernel
theorem dX3_init_1 : decode cX3_init 1 = .ok (.invokespecial 1, 3) := by decide +kernel
theorem dX3_init_4 : decode cX3_init 4 = .ok (.aload_n 0, 1) := by decide +kernel
theorem dX3_init_5 : decode cX3_init 5 = .ok (.aload_n 1, 1) := by decide +kernel
theorem dX3_init_6 : decode cX3_init 6 = .ok (.putfield 7, 3) := by decide +kernel
theorem dX3_init_9 : decode cX3_init 9 = .ok (.aload_n 0, 1) := by decide +kernel
theorem dX3_init_10 : decode cX3_init 10 = .ok (.iload_n 2, 1) := by decide +kernel
theorem dX3_init_11 : decode cX3_init 11 = .ok (.putfield 13, 3) := by decide +kernel
theorem dX3_init_14 : decode cX3_init 14 = .ok (.return_, 1) := by decide +kernel
theorem dX3_openLessShut_0 : decode cX3_openLessShut 0 = .ok (.iconst 0, 1) := by decide +kernel
theorem dX3_openLessShut_1 : decode cX3_openLessShut 1 = .ok (.istore_n 2, 1) := by decide +kernel
theorem dX3_openLessShut_2 : decode cX3_openLessShut 2 = .ok (.iconst 0, 1) := by decide +kernel
theorem dX3_openLessShut_3 : decode cX3_openLessShut 3 = .ok (.istore_n 3, 1) := by decide +kernel
theorem dX3_openLessShut_4 : decode cX3_openLessShut 4 = .ok (.iconst 0, 1) := by decide +kernel
theorem dX3_openLessShut_5 : decode cX3_openLessShut 5 = .ok (.istore 4, 2) := by decide +kernel
theorem dX3_openLessShut_7 : decode cX3_openLessShut 7 = .ok (.iload 4, 2) := by decide +kernel
theorem dX3_openLessShut_9 : decode cX3_openLessShut 9 = .ok (.aload_n 0, 1) := by decide +kernel
theorem dX3_openLessShut_10 : decode cX3_openLessShut 10 = .ok (.getfield 7, 3) := by decide +kernel
theorem dX3_openLessShut_13 : decode cX3_openLessShut 13 = .ok (.arraylength, 1) := by decide +kernel
theorem dX3_openLessShut_14 : decode cX3_openLessShut 14 = .ok (.if_icmp .ge 185, 3) := by decide +kernel
theorem dX3_openLessShut_17 : decode cX3_openLessShut 17 = .ok (.aload_n 0, 1) := by decide +kernel
theorem dX3_openLessShut_18 : decode cX3_openLessShut 18 = .ok (.getfield 7, 3) := by decide +kernel
theorem dX3_openLessShut_21 : decode cX3_openLessShut 21 = .ok (.iload 4, 2) := by decide +kernel
theorem dX3_openLessShut_23 : decode cX3_openLessShut 23 = .ok (.iaload, 1) := by decide +kernel
theorem dX3_openLessShut_24 : decode cX3_openLessShut 24 = .ok (.iconst 4, 1) := by decide +kernel
theorem dX3_openLessShut_25 : decode cX3_openLessShut 25 = .ok (.ishr, 1) := by decide +kernel
theorem dX3_openLessShut_26 : decode cX3_openLessShut 26 = .ok (.istore 5, 2) := by decide +kernel
theorem dX3_openLessShut_28 : decode cX3_openLessShut 28 = .ok (.aload_n 1, 1) := by decide +kernel
theorem dX3_openLessShut_29 : decode cX3_openLessShut 29 = .ok (.iload 5, 2) := by decide +kernel
theorem dX3_openLessShut_31 : decode cX3_openLessShut 31 = .ok (.bipush 7, 2) := by decide +kernel
theorem dX3_openLessShut_33 : decode cX3_openLessShut 33 = .ok (.iand, 1) := by decide +kernel
theorem dX3_openLessShut_34 : decode cX3_openLessShut 34 = .ok (.iaload, 1) := by decide +kernel
theorem dX3_openLessShut_35 : decode cX3_openLessShut 35 = .ok (.istore 6, 2) := by decide +kernel
theorem dX3_openLessShut_37 : decode cX3_openLessShut 37 = .ok (.iload 5, 2) := by decide +kernel
theorem dX3_openLessShut_39 : decode cX3_openLessShut 39 = .ok (.iconst 3, 1) := by decide +kernel
theorem dX3_openLessShut_40 : decode cX3_openLessShut 40 = .ok (.ishr, 1) := by decide +kernel
theorem dX3_openLessShut_41 : decode cX3_openLessShut 41 = .ok (.istore 7, 2) := by decide +kernel
theorem dX3_openLessShut_43 : decode cX3_openLessShut 43 = .ok (.aload_n 0, 1) := by decide +kernel
theorem dX3_openLessShut_44 : decode cX3_openLessShut 44 = .ok (.getfield 7, 3) := by decide +kernel
theorem dX3_openLessShut_47 : decode cX3_openLessShut 47 = .ok (.iload 4, 2) := by decide +kernel
theorem dX3_openLessShut_49 : decode cX3_openLessShut 49 = .ok (.iaload, 1) := by decide +kernel
theorem dX3_openLessShut_50 : decode cX3_openLessShut 50 = .ok (.bipush 15, 2) := by decide +kernel
theorem dX3_openLessShut_52 : decode cX3_openLessShut 52 = .ok (.iand, 1) := by decide +kernel
theorem dX3_openLessShut_53 : decode cX3_openLessShut 53 = .ok (.tableswitch 123 0 5 #[39, 46, 58, 69, 83, 103], 39) := by decide +kernel
theorem dX3_openLessShut_92 : decode cX3_openLessShut 92 = .ok (.iload_n 3, 1) := by decide +kernel
theorem dX3_openLessShut_93 : decode cX3_openLessShut 93 = .ok (.iconst 1, 1) := by decide +kernel
theorem dX3_openLessShut_94 : decode cX3_openLessShut 94 = .ok (.ixor, 1) := by decide +kernel
theorem dX3_openLessShut_95 : decode cX3_openLessShut 95 = .ok (.istore_n 3, 1) := by decide +kernel
theorem dX3_openLessShut_96 : decode cX3_openLessShut 96 = .ok (.goto 97, 3) := by decide +kernel
theorem dX3_openLessShut_99 : decode cX3_openLessShut 99 = .ok (.iload_n 3, 1) := by decide +kernel
theorem dX3_openLessShut_100 : decode cX3_openLessShut 100 = .ok (.iconst 1, 1) := by decide +kernel
theorem dX3_openLessShut_101 : decode cX3_openLessShut 101 = .ok (.iushr, 1) := by decide +kernel
theorem dX3_openLessShut_102 : decode cX3_openLessShut 102 = .ok (.iload_n 3, 1) := by decide +kernel
theorem dX3_openLessShut_103 : decode cX3_openLessShut 103 = .ok (.bipush (-2), 2) := by decide +kernel
theorem dX3_openLessShut_105 : decode cX3_openLessShut 105 = .ok (.ior, 1) := by decide +kernel
theorem dX3_openLessShut_106 : decode cX3_openLessShut 106 = .ok (.iand, 1) := by decide +kernel
theorem dX3_openLessShut_107 : decode cX3_openLessShut 107 = .ok (.istore_n 3, 1) := by decide +kernel
theorem dX3_openLessShut_108 : decode cX3_openLessShut 108 = .ok (.goto 85, 3) := by decide +kernel
theorem dX3_openLessShut_111 : decode cX3_openLessShut 111 = .ok (.iload_n 3, 1) := by decide +kernel
theorem dX3_openLessShut_112 : decode cX3_openLessShut 112 = .ok (.iconst 1, 1) := by decide +kernel
theorem dX3_openLessShut_113 : decode cX3_openLessShut 113 = .ok (.iushr, 1) := by decide +kernel
theorem dX3_openLessShut_114 : decode cX3_openLessShut 114 = .ok (.iload_n 3, 1) := by decide +kernel
theorem dX3_openLessShut_115 : decode cX3_openLessShut 115 = .ok (.iconst 1, 1) := by decide +kernel
theorem dX3_openLessShut_116 : decode cX3_openLessShut 116 = .ok (.iand, 1) := by decide +kernel
theorem dX3_openLessShut_117 : decode cX3_openLessShut 117 = .ok (.ior, 1) := by decide +kernel
theorem dX3_openLessShut_118 : decode cX3_openLessShut 118 = .ok (.istore_n 3, 1) := by decide +kernel
theorem dX3_openLessShut_119 : decode cX3_openLessShut 119 = .ok (.goto 74, 3) := by decide +kernel
theorem dX3_openLessShut_122 : decode cX3_openLessShut 122 = .ok (.iload_n 2, 1) := by decide +kernel
theorem dX3_openLessShut_123 : decode cX3_openLessShut 123 = .ok (.iload_n 3, 1) := by decide +kernel
theorem dX3_openLessShut_124 : decode cX3_openLessShut 124 = .ok (.iconst 1, 1) := by decide +kernel
theorem dX3_openLessShut_125 : decode cX3_openLessShut 125 = .ok (.iand, 1) := by decide +kernel
theorem dX3_openLessShut_126 : decode cX3_openLessShut 126 = .ok (.iload 5, 2) := by decide +kernel
theorem dX3_openLessShut_128 : decode cX3_openLessShut 128 = .ok (.imul, 1) := by decide +kernel
theorem dX3_openLessShut_129 : decode cX3_openLessShut 129 = .ok (.iadd, 1) := by decide +kernel
theorem dX3_openLessShut_130 : decode cX3_openLessShut 130 = .ok (.istore_n 2, 1) := by decide +kernel
theorem dX3_openLessShut_131 : decode cX3_openLessShut 131 = .ok (.iconst 0, 1) := by decide +kernel
theorem dX3_openLessShut_132 : decode cX3_openLessShut 132 = .ok (.istore_n 3, 1) := by decide +kernel
theorem dX3_openLessShut_133 : decode cX3_openLessShut 133 = .ok (.goto 60, 3) := by decide +kernel
theorem dX3_openLessShut_136 : decode cX3_openLessShut 136 = .ok (.iload_n 3, 1) := by decide +kernel
theorem dX3_openLessShut_137 : decode cX3_openLessShut 137 = .ok (.iconst 1, 1) := by decide +kernel
theorem dX3_openLessShut_138 : decode cX3_openLessShut 138 = .ok (.ishl, 1) := by decide +kernel
theorem dX3_openLessShut_139 : decode cX3_openLessShut 139 = .ok (.iload 6, 2) := by decide +kernel
theorem dX3_openLessShut_141 : decode cX3_openLessShut 141 = .ok (.iload 7, 2) := by decide +kernel
theorem dX3_openLessShut_143 : decode cX3_openLessShut 143 = .ok (.if_icmp .ge 7, 3) := by decide +kernel
theorem dX3_openLessShut_146 : decode cX3_openLessShut 146 = .ok (.iconst 1, 1) := by decide +kernel
theorem dX3_openLessShut_147 : decode cX3_openLessShut 147 = .ok (.goto 4, 3) := by decide +kernel
theorem dX3_openLessShut_150 : decode cX3_openLessShut 150 = .ok (.iconst 0, 1) := by decide +kernel
theorem dX3_openLessShut_151 : decode cX3_openLessShut 151 = .ok (.ior, 1) := by decide +kernel
theorem dX3_openLessShut_152 : decode cX3_openLessShut 152 = .ok (.istore_n 3, 1) := by decide +kernel
theorem dX3_openLessShut_153 : decode cX3_openLessShut 153 = .ok (.goto 40, 3) := by decide +kernel
theorem dX3_openLessShut_156 : decode cX3_openLessShut 156 = .ok (.iload_n 3, 1) := by decide +kernel
theorem dX3_openLessShut_157 : decode cX3_openLessShut 157 = .ok (.iconst 1, 1) := by decide +kernel
theorem dX3_openLessShut_158 : decode cX3_openLessShut 158 = .ok (.ishl, 1) := by decide +kernel
theorem dX3_openLessShut_159 : decode cX3_openLessShut 159 = .ok (.iload 6, 2) := by decide +kernel
theorem dX3_openLessShut_161 : decode cX3_openLessShut 161 = .ok (.iload 7, 2) := by decide +kernel
theorem dX3_openLessShut_163 : decode cX3_openLessShut 163 = .ok (.if_icmp .ne 7, 3) := by decide +kernel
theorem dX3_openLessShut_166 : decode cX3_openLessShut 166 = .ok (.iconst 1, 1) := by decide +kernel
theorem dX3_openLessShut_167 : decode cX3_openLessShut 167 = .ok (.goto 4, 3) := by decide +kernel
theorem dX3_openLessShut_170 : decode cX3_openLessShut 170 = .ok (.iconst 0, 1) := by decide +kernel
theorem dX3_openLessShut_171 : decode cX3_openLessShut 171 = .ok (.ior, 1) := by decide +kernel
theorem dX3_openLessShut_172 : decode cX3_openLessShut 172 = .ok (.istore_n 3, 1) := by decide +kernel
theorem dX3_openLessShut_173 : decode cX3_openLessShut 173 = .ok (.goto 20, 3) := by decide +kernel
theorem dX3_openLessShut_176 : decode cX3_openLessShut 176 = .ok (.iload_n 3, 1) := by decide +kernel
theorem dX3_openLessShut_177 : decode cX3_openLessShut 177 = .ok (.iconst 1, 1) := by decide +kernel
theorem dX3_openLessShut_178 : decode cX3_openLessShut 178 = .ok (.ishl, 1) := by decide +kernel
theorem dX3_openLessShut_179 : decode cX3_openLessShut 179 = .ok (.iload 6, 2) := by decide +kernel
theorem dX3_openLessShut_181 : decode cX3_openLessShut 181 = .ok (.iload 7, 2) := by decide +kernel
theorem dX3_openLessShut_183 : decode cX3_openLessShut 183 = .ok (.if_icmp .le 7, 3) := by decide +kernel
theorem dX3_openLessShut_186 : decode cX3_openLessShut 186 = .ok (.iconst 1, 1) := by decide +kernel
theorem dX3_openLessShut_187 : decode cX3_openLessShut 187 = .ok (.goto 4, 3) := by decide +kernel
theorem dX3_openLessShut_190 : decode cX3_openLessShut 190 = .ok (.iconst 0, 1) := by decide +kernel
theorem dX3_openLessShut_191 : decode cX3_openLessShut 191 = .ok (.ior, 1) := by decide +kernel
theorem dX3_openLessShut_192 : decode cX3_openLessShut 192 = .ok (.istore_n 3, 1) := by decide +kernel
theorem dX3_openLessShut_193 : decode cX3_openLessShut 193 = .ok (.iinc 4 1, 3) := by decide +kernel
theorem dX3_openLessShut_196 : decode cX3_openLessShut 196 = .ok (.goto (-189), 3) := by decide +kernel
theorem dX3_openLessShut_199 : decode cX3_openLessShut 199 = .ok (.iload_n 2, 1) := by decide +kernel
theorem dX3_openLessShut_200 : decode cX3_openLessShut 200 = .ok (.ireturn, 1) := by decide +kernel
theorem dX4_init_0 : decode cX4_init 0 = .ok (.aload_n 0, 1) := by decide +kernel
theorem dX4_init_1 : decode cX4_init 1 = .ok (.invokespecial 1, 3) := by decide +kernel
theorem dX4_init_4 : decode cX4_init 4 = .ok (.aload_n 0, 1) := by decide +kernel
theorem dX4_init_5 : decode cX4_init 5 = .ok (.bipush 100, 2) := by decide +kernel
theorem dX4_init_7 : decode cX4_init 7 = .ok (.newarray .int, 2) := by decide +kernel
theorem dX4_init_9 : decode cX4_init 9 = .ok (.putfield 9, 3) := by decide +kernel
theorem dX4_init_12 : decode cX4_init 12 = .ok (.aload_n 0, 1) := by decide +kernel
theorem dX4_init_13 : decode cX4_init 13 = .ok (.bipush 100, 2) := by decide +kernel
theorem dX4_init_15 : decode cX4_init 15 = .ok (.newarray .int, 2) := by decide +kernel
theorem dX4_init_17 : decode cX4_init 17 = .ok (.putfield 13, 3) := by decide +kernel
theorem dX4_init_20 : decode cX4_init 20 = .ok (.return_, 1) := by decide +kernel
theorem dX4_append_0 : decode cX4_append 0 = .ok (.aload_n 0, 1) := by decide +kernel
theorem dX4_append_1 : decode cX4_append 1 = .ok (.getfield 9, 3) := by decide +kernel
theorem dX4_append_4 : decode cX4_append 4 = .ok (.aload_n 0, 1) := by decide +kernel
theorem dX4_append_5 : decode cX4_append 5 = .ok (.getfield 16, 3) := by decide +kernel
theorem dX4_append_8 : decode cX4_append 8 = .ok (.iload_n 1, 1) := by decide +kernel
theorem dX4_append_9 : decode cX4_append 9 = .ok (.iastore, 1) := by decide +kernel
theorem dX4_append_10 : decode cX4_append 10 = .ok (.aload_n 0, 1) := by decide +kernel
theorem dX4_append_11 : decode cX4_append 11 = .ok (.dup, 1) := by decide +kernel
theorem dX4_append_12 : decode cX4_append 12 = .ok (.getfield 16, 3) := by decide +kernel
theorem dX4_append_15 : decode cX4_append 15 = .ok (.iconst 1, 1) := by decide +kernel
theorem dX4_append_16 : decode cX4_append 16 = .ok (.iadd, 1) := by decide +kernel
theorem dX4_append_17 : decode cX4_append 17 = .ok (.putfield 16, 3) := by decide +kernel
theorem dX4_append_20 : decode cX4_append 20 = .ok (.aload_n 0, 1) := by decide +kernel
theorem dX4_append_21 : decode cX4_append 21 = .ok (.getfield 16, 3) := by decide +kernel
theorem dX4_append_24 : decode cX4_append 24 = .ok (.ireturn, 1) := by decide +kernel
theorem dX4_parseText_0 : decode cX4_parseText 0 = .ok (.aload_n 0, 1) := by decide +kernel
theorem dX4_parseText_1 : decode cX4_parseText 1 = .ok (.iconst 0, 1) := by decide +kernel
theorem dX4_parseText_2 : decode cX4_parseText 2 = .ok (.putfield 20, 3) := by decide +kernel
theorem dX4_parseText_5 : decode cX4_parseText 5 = .ok (.aload_n 0, 1) := by decide +kernel
theorem dX4_parseText_6 : decode cX4_parseText 6 = .ok (.iconst 0, 1) := by decide +kernel
theorem dX4_parseText_7 : decode cX4_parseText 7 = .ok (.putfield 23, 3) := by decide +kernel
theorem dX4_parseText_10 : decode cX4_parseText 10 = .ok (.aload_n 0, 1) := by decide +kernel
theorem dX4_parseText_11 : decode cX4_parseText 11 = .ok (.iconst 0, 1) := by decide +kernel
theorem dX4_parseText_12 : decode cX4_parseText 12 = .ok (.putfield 26, 3) := by decide +kernel
theorem dX4_parseText_15 : decode cX4_parseText 15 = .ok (.iconst 1, 1) := by decide +kernel
theorem dX4_parseText_16 : decode cX4_parseText 16 = .ok (.istore_n 1, 1) := by decide +kernel
theorem dX4_parseText_17 : decode cX4_parseText 17 = .ok (.iload_n 1, 1) := by decide +kernel
theorem dX4_parseText_18 : decode cX4_parseText 18 = .ok (.bipush 10, 2) := by decide +kernel
theorem dX4_parseText_20 : decode cX4_parseText 20 = .ok (.if_icmp .gt 48, 3) := by decide +kernel
theorem dX4_parseText_23 : decode cX4_parseText 23 = .ok (.aload_n 0, 1) := by decide +kernel
theorem dX4_parseText_24 : decode cX4_parseText 24 = .ok (.invokevirtual 29, 3) := by decide +kernel
theorem dX4_parseText_27 : decode cX4_parseText 27 = .ok (.ifCond .ne 5, 3) := by decide +kernel
theorem dX4_parseText_30 : decode cX4_parseText 30 = .ok (.iconst 0, 1) := by decide +kernel
theorem dX4_parseText_31 : decode cX4_parseText 31 = .ok (.ireturn, 1) := by decide +kernel
theorem dX4_parseText_32 : decode cX4_parseText 32 = .ok (.aload_n 0, 1) := by decide +kernel
theorem dX4_parseText_33 : decode cX4_parseText 33 = .ok (.getfield 20, 3) := by decide +kernel
theorem dX4_parseText_36 : decode cX4_parseText 36 = .ok (.aload_n 0, 1) := by decide +kernel
theorem dX4_parseText_37 : decode cX4_parseText 37 = .ok (.getfield 16, 3) := by decide +kernel
theorem dX4_parseText_40 : decode cX4_parseText 40 = .ok (.if_icmp .ne 5, 3) := by decide +kernel
theorem dX4_parseText_43 : decode cX4_parseText 43 = .ok (.iconst 1, 1) := by decide +kernel
theorem dX4_parseText_44 : decode cX4_parseText 44 = .ok (.ireturn, 1) := by decide +kernel
theorem dX4_parseText_45 : decode cX4_parseText 45 = .ok (.iload_n 1, 1) := by decide +kernel
theorem dX4_parseText_46 : decode cX4_parseText 46 = .ok (.bipush 10, 2) := by decide +kernel
theorem dX4_parseText_48 : decode cX4_parseText 48 = .ok (.if_icmp .eq 12, 3) := by decide +kernel
theorem dX4_parseText_51 : decode cX4_parseText 51 = .ok (.aload_n 0, 1) := by decide +kernel
theorem dX4_parseText_52 : decode cX4_parseText 52 = .ok (.bipush 59, 2) := by decide +kernel
theorem dX4_parseText_54 : decode cX4_parseText 54 = .ok (.invokevirtual 33, 3) := by decide +kernel
theorem dX4_parseText_57 : decode cX4_parseText 57 = .ok (.ifCond .ne 5, 3) := by decide +kernel
theorem dX4_parseText_60 : decode cX4_parseText 60 = .ok (.iconst 0, 1) := by decide +kernel
theorem dX4_parseText_61 : decode cX4_parseText 61 = .ok (.ireturn, 1) := by decide +kernel
theorem dX4_parseText_62 : decode cX4_parseText 62 = .ok (.iinc 1 1, 3) := by decide +kernel
theorem dX4_parseText_65 : decode cX4_parseText 65 = .ok (.goto (-48), 3) := by decide +kernel
theorem dX4_parseText_68 : decode cX4_parseText 68 = .ok (.iconst 0, 1) := by decide +kernel
theorem dX4_parseText_69 : decode cX4_parseText 69 = .ok (.ireturn, 1) := by decide +kernel
theorem dX4_newNation_0 : decode cX4_newNation 0 = .ok (.aload_n 0, 1) := by decide +kernel
theorem dX4_newNation_1 : decode cX4_newNation 1 = .ok (.getfield 23, 3) := by decide +kernel
theorem dX4_newNation_4 : decode cX4_newNation 4 = .ok (.newarray .int, 2) := by decide +kernel
theorem dX4_newNation_6 : decode cX4_newNation 6 = .ok (.astore_n 1, 1) := by decide +kernel
theorem dX4_newNation_7 : decode cX4_newNation 7 = .ok (.aload_n 0, 1) := by decide +kernel
theorem dX4_newNation_8 : decode cX4_newNation 8 = .ok (.getfield 13, 3) := by decide +kernel
theorem dX4_newNation_11 : decode cX4_newNation 11 = .ok (.iconst 0, 1) := by decide +kernel
theorem dX4_newNation_12 : decode cX4_newNation 12 = .ok (.aload_n 1, 1) := by decide +kernel
theorem dX4_newNation_13 : decode cX4_newNation 13 = .ok (.iconst 0, 1) := by decide +kernel
theorem dX4_newNation_14 : decode cX4_newNation 14 = .ok (.aload_n 0, 1) := by decide +kernel
theorem dX4_newNation_15 : decode cX4_newNation 15 = .ok (.getfield 23, 3) := by decide +kernel
theorem dX4_newNation_18 : decode cX4_newNation 18 = .ok (.invokestatic 37, 3) := by decide +kernel
theorem dX4_newNation_21 : decode cX4_newNation 21 = .ok (.new 43, 3) := by decide +kernel
theorem dX4_newNation_24 : decode cX4_newNation 24 = .ok (.dup, 1) := by decide +kernel
theorem dX4_newNation_25 : decode cX4_newNation 25 = .ok (.aload_n 1, 1) := by decide +kernel
theorem dX4_newNation_26 : decode cX4_newNation 26 = .ok (.aload_n 0, 1) := by decide +kernel
theorem dX4_newNation_27 : decode cX4_newNation 27 = .ok (.getfield 26, 3) := by decide +kernel
theorem dX4_newNation_30 : decode cX4_newNation 30 = .ok (.invokespecial 45, 3) := by decide +kernel
theorem dX4_newNation_33 : decode cX4_newNation 33 = .ok (.areturn, 1) := by decide +kernel
theorem dX4_parseClause_0 : decode cX4_parseClause 0 = .ok (.aload_n 0, 1) := by decide +kernel
theorem dX4_parseClause_1 : decode cX4_parseClause 1 = .ok (.invokevirtual 48, 3) := by decide +kernel
theorem dX4_parseClause_4 : decode cX4_parseClause 4 = .ok (.bipush 102, 2) := by decide +kernel
theorem dX4_parseClause_6 : decode cX4_parseClause 6 = .ok (.if_icmp .ne 31, 3) := by decide +kernel
theorem dX4_parseClause_9 : decode cX4_parseClause 9 = .ok (.aload_n 0, 1) := by decide +kernel
theorem dX4_parseClause_10 : decode cX4_parseClause 10 = .ok (.ldc 52, 2) := by decide +kernel
theorem dX4_parseClause_12 : decode cX4_parseClause 12 = .ok (.invokevirtual 54, 3) := by decide +kernel
theorem dX4_parseClause_15 : decode cX4_parseClause 15 = .ok (.ifCond .eq 10, 3) := by decide +kernel
theorem dX4_parseClause_18 : decode cX4_parseClause 18 = .ok (.aload_n 0, 1) := by decide +kernel
theorem dX4_parseClause_19 : decode cX4_parseClause 19 = .ok (.invokevirtual 58, 3) := by decide +kernel
theorem dX4_parseClause_22 : decode cX4_parseClause 22 = .ok (.ifCond .ne 5, 3) := by decide +kernel
theorem dX4_parseClause_25 : decode cX4_parseClause 25 = .ok (.iconst 0, 1) := by decide +kernel
theorem dX4_parseClause_26 : decode cX4_parseClause 26 = .ok (.ireturn, 1) := by decide +kernel
theorem dX4_parseClause_27 : decode cX4_parseClause 27 = .ok (.aload_n 0, 1) := by decide +kernel
theorem dX4_parseClause_28 : decode cX4_parseClause 28 = .ok (.aload_n 0, 1) := by decide +kernel
theorem dX4_parseClause_29 : decode cX4_parseClause 29 = .ok (.getfield 61, 3) := by decide +kernel
theorem dX4_parseClause_32 : decode cX4_parseClause 32 = .ok (.putfield 26, 3) := by decide +kernel
theorem dX4_parseClause_35 : decode cX4_parseClause 35 = .ok (.iconst 1, 1) := by decide +kernel
theorem dX4_parseClause_36 : decode cX4_parseClause 36 = .ok (.ireturn, 1) := by decide +kernel
theorem dX4_parseClause_37 : decode cX4_parseClause 37 = .ok (.aload_n 0, 1) := by decide +kernel
theorem dX4_parseClause_38 : decode cX4_parseClause 38 = .ok (.invokevirtual 48, 3) := by decide +kernel
theorem dX4_parseClause_41 : decode cX4_parseClause 41 = .ok (.bipush 111, 2) := by decide +kernel
theorem dX4_parseClause_43 : decode cX4_parseClause 43 = .ok (.if_icmp .ne 7, 3) := by decide +kernel
theorem dX4_parseClause_46 : decode cX4_parseClause 46 = .ok (.iconst 1, 1) := by decide +kernel
theorem dX4_parseClause_47 : decode cX4_parseClause 47 = .ok (.goto 4, 3) := by decide +kernel
theorem dX4_parseClause_50 : decode cX4_parseClause 50 = .ok (.iconst 0, 1) := by decide +kernel
theorem dX4_parseClause_51 : decode cX4_parseClause 51 = .ok (.istore_n 1, 1) := by decide +kernel
theorem dX4_parseClause_52 : decode cX4_parseClause 52 = .ok (.aload_n 0, 1) := by decide +kernel
theorem dX4_parseClause_53 : decode cX4_parseClause 53 = .ok (.iload_n 1, 1) := by decide +kernel
theorem dX4_parseClause_54 : decode cX4_parseClause 54 = .ok (.ifCond .eq 8, 3) := by decide +kernel
theorem dX4_parseClause_57 : decode cX4_parseClause 57 = .ok (.ldc 64, 2) := by decide +kernel
theorem dX4_parseClause_59 : decode cX4_parseClause 59 = .ok (.goto 5, 3) := by decide +kernel
theorem dX4_parseClause_62 : decode cX4_parseClause 62 = .ok (.ldc 66, 2) := by decide +kernel
theorem dX4_parseClause_64 : decode cX4_parseClause 64 = .ok (.invokevirtual 54, 3) := by decide +kernel
theorem dX4_parseClause_67 : decode cX4_parseClause 67 = .ok (.ifCond .eq 10, 3) := by decide +kernel
theorem dX4_parseClause_70 : decode cX4_parseClause 70 = .ok (.aload_n 0, 1) := by decide +kernel
theorem dX4_parseClause_71 : decode cX4_parseClause 71 = .ok (.invokevirtual 58, 3) := by decide +kernel
theorem dX4_parseClause_74 : decode cX4_parseClause 74 = .ok (.ifCond .ne 5, 3) := by decide +kernel
theorem dX4_parseClause_77 : decode cX4_parseClause 77 = .ok (.iconst 0, 1) := by decide +kernel
theorem dX4_parseClause_78 : decode cX4_parseClause 78 = .ok (.ireturn, 1) := by decide +kernel
theorem dX4_parseClause_79 : decode cX4_parseClause 79 = .ok (.iload_n 1, 1) := by decide +kernel
theorem dX4_parseClause_80 : decode cX4_parseClause 80 = .ok (.ifCond .eq 10, 3) := by decide +kernel
theorem dX4_parseClause_83 : decode cX4_parseClause 83 = .ok (.aload_n 0, 1) := by decide +kernel
theorem dX4_parseClause_84 : decode cX4_parseClause 84 = .ok (.getfield 61, 3) := by decide +kernel
theorem dX4_parseClause_87 : decode cX4_parseClause 87 = .ok (.goto 8, 3) := by decide +kernel
theorem dX4_parseClause_90 : decode cX4_parseClause 90 = .ok (.aload_n 0, 1) := by decide +kernel
theorem dX4_parseClause_91 : decode cX4_parseClause 91 = .ok (.getfield 61, 3) := by decide +kernel
theorem dX4_parseClause_94 : decode cX4_parseClause 94 = .ok (.ineg, 1) := by decide +kernel
theorem dX4_parseClause_95 : decode cX4_parseClause 95 = .ok (.istore_n 2, 1) := by decide +kernel
theorem dX4_parseClause_96 : decode cX4_parseClause 96 = .ok (.aload_n 0, 1) := by decide +kernel
theorem dX4_parseClause_97 : decode cX4_parseClause 97 = .ok (.bipush 32, 2) := by decide +kernel
theorem dX4_parseClause_99 : decode cX4_parseClause 99 = .ok (.invokevirtual 33, 3) := by decide +kernel
theorem dX4_parseClause_102 : decode cX4_parseClause 102 = .ok (.ifCond .eq 11, 3) := by decide +kernel
theorem dX4_parseClause_105 : decode cX4_parseClause 105 = .ok (.aload_n 0, 1) := by decide +kernel
theorem dX4_parseClause_106 : decode cX4_parseClause 106 = .ok (.iconst 0, 1) := by decide +kernel
theorem dX4_parseClause_107 : decode cX4_parseClause 107 = .ok (.invokevirtual 68, 3) := by decide +kernel
theorem dX4_parseClause_110 : decode cX4_parseClause 110 = .ok (.ifCond .ne 5, 3) := by decide +kernel
theorem dX4_parseClause_113 : decode cX4_parseClause 113 = .ok (.iconst 0, 1) := by decide +kernel
theorem dX4_parseClause_114 : decode cX4_parseClause 114 = .ok (.ireturn, 1) := by decide +kernel
theorem dX4_parseClause_115 : decode cX4_parseClause 115 = .ok (.aload_n 0, 1) := by decide +kernel
theorem dX4_parseClause_116 : decode cX4_parseClause 116 = .ok (.iconst 3, 1) := by decide +kernel
theorem dX4_parseClause_117 : decode cX4_parseClause 117 = .ok (.iload_n 2, 1) := by decide +kernel
theorem dX4_parseClause_118 : decode cX4_parseClause 118 = .ok (.invokevirtual 72, 3) := by decide +kernel
theorem dX4_parseClause_121 : decode cX4_parseClause 121 = .ok (.iconst 1, 1) := by decide +kernel
theorem dX4_parseClause_122 : decode cX4_parseClause 122 = .ok (.ireturn, 1) := by decide +kernel
theorem dX4_parseEither_0 : decode cX4_parseEither 0 = .ok (.iconst 0, 1) := by decide +kernel
theorem dX4_parseEither_1 : decode cX4_parseEither 1 = .ok (.istore_n 2, 1) := by decide +kernel
theorem dX4_parseEither_2 : decode cX4_parseEither 2 = .ok (.iconst 0, 1) := by decide +kernel
theorem dX4_parseEither_3 : decode cX4_parseEither 3 = .ok (.istore_n 3, 1) := by decide +kernel
theorem dX4_parseEither_4 : decode cX4_parseEither 4 = .ok (.iconst 0, 1) := by decide +kernel
theorem dX4_parseEither_5 : decode cX4_parseEither 5 = .ok (.istore 4, 2) := by decide +kernel
theorem dX4_parseEither_7 : decode cX4_parseEither 7 = .ok (.iload 4, 2) := by decide +kernel
theorem dX4_parseEither_9 : decode cX4_parseEither 9 = .ok (.bipush 100, 2) := by decide +kernel
theorem dX4_parseEither_11 : decode cX4_parseEither 11 = .ok (.if_icmp .ge 66, 3) := by decide +kernel
theorem dX4_parseEither_14 : decode cX4_parseEither 14 = .ok (.aload_n 0, 1) := by decide +kernel
theorem dX4_parseEither_15 : decode cX4_parseEither 15 = .ok (.iload_n 1, 1) := by decide +kernel
theorem dX4_parseEither_16 : decode cX4_parseEither 16 = .ok (.invokevirtual 76, 3) := by decide +kernel
theorem dX4_parseEither_19 : decode cX4_parseEither 19 = .ok (.ifCond .ne 5, 3) := by decide +kernel
theorem dX4_parseEither_22 : decode cX4_parseEither 22 = .ok (.iconst 0, 1) := by decide +kernel
theorem dX4_parseEither_23 : decode cX4_parseEither 23 = .ok (.ireturn, 1) := by decide +kernel
theorem dX4_parseEither_24 : decode cX4_parseEither 24 = .ok (.iload_n 3, 1) := by decide +kernel
theorem dX4_parseEither_25 : decode cX4_parseEither 25 = .ok (.ifCond .eq 9, 3) := by decide +kernel
theorem dX4_parseEither_28 : decode cX4_parseEither 28 = .ok (.aload_n 0, 1) := by decide +kernel
theorem dX4_parseEither_29 : decode cX4_parseEither 29 = .ok (.iconst 1, 1) := by decide +kernel
theorem dX4_parseEither_30 : decode cX4_parseEither 30 = .ok (.iconst 0, 1) := by decide +kernel
theorem dX4_parseEither_31 : decode cX4_parseEither 31 = .ok (.invokevirtual 72, 3) := by decide +kernel
theorem dX4_parseEither_34 : decode cX4_parseEither 34 = .ok (.aload_n 0, 1) := by decide +kernel
theorem dX4_parseEither_35 : decode cX4_parseEither 35 = .ok (.bipush 38, 2) := by decide +kernel
theorem dX4_parseEither_37 : decode cX4_parseEither 37 = .ok (.invokevirtual 33, 3) := by decide +kernel
theorem dX4_parseEither_40 : decode cX4_parseEither 40 = .ok (.istore_n 3, 1) := by decide +kernel
theorem dX4_parseEither_41 : decode cX4_parseEither 41 = .ok (.iload_n 3, 1) := by decide +kernel
theorem dX4_parseEither_42 : decode cX4_parseEither 42 = .ok (.ifCond .eq 6, 3) := by decide +kernel
theorem dX4_parseEither_45 : decode cX4_parseEither 45 = .ok (.goto 26, 3) := by decide +kernel
theorem dX4_parseEither_48 : decode cX4_parseEither 48 = .ok (.iload_n 2, 1) := by decide +kernel
theorem dX4_parseEither_49 : decode cX4_parseEither 49 = .ok (.ifCond .eq 9, 3) := by decide +kernel
theorem dX4_parseEither_52 : decode cX4_parseEither 52 = .ok (.aload_n 0, 1) := by decide +kernel
theorem dX4_parseEither_53 : decode cX4_parseEither 53 = .ok (.iconst 2, 1) := by decide +kernel
theorem dX4_parseEither_54 : decode cX4_parseEither 54 = .ok (.iconst 0, 1) := by decide +kernel
theorem dX4_parseEither_55 : decode cX4_parseEither 55 = .ok (.invokevirtual 72, 3) := by decide +kernel
theorem dX4_parseEither_58 : decode cX4_parseEither 58 = .ok (.aload_n 0, 1) := by decide +kernel
theorem dX4_parseEither_59 : decode cX4_parseEither 59 = .ok (.bipush 124, 2) := by decide +kernel
theorem dX4_parseEither_61 : decode cX4_parseEither 61 = .ok (.invokevirtual 33, 3) := by decide +kernel
theorem dX4_parseEither_64 : decode cX4_parseEither 64 = .ok (.istore_n 2, 1) := by decide +kernel
theorem dX4_parseEither_65 : decode cX4_parseEither 65 = .ok (.iload_n 2, 1) := by decide +kernel
theorem dX4_parseEither_66 : decode cX4_parseEither 66 = .ok (.ifCond .ne 5, 3) := by decide +kernel
theorem dX4_parseEither_69 : decode cX4_parseEither 69 = .ok (.iconst 1, 1) := by decide +kernel
theorem dX4_parseEither_70 : decode cX4_parseEither 70 = .ok (.ireturn, 1) := by decide +kernel
theorem dX4_parseEither_71 : decode cX4_parseEither 71 = .ok (.iinc 4 1, 3) := by decide +kernel
theorem dX4_parseEither_74 : decode cX4_parseEither 74 = .ok (.goto (-67), 3) := by decide +kernel
theorem dX4_parseEither_77 : decode cX4_parseEither 77 = .ok (.iconst 0, 1) := by decide +kernel
theorem dX4_parseEither_78 : decode cX4_parseEither 78 = .ok (.ireturn, 1) := by decide +kernel
theorem dX4_parseSingle_0 : decode cX4_parseSingle 0 = .ok (.aload_n 0, 1) := by decide +kernel
theorem dX4_parseSingle_1 : decode cX4_parseSingle 1 = .ok (.invokevirtual 48, 3) := by decide +kernel
theorem dX4_parseSingle_4 : decode cX4_parseSingle 4 = .ok (.istore_n 2, 1) := by decide +kernel
theorem dX4_parseSingle_5 : decode cX4_parseSingle 5 = .ok (.iload_n 2, 1) := by decide +kernel
theorem dX4_parseSingle_6 : decode cX4_parseSingle 6 = .ok (.bipush 33, 2) := by decide +kernel
theorem dX4_parseSingle_8 : decode cX4_parseSingle 8 = .ok (.if_icmp .eq 14, 3) := by decide +kernel
theorem dX4_parseSingle_11 : decode cX4_parseSingle 11 = .ok (.iload_n 2, 1) := by decide +kernel
theorem dX4_parseSingle_12 : decode cX4_parseSingle 12 = .ok (.bipush 40, 2) := by decide +kernel
theorem dX4_parseSingle_14 : decode cX4_parseSingle 14 = .ok (.if_icmp .eq 8, 3) := by decide +kernel
theorem dX4_parseSingle_17 : decode cX4_parseSingle 17 = .ok (.aload_n 0, 1) := by decide +kernel
theorem dX4_parseSingle_18 : decode cX4_parseSingle 18 = .ok (.invokevirtual 79, 3) := by decide +kernel
theorem dX4_parseSingle_21 : decode cX4_parseSingle 21 = .ok (.ireturn, 1) := by decide +kernel
theorem dX4_parseSingle_22 : decode cX4_parseSingle 22 = .ok (.iload_n 1, 1) := by decide +kernel
theorem dX4_parseSingle_23 : decode cX4_parseSingle 23 = .ok (.iconst 4, 1) := by decide +kernel
theorem dX4_parseSingle_24 : decode cX4_parseSingle 24 = .ok (.if_icmp .lt 5, 3) := by decide +kernel
theorem dX4_parseSingle_27 : decode cX4_parseSingle 27 = .ok (.iconst 0, 1) := by decide +kernel
theorem dX4_parseSingle_28 : decode cX4_parseSingle 28 = .ok (.ireturn, 1) := by decide +kernel
theorem dX4_parseSingle_29 : decode cX4_parseSingle 29 = .ok (.aload_n 0, 1) := by decide +kernel
theorem dX4_parseSingle_30 : decode cX4_parseSingle 30 = .ok (.dup, 1) := by decide +kernel
theorem dX4_parseSingle_31 : decode cX4_parseSingle 31 = .ok (.getfield 20, 3) := by decide +kernel
theorem dX4_parseSingle_34 : decode cX4_parseSingle 34 = .ok (.iconst 1, 1) := by decide +kernel
theorem dX4_parseSingle_35 : decode cX4_parseSingle 35 = .ok (.iadd, 1) := by decide +kernel
theorem dX4_parseSingle_36 : decode cX4_parseSingle 36 = .ok (.putfield 20, 3) := by decide +kernel
theorem dX4_parseSingle_39 : decode cX4_parseSingle 39 = .ok (.iload_n 2, 1) := by decide +kernel
theorem dX4_parseSingle_40 : decode cX4_parseSingle 40 = .ok (.bipush 40, 2) := by decide +kernel
theorem dX4_parseSingle_42 : decode cX4_parseSingle 42 = .ok (.if_icmp .ne 28, 3) := by decide +kernel
theorem dX4_parseSingle_45 : decode cX4_parseSingle 45 = .ok (.aload_n 0, 1) := by decide +kernel
theorem dX4_parseSingle_46 : decode cX4_parseSingle 46 = .ok (.iload_n 1, 1) := by decide +kernel
theorem dX4_parseSingle_47 : decode cX4_parseSingle 47 = .ok (.iconst 1, 1) := by decide +kernel
theorem dX4_parseSingle_48 : decode cX4_parseSingle 48 = .ok (.iadd, 1) := by decide +kernel
theorem dX4_parseSingle_49 : decode cX4_parseSingle 49 = .ok (.invokevirtual 68, 3) := by decide +kernel
theorem dX4_parseSingle_52 : decode cX4_parseSingle 52 = .ok (.ifCond .eq 16, 3) := by decide +kernel
theorem dX4_parseSingle_55 : decode cX4_parseSingle 55 = .ok (.aload_n 0, 1) := by decide +kernel
theorem dX4_parseSingle_56 : decode cX4_parseSingle 56 = .ok (.bipush 41, 2) := by decide +kernel
theorem dX4_parseSingle_58 : decode cX4_parseSingle 58 = .ok (.invokevirtual 33, 3) := by decide +kernel
theorem dX4_parseSingle_61 : decode cX4_parseSingle 61 = .ok (.ifCond .eq 7, 3) := by decide +kernel
theorem dX4_parseSingle_64 : decode cX4_parseSingle 64 = .ok (.iconst 1, 1) := by decide +kernel
theorem dX4_parseSingle_65 : decode cX4_parseSingle 65 = .ok (.goto 4, 3) := by decide +kernel
theorem dX4_parseSingle_68 : decode cX4_parseSingle 68 = .ok (.iconst 0, 1) := by decide +kernel
theorem dX4_parseSingle_69 : decode cX4_parseSingle 69 = .ok (.ireturn, 1) := by decide +kernel
theorem dX4_parseSingle_70 : decode cX4_parseSingle 70 = .ok (.aload_n 0, 1) := by decide +kernel
theorem dX4_parseSingle_71 : decode cX4_parseSingle 71 = .ok (.iload_n 1, 1) := by decide +kernel
theorem dX4_parseSingle_72 : decode cX4_parseSingle 72 = .ok (.iconst 1, 1) := by decide +kernel
theorem dX4_parseSingle_73 : decode cX4_parseSingle 73 = .ok (.iadd, 1) := by decide +kernel
theorem dX4_parseSingle_74 : decode cX4_parseSingle 74 = .ok (.invokevirtual 76, 3) := by decide +kernel
theorem dX4_parseSingle_77 : decode cX4_parseSingle 77 = .ok (.ifCond .ne 5, 3) := by decide +kernel
theorem dX4_parseSingle_80 : decode cX4_parseSingle 80 = .ok (.iconst 0, 1) := by decide +kernel
theorem dX4_parseSingle_81 : decode cX4_parseSingle 81 = .ok (.ireturn, 1) := by decide +kernel
theorem dX4_parseSingle_82 : decode cX4_parseSingle 82 = .ok (.aload_n 0, 1) := by decide +kernel
theorem dX4_parseSingle_83 : decode cX4_parseSingle 83 = .ok (.iconst 0, 1) := by decide +kernel
theorem dX4_parseSingle_84 : decode cX4_parseSingle 84 = .ok (.iconst 0, 1) := by decide +kernel
theorem dX4_parseSingle_85 : decode cX4_parseSingle 85 = .ok (.invokevirtual 72, 3) := by decide +kernel
theorem dX4_parseSingle_88 : decode cX4_parseSingle 88 = .ok (.iconst 1, 1) := by decide +kernel
theorem dX4_parseSingle_89 : decode cX4_parseSingle 89 = .ok (.ireturn, 1) := by decide +kernel
theorem dX4_parseTest_0 : decode cX4_parseTest 0 = .ok (.aload_n 0, 1) := by decide +kernel
theorem dX4_parseTest_1 : decode cX4_parseTest 1 = .ok (.ldc 82, 2) := by decide +kernel
theorem dX4_parseTest_3 : decode cX4_parseTest 3 = .ok (.invokevirtual 84, 3) := by decide +kernel
theorem dX4_parseTest_6 : decode cX4_parseTest 6 = .ok (.istore_n 1, 1) := by decide +kernel
theorem dX4_parseTest_7 : decode cX4_parseTest 7 = .ok (.iload_n 1, 1) := by decide +kernel
theorem dX4_parseTest_8 : decode cX4_parseTest 8 = .ok (.ifCond .ge 5, 3) := by decide +kernel
theorem dX4_parseTest_11 : decode cX4_parseTest 11 = .ok (.iconst 0, 1) := by decide +kernel
theorem dX4_parseTest_12 : decode cX4_parseTest 12 = .ok (.ireturn, 1) := by decide +kernel
theorem dX4_parseTest_13 : decode cX4_parseTest 13 = .ok (.aload_n 0, 1) := by decide +kernel
theorem dX4_parseTest_14 : decode cX4_parseTest 14 = .ok (.dup, 1) := by decide +kernel
theorem dX4_parseTest_15 : decode cX4_parseTest 15 = .ok (.getfield 20, 3) := by decide +kernel
theorem dX4_parseTest_18 : decode cX4_parseTest 18 = .ok (.iconst 1, 1) := by decide +kernel
theorem dX4_parseTest_19 : decode cX4_parseTest 19 = .ok (.iadd, 1) := by decide +kernel
theorem dX4_parseTest_20 : decode cX4_parseTest 20 = .ok (.putfield 20, 3) := by decide +kernel
theorem dX4_parseTest_23 : decode cX4_parseTest 23 = .ok (.aload_n 0, 1) := by decide +kernel
theorem dX4_parseTest_24 : decode cX4_parseTest 24 = .ok (.ldc 88, 2) := by decide +kernel
theorem dX4_parseTest_26 : decode cX4_parseTest 26 = .ok (.invokevirtual 84, 3) := by decide +kernel
theorem dX4_parseTest_29 : decode cX4_parseTest 29 = .ok (.istore_n 2, 1) := by decide +kernel
theorem dX4_parseTest_30 : decode cX4_parseTest 30 = .ok (.iload_n 2, 1) := by decide +kernel
theorem dX4_parseTest_31 : decode cX4_parseTest 31 = .ok (.ifCond .ge 5, 3) := by decide +kernel
theorem dX4_parseTest_34 : decode cX4_parseTest 34 = .ok (.iconst 0, 1) := by decide +kernel
theorem dX4_parseTest_35 : decode cX4_parseTest 35 = .ok (.ireturn, 1) := by decide +kernel
theorem dX4_parseTest_36 : decode cX4_parseTest 36 = .ok (.aload_n 0, 1) := by decide +kernel
theorem dX4_parseTest_37 : decode cX4_parseTest 37 = .ok (.dup, 1) := by decide +kernel
theorem dX4_parseTest_38 : decode cX4_parseTest 38 = .ok (.getfield 20, 3) := by decide +kernel
theorem dX4_parseTest_41 : decode cX4_parseTest 41 = .ok (.iconst 1, 1) := by decide +kernel
theorem dX4_parseTest_42 : decode cX4_parseTest 42 = .ok (.iadd, 1) := by decide +kernel
theorem dX4_parseTest_43 : decode cX4_parseTest 43 = .ok (.putfield 20, 3) := by decide +kernel
theorem dX4_parseTest_46 : decode cX4_parseTest 46 = .ok (.aload_n 0, 1) := by decide +kernel
theorem dX4_parseTest_47 : decode cX4_parseTest 47 = .ok (.invokevirtual 58, 3) := by decide +kernel
theorem dX4_parseTest_50 : decode cX4_parseTest 50 = .ok (.ifCond .ne 5, 3) := by decide +kernel
theorem dX4_parseTest_53 : decode cX4_parseTest 53 = .ok (.iconst 0, 1) := by decide +kernel
theorem dX4_parseTest_54 : decode cX4_parseTest 54 = .ok (.ireturn, 1) := by decide +kernel
theorem dX4_parseTest_55 : decode cX4_parseTest 55 = .ok (.aload_n 0, 1) := by decide +kernel
theorem dX4_parseTest_56 : decode cX4_parseTest 56 = .ok (.iconst 4, 1) := by decide +kernel
theorem dX4_parseTest_57 : decode cX4_parseTest 57 = .ok (.iload_n 2, 1) := by decide +kernel
theorem dX4_parseTest_58 : decode cX4_parseTest 58 = .ok (.iadd, 1) := by decide +kernel
theorem dX4_parseTest_59 : decode cX4_parseTest 59 = .ok (.aload_n 0, 1) := by decide +kernel
theorem dX4_parseTest_60 : decode cX4_parseTest 60 = .ok (.getfield 61, 3) := by decide +kernel
theorem dX4_parseTest_63 : decode cX4_parseTest 63 = .ok (.iconst 3, 1) := by decide +kernel
theorem dX4_parseTest_64 : decode cX4_parseTest 64 = .ok (.ishl, 1) := by decide +kernel
theorem dX4_parseTest_65 : decode cX4_parseTest 65 = .ok (.iload_n 1, 1) := by decide +kernel
theorem dX4_parseTest_66 : decode cX4_parseTest 66 = .ok (.ior, 1) := by decide +kernel
theorem dX4_parseTest_67 : decode cX4_parseTest 67 = .ok (.invokevirtual 72, 3) := by decide +kernel
theorem dX4_parseTest_70 : decode cX4_parseTest 70 = .ok (.iconst 1, 1) := by decide +kernel
theorem dX4_parseTest_71 : decode cX4_parseTest 71 = .ok (.ireturn, 1) := by decide +kernel
theorem dX4_parseNumber_0 : decode cX4_parseNumber 0 = .ok (.aload_n 0, 1) := by decide +kernel
theorem dX4_parseNumber_1 : decode cX4_parseNumber 1 = .ok (.invokevirtual 48, 3) := by decide +kernel
theorem dX4_parseNumber_4 : decode cX4_parseNumber 4 = .ok (.invokestatic 90, 3) := by decide +kernel
theorem dX4_parseNumber_7 : decode cX4_parseNumber 7 = .ok (.ifCond .ne 5, 3) := by decide +kernel
theorem dX4_parseNumber_10 : decode cX4_parseNumber 10 = .ok (.iconst 0, 1) := by decide +kernel
theorem dX4_parseNumber_11 : decode cX4_parseNumber 11 = .ok (.ireturn, 1) := by decide +kernel
theorem dX4_parseNumber_12 : decode cX4_parseNumber 12 = .ok (.aload_n 0, 1) := by decide +kernel
theorem dX4_parseNumber_13 : decode cX4_parseNumber 13 = .ok (.aload_n 0, 1) := by decide +kernel
theorem dX4_parseNumber_14 : decode cX4_parseNumber 14 = .ok (.invokevirtual 48, 3) := by decide +kernel
theorem dX4_parseNumber_17 : decode cX4_parseNumber 17 = .ok (.bipush 48, 2) := by decide +kernel
theorem dX4_parseNumber_19 : decode cX4_parseNumber 19 = .ok (.isub, 1) := by decide +kernel
theorem dX4_parseNumber_20 : decode cX4_parseNumber 20 = .ok (.putfield 61, 3) := by decide +kernel
theorem dX4_parseNumber_23 : decode cX4_parseNumber 23 = .ok (.aload_n 0, 1) := by decide +kernel
theorem dX4_parseNumber_24 : decode cX4_parseNumber 24 = .ok (.dup, 1) := by decide +kernel
theorem dX4_parseNumber_25 : decode cX4_parseNumber 25 = .ok (.getfield 20, 3) := by decide +kernel
theorem dX4_parseNumber_28 : decode cX4_parseNumber 28 = .ok (.iconst 1, 1) := by decide +kernel
theorem dX4_parseNumber_29 : decode cX4_parseNumber 29 = .ok (.iadd, 1) := by decide +kernel
theorem dX4_parseNumber_30 : decode cX4_parseNumber 30 = .ok (.putfield 20, 3) := by decide +kernel
theorem dX4_parseNumber_33 : decode cX4_parseNumber 33 = .ok (.aload_n 0, 1) := by decide +kernel
theorem dX4_parseNumber_34 : decode cX4_parseNumber 34 = .ok (.invokevirtual 48, 3) := by decide +kernel
theorem dX4_parseNumber_37 : decode cX4_parseNumber 37 = .ok (.invokestatic 90, 3) := by decide +kernel
theorem dX4_parseNumber_40 : decode cX4_parseNumber 40 = .ok (.ifCond .eq 32, 3) := by decide +kernel
theorem dX4_parseNumber_43 : decode cX4_parseNumber 43 = .ok (.aload_n 0, 1) := by decide +kernel
theorem dX4_parseNumber_44 : decode cX4_parseNumber 44 = .ok (.bipush 10, 2) := by decide +kernel
theorem dX4_parseNumber_46 : decode cX4_parseNumber 46 = .ok (.aload_n 0, 1) := by decide +kernel
theorem dX4_parseNumber_47 : decode cX4_parseNumber 47 = .ok (.getfield 61, 3) := by decide +kernel
theorem dX4_parseNumber_50 : decode cX4_parseNumber 50 = .ok (.imul, 1) := by decide +kernel
theorem dX4_parseNumber_51 : decode cX4_parseNumber 51 = .ok (.aload_n 0, 1) := by decide +kernel
theorem dX4_parseNumber_52 : decode cX4_parseNumber 52 = .ok (.invokevirtual 48, 3) := by decide +kernel
theorem dX4_parseNumber_55 : decode cX4_parseNumber 55 = .ok (.iadd, 1) := by decide +kernel
theorem dX4_parseNumber_56 : decode cX4_parseNumber 56 = .ok (.bipush 48, 2) := by decide +kernel
theorem dX4_parseNumber_58 : decode cX4_parseNumber 58 = .ok (.isub, 1) := by decide +kernel
theorem dX4_parseNumber_59 : decode cX4_parseNumber 59 = .ok (.putfield 61, 3) := by decide +kernel
theorem dX4_parseNumber_62 : decode cX4_parseNumber 62 = .ok (.aload_n 0, 1) := by decide +kernel
theorem dX4_parseNumber_63 : decode cX4_parseNumber 63 = .ok (.dup, 1) := by decide +kernel
theorem dX4_parseNumber_64 : decode cX4_parseNumber 64 = .ok (.getfield 20, 3) := by decide +kernel
theorem dX4_parseNumber_67 : decode cX4_parseNumber 67 = .ok (.iconst 1, 1) := by decide +kernel
theorem dX4_parseNumber_68 : decode cX4_parseNumber 68 = .ok (.iadd, 1) := by decide +kernel
theorem dX4_parseNumber_69 : decode cX4_parseNumber 69 = .ok (.putfield 20, 3) := by decide +kernel
theorem dX4_parseNumber_72 : decode cX4_parseNumber 72 = .ok (.iconst 1, 1) := by decide +kernel
theorem dX4_parseNumber_73 : decode cX4_parseNumber 73 = .ok (.ireturn, 1) := by decide +kernel
theorem dX4_isDigit_0 : decode cX4_isDigit 0 = .ok (.iload_n 0, 1) := by decide +kernel
theorem dX4_isDigit_1 : decode cX4_isDigit 1 = .ok (.bipush 48, 2) := by decide +kernel
theorem dX4_isDigit_3 : decode cX4_isDigit 3 = .ok (.if_icmp .lt 13, 3) := by decide +kernel
theorem dX4_isDigit_6 : decode cX4_isDigit 6 = .ok (.iload_n 0, 1) := by decide +kernel
theorem dX4_isDigit_7 : decode cX4_isDigit 7 = .ok (.bipush 57, 2) := by decide +kernel
theorem dX4_isDigit_9 : decode cX4_isDigit 9 = .ok (.if_icmp .gt 7, 3) := by decide +kernel
theorem dX4_isDigit_12 : decode cX4_isDigit 12 = .ok (.iconst 1, 1) := by decide +kernel
theorem dX4_isDigit_13 : decode cX4_isDigit 13 = .ok (.goto 4, 3) := by decide +kernel
theorem dX4_isDigit_16 : decode cX4_isDigit 16 = .ok (.iconst 0, 1) := by decide +kernel
theorem dX4_isDigit_17 : decode cX4_isDigit 17 = .ok (.ireturn, 1) := by decide +kernel
theorem dX4_indexOfSign_0 : decode cX4_indexOfSign 0 = .ok (.aload_n 0, 1) := by decide +kernel
theorem dX4_indexOfSign_1 : decode cX4_indexOfSign 1 = .ok (.invokevirtual 48, 3) := by decide +kernel
theorem dX4_indexOfSign_4 : decode cX4_indexOfSign 4 = .ok (.istore_n 2, 1) := by decide +kernel
theorem dX4_indexOfSign_5 : decode cX4_indexOfSign 5 = .ok (.iconst 0, 1) := by decide +kernel
theorem dX4_indexOfSign_6 : decode cX4_indexOfSign 6 = .ok (.istore_n 3, 1) := by decide +kernel
theorem dX4_indexOfSign_7 : decode cX4_indexOfSign 7 = .ok (.iload_n 3, 1) := by decide +kernel
theorem dX4_indexOfSign_8 : decode cX4_indexOfSign 8 = .ok (.aload_n 1, 1) := by decide +kernel
theorem dX4_indexOfSign_9 : decode cX4_indexOfSign 9 = .ok (.invokevirtual 93, 3) := by decide +kernel
theorem dX4_indexOfSign_12 : decode cX4_indexOfSign 12 = .ok (.if_icmp .ge 20, 3) := by decide +kernel
theorem dX4_indexOfSign_15 : decode cX4_indexOfSign 15 = .ok (.aload_n 1, 1) := by decide +kernel
theorem dX4_indexOfSign_16 : decode cX4_indexOfSign 16 = .ok (.iload_n 3, 1) := by decide +kernel
theorem dX4_indexOfSign_17 : decode cX4_indexOfSign 17 = .ok (.invokevirtual 97, 3) := by decide +kernel
theorem dX4_indexOfSign_20 : decode cX4_indexOfSign 20 = .ok (.iload_n 2, 1) := by decide +kernel
theorem dX4_indexOfSign_21 : decode cX4_indexOfSign 21 = .ok (.if_icmp .ne 5, 3) := by decide +kernel
theorem dX4_indexOfSign_24 : decode cX4_indexOfSign 24 = .ok (.iload_n 3, 1) := by decide +kernel
theorem dX4_indexOfSign_25 : decode cX4_indexOfSign 25 = .ok (.ireturn, 1) := by decide +kernel
theorem dX4_indexOfSign_26 : decode cX4_indexOfSign 26 = .ok (.iinc 3 1, 3) := by decide +kernel
theorem dX4_indexOfSign_29 : decode cX4_indexOfSign 29 = .ok (.goto (-22), 3) := by decide +kernel
theorem dX4_indexOfSign_32 : decode cX4_indexOfSign 32 = .ok (.iconst (-1), 1) := by decide +kernel
theorem dX4_indexOfSign_33 : decode cX4_indexOfSign 33 = .ok (.ireturn, 1) := by decide +kernel
theorem dX4_takeWord_0 : decode cX4_takeWord 0 = .ok (.iconst 0, 1) := by decide +kernel
theorem dX4_takeWord_1 : decode cX4_takeWord 1 = .ok (.istore_n 2, 1) := by decide +kernel
theorem dX4_takeWord_2 : decode cX4_takeWord 2 = .ok (.iload_n 2, 1) := by decide +kernel
theorem dX4_takeWord_3 : decode cX4_takeWord 3 = .ok (.aload_n 1, 1) := by decide +kernel
theorem dX4_takeWord_4 : decode cX4_takeWord 4 = .ok (.invokevirtual 93, 3) := by decide +kernel
theorem dX4_takeWord_7 : decode cX4_takeWord 7 = .ok (.if_icmp .ge 23, 3) := by decide +kernel
theorem dX4_takeWord_10 : decode cX4_takeWord 10 = .ok (.aload_n 0, 1) := by decide +kernel
theorem dX4_takeWord_11 : decode cX4_takeWord 11 = .ok (.aload_n 1, 1) := by decide +kernel
theorem dX4_takeWord_12 : decode cX4_takeWord 12 = .ok (.iload_n 2, 1) := by decide +kernel
theorem dX4_takeWord_13 : decode cX4_takeWord 13 = .ok (.invokevirtual 97, 3) := by decide +kernel
theorem dX4_takeWord_16 : decode cX4_takeWord 16 = .ok (.invokevirtual 33, 3) := by decide +kernel
theorem dX4_takeWord_19 : decode cX4_takeWord 19 = .ok (.ifCond .ne 5, 3) := by decide +kernel
theorem dX4_takeWord_22 : decode cX4_takeWord 22 = .ok (.iconst 0, 1) := by decide +kernel
theorem dX4_takeWord_23 : decode cX4_takeWord 23 = .ok (.ireturn, 1) := by decide +kernel
theorem dX4_takeWord_24 : decode cX4_takeWord 24 = .ok (.iinc 2 1, 3) := by decide +kernel
theorem dX4_takeWord_27 : decode cX4_takeWord 27 = .ok (.goto (-25), 3) := by decide +kernel
theorem dX4_takeWord_30 : decode cX4_takeWord 30 = .ok (.iconst 1, 1) := by decide +kernel
theorem dX4_takeWord_31 : decode cX4_takeWord 31 = .ok (.ireturn, 1) := by decide +kernel
theorem dX4_takeSign_0 : decode cX4_takeSign 0 = .ok (.aload_n 0, 1) := by decide +kernel
theorem dX4_takeSign_1 : decode cX4_takeSign 1 = .ok (.invokevirtual 48, 3) := by decide +kernel
theorem dX4_takeSign_4 : decode cX4_takeSign 4 = .ok (.iload_n 1, 1) := by decide +kernel
theorem dX4_takeSign_5 : decode cX4_takeSign 5 = .ok (.if_icmp .eq 5, 3) := by decide +kernel
theorem dX4_takeSign_8 : decode cX4_takeSign 8 = .ok (.iconst 0, 1) := by decide +kernel
theorem dX4_takeSign_9 : decode cX4_takeSign 9 = .ok (.ireturn, 1) := by decide +kernel
theorem dX4_takeSign_10 : decode cX4_takeSign 10 = .ok (.aload_n 0, 1) := by decide +kernel
theorem dX4_takeSign_11 : decode cX4_takeSign 11 = .ok (.dup, 1) := by decide +kernel
theorem dX4_takeSign_12 : decode cX4_takeSign 12 = .ok (.getfield 20, 3) := by decide +kernel
theorem dX4_takeSign_15 : decode cX4_takeSign 15 = .ok (.iconst 1, 1) := by decide +kernel
theorem dX4_takeSign_16 : decode cX4_takeSign 16 = .ok (.iadd, 1) := by decide +kernel
theorem dX4_takeSign_17 : decode cX4_takeSign 17 = .ok (.putfield 20, 3) := by decide +kernel
theorem dX4_takeSign_20 : decode cX4_takeSign 20 = .ok (.iconst 1, 1) := by decide +kernel
theorem dX4_takeSign_21 : decode cX4_takeSign 21 = .ok (.ireturn, 1) := by decide +kernel
theorem dX4_sign_0 : decode cX4_sign 0 = .ok (.aload_n 0, 1) := by decide +kernel
theorem dX4_sign_1 : decode cX4_sign 1 = .ok (.getfield 20, 3) := by decide +kernel
theorem dX4_sign_4 : decode cX4_sign 4 = .ok (.aload_n 0, 1) := by decide +kernel
theorem dX4_sign_5 : decode cX4_sign 5 = .ok (.getfield 16, 3) := by decide +kernel
theorem dX4_sign_8 : decode cX4_sign 8 = .ok (.if_icmp .ge 15, 3) := by decide +kernel
theorem dX4_sign_11 : decode cX4_sign 11 = .ok (.aload_n 0, 1) := by decide +kernel
theorem dX4_sign_12 : decode cX4_sign 12 = .ok (.getfield 9, 3) := by decide +kernel
theorem dX4_sign_15 : decode cX4_sign 15 = .ok (.aload_n 0, 1) := by decide +kernel
theorem dX4_sign_16 : decode cX4_sign 16 = .ok (.getfield 20, 3) := by decide +kernel
theorem dX4_sign_19 : decode cX4_sign 19 = .ok (.iaload, 1) := by decide +kernel
theorem dX4_sign_20 : decode cX4_sign 20 = .ok (.goto 4, 3) := by decide +kernel
theorem dX4_sign_23 : decode cX4_sign 23 = .ok (.iconst (-1), 1) := by decide +kernel
theorem dX4_sign_24 : decode cX4_sign 24 = .ok (.ireturn, 1) := by decide +kernel
theorem dX4_addStep_0 : decode cX4_addStep 0 = .ok (.aload_n 0, 1) := by decide +kernel
theorem dX4_addStep_1 : decode cX4_addStep 1 = .ok (.getfield 23, 3) := by decide +kernel
theorem dX4_addStep_4 : decode cX4_addStep 4 = .ok (.bipush 100, 2) := by decide +kernel
theorem dX4_addStep_6 : decode cX4_addStep 6 = .ok (.if_icmp .ge 27, 3) := by decide +kernel
theorem dX4_addStep_9 : decode cX4_addStep 9 = .ok (.aload_n 0, 1) := by decide +kernel
theorem dX4_addStep_10 : decode cX4_addStep 10 = .ok (.getfield 13, 3) := by decide +kernel
theorem dX4_addStep_13 : decode cX4_addStep 13 = .ok (.aload_n 0, 1) := by decide +kernel
theorem dX4_addStep_14 : decode cX4_addStep 14 = .ok (.getfield 23, 3) := by decide +kernel
theorem dX4_addStep_17 : decode cX4_addStep 17 = .ok (.iload_n 2, 1) := by decide +kernel
theorem dX4_addStep_18 : decode cX4_addStep 18 = .ok (.iconst 4, 1) := by decide +kernel
theorem dX4_addStep_19 : decode cX4_addStep 19 = .ok (.ishl, 1) := by decide +kernel
theorem dX4_addStep_20 : decode cX4_addStep 20 = .ok (.iload_n 1, 1) := by decide +kernel
theorem dX4_addStep_21 : decode cX4_addStep 21 = .ok (.ior, 1) := by decide +kernel
theorem dX4_addStep_22 : decode cX4_addStep 22 = .ok (.iastore, 1) := by decide +kernel
theorem dX4_addStep_23 : decode cX4_addStep 23 = .ok (.aload_n 0, 1) := by decide +kernel
theorem dX4_addStep_24 : decode cX4_addStep 24 = .ok (.dup, 1) := by decide +kernel
theorem dX4_addStep_25 : decode cX4_addStep 25 = .ok (.getfield 23, 3) := by decide +kernel
theorem dX4_addStep_28 : decode cX4_addStep 28 = .ok (.iconst 1, 1) := by decide +kernel
theorem dX4_addStep_29 : decode cX4_addStep 29 = .ok (.iadd, 1) := by decide +kernel
theorem dX4_addStep_30 : decode cX4_addStep 30 = .ok (.putfield 23, 3) := by decide +kernel
theorem dX4_addStep_33 : decode cX4_addStep 33 = .ok (.return_, 1) := by decide +kernel
theorem dX5_init_0 : decode cX5_init 0 = .ok (.aload_n 0, 1) := by decide +kernel
theorem dX5_init_1 : decode cX5_init 1 = .ok (.invokespecial 1, 3) := by decide +kernel
theorem dX5_init_4 : decode cX5_init 4 = .ok (.aload_n 0, 1) := by decide +kernel
theorem dX5_init_5 : decode cX5_init 5 = .ok (.iload_n 1, 1) := by decide +kernel
theorem dX5_init_6 : decode cX5_init 6 = .ok (.putfield 7, 3) := by decide +kernel
theorem dX5_init_9 : decode cX5_init 9 = .ok (.aload_n 0, 1) := by decide +kernel
theorem dX5_init_10 : decode cX5_init 10 = .ok (.iconst 3, 1) := by decide +kernel
theorem dX5_init_11 : decode cX5_init 11 = .ok (.iload_n 1, 1) := by decide +kernel
theorem dX5_init_12 : decode cX5_init 12 = .ok (.imul, 1) := by decide +kernel
theorem dX5_init_13 : decode cX5_init 13 = .ok (.newarray .int, 2) := by decide +kernel
theorem dX5_init_15 : decode cX5_init 15 = .ok (.putfield 13, 3) := by decide +kernel
theorem dX5_init_18 : decode cX5_init 18 = .ok (.return_, 1) := by decide +kernel
theorem dX5_isFull_0 : decode cX5_isFull 0 = .ok (.aload_n 0, 1) := by decide +kernel
theorem dX5_isFull_1 : decode cX5_isFull 1 = .ok (.getfield 17, 3) := by decide +kernel
theorem dX5_isFull_4 : decode cX5_isFull 4 = .ok (.aload_n 0, 1) := by decide +kernel
theorem dX5_isFull_5 : decode cX5_isFull 5 = .ok (.getfield 7, 3) := by decide +kernel
theorem dX5_isFull_8 : decode cX5_isFull 8 = .ok (.if_icmp .lt 7, 3) := by decide +kernel
theorem dX5_isFull_11 : decode cX5_isFull 11 = .ok (.iconst 1, 1) := by decide +kernel
theorem dX5_isFull_12 : decode cX5_isFull 12 = .ok (.goto 4, 3) := by decide +kernel
theorem dX5_isFull_15 : decode cX5_isFull 15 = .ok (.iconst 0, 1) := by decide +kernel
theorem dX5_isFull_16 : decode cX5_isFull 16 = .ok (.ireturn, 1) := by decide +kernel
theorem dX5_empty_0 : decode cX5_empty 0 = .ok (.aload_n 0, 1) := by decide +kernel
theorem dX5_empty_1 : decode cX5_empty 1 = .ok (.iconst 0, 1) := by decide +kernel
theorem dX5_empty_2 : decode cX5_empty 2 = .ok (.putfield 17, 3) := by decide +kernel
theorem dX5_empty_5 : decode cX5_empty 5 = .ok (.iconst 0, 1) := by decide +kernel
theorem dX5_empty_6 : decode cX5_empty 6 = .ok (.ireturn, 1) := by decide +kernel
theorem dX5_append_0 : decode cX5_append 0 = .ok (.iconst 3, 1) := by decide +kernel
theorem dX5_append_1 : decode cX5_append 1 = .ok (.aload_n 0, 1) := by decide +kernel
theorem dX5_append_2 : decode cX5_append 2 = .ok (.getfield 17, 3) := by decide +kernel
theorem dX5_append_5 : decode cX5_append 5 = .ok (.imul, 1) := by decide +kernel
theorem dX5_append_6 : decode cX5_append 6 = .ok (.istore 4, 2) := by decide +kernel
theorem dX5_append_8 : decode cX5_append 8 = .ok (.aload_n 0, 1) := by decide +kernel
theorem dX5_append_9 : decode cX5_append 9 = .ok (.getfield 13, 3) := by decide +kernel
theorem dX5_append_12 : decode cX5_append 12 = .ok (.iload 4, 2) := by decide +kernel
theorem dX5_append_14 : decode cX5_append 14 = .ok (.iload_n 1, 1) := by decide +kernel
theorem dX5_append_15 : decode cX5_append 15 = .ok (.iastore, 1) := by decide +kernel
theorem dX5_append_16 : decode cX5_append 16 = .ok (.aload_n 0, 1) := by decide +kernel
theorem dX5_append_17 : decode cX5_append 17 = .ok (.getfield 13, 3) := by decide +kernel
theorem dX5_append_20 : decode cX5_append 20 = .ok (.iload 4, 2) := by decide +kernel
theorem dX5_append_22 : decode cX5_append 22 = .ok (.iconst 1, 1) := by decide +kernel
theorem dX5_append_23 : decode cX5_append 23 = .ok (.iadd, 1) := by decide +kernel
theorem dX5_append_24 : decode cX5_append 24 = .ok (.iload_n 2, 1) := by decide +kernel
theorem dX5_append_25 : decode cX5_append 25 = .ok (.iastore, 1) := by decide +kernel
theorem dX5_append_26 : decode cX5_append 26 = .ok (.aload_n 0, 1) := by decide +kernel
theorem dX5_append_27 : decode cX5_append 27 = .ok (.getfield 13, 3) := by decide +kernel
theorem dX5_append_30 : decode cX5_append 30 = .ok (.iload 4, 2) := by decide +kernel
theorem dX5_append_32 : decode cX5_append 32 = .ok (.iconst 2, 1) := by decide +kernel
theorem dX5_append_33 : decode cX5_append 33 = .ok (.iadd, 1) := by decide +kernel
theorem dX5_append_34 : decode cX5_append 34 = .ok (.iload_n 3, 1) := by decide +kernel
theorem dX5_append_35 : decode cX5_append 35 = .ok (.iastore, 1) := by decide +kernel
theorem dX5_append_36 : decode cX5_append 36 = .ok (.aload_n 0, 1) := by decide +kernel
theorem dX5_append_37 : decode cX5_append 37 = .ok (.dup, 1) := by decide +kernel
theorem dX5_append_38 : decode cX5_append 38 = .ok (.getfield 17, 3) := by decide +kernel
theorem dX5_append_41 : decode cX5_append 41 = .ok (.iconst 1, 1) := by decide +kernel
theorem dX5_append_42 : decode cX5_append 42 = .ok (.iadd, 1) := by decide +kernel
theorem dX5_append_43 : decode cX5_append 43 = .ok (.putfield 17, 3) := by decide +kernel
theorem dX5_append_46 : decode cX5_append 46 = .ok (.aload_n 0, 1) := by decide +kernel
theorem dX5_append_47 : decode cX5_append 47 = .ok (.getfield 17, 3) := by decide +kernel
theorem dX5_append_50 : decode cX5_append 50 = .ok (.ireturn, 1) := by decide +kernel
theorem dX5_first_0 : decode cX5_first 0 = .ok (.aload_n 0, 1) := by decide +kernel
theorem dX5_first_1 : decode cX5_first 1 = .ok (.getfield 13, 3) := by decide +kernel
theorem dX5_first_4 : decode cX5_first 4 = .ok (.iconst 3, 1) := by decide +kernel
theorem dX5_first_5 : decode cX5_first 5 = .ok (.iload_n 1, 1) := by decide +kernel
theorem dX5_first_6 : decode cX5_first 6 = .ok (.imul, 1) := by decide +kernel
theorem dX5_first_7 : decode cX5_first 7 = .ok (.iaload, 1) := by decide +kernel
theorem dX5_first_8 : decode cX5_first 8 = .ok (.ireturn, 1) := by decide +kernel
theorem dX5_second_0 : decode cX5_second 0 = .ok (.aload_n 0, 1) := by decide +kernel
theorem dX5_second_1 : decode cX5_second 1 = .ok (.getfield 13, 3) := by decide +kernel
theorem dX5_second_4 : decode cX5_second 4 = .ok (.iconst 3, 1) := by decide +kernel
theorem dX5_second_5 : decode cX5_second 5 = .ok (.iload_n 1, 1) := by decide +kernel
theorem dX5_second_6 : decode cX5_second 6 = .ok (.imul, 1) := by decide +kernel
theorem dX5_second_7 : decode cX5_second 7 = .ok (.iconst 1, 1) := by decide +kernel
theorem dX5_second_8 : decode cX5_second 8 = .ok (.iadd, 1) := by decide +kernel
theorem dX5_second_9 : decode cX5_second 9 = .ok (.iaload, 1) := by decide +kernel
theorem dX5_second_10 : decode cX5_second 10 = .ok (.ireturn, 1) := by decide +kernel
theorem dX5_third_0 : decode cX5_third 0 = .ok (.aload_n 0, 1) := by decide +kernel
theorem dX5_third_1 : decode cX5_third 1 = .ok (.getfield 13, 3) := by decide +kernel
theorem dX5_third_4 : decode cX5_third 4 = .ok (.iconst 3, 1) := by decide +kernel
theorem dX5_third_5 : decode cX5_third 5 = .ok (.iload_n 1, 1) := by decide +kernel
theorem dX5_third_6 : decode cX5_third 6 = .ok (.imul, 1) := by decide +kernel
theorem dX5_third_7 : decode cX5_third 7 = .ok (.iconst 2, 1) := by decide +kernel
theorem dX5_third_8 : decode cX5_third 8 = .ok (.iadd, 1) := by decide +kernel
theorem dX5_third_9 : decode cX5_third 9 = .ok (.iaload, 1) := by decide +kernel
theorem dX5_third_10 : decode cX5_third 10 = .ok (.ireturn, 1) := by decide +kernel
theorem dX5_copyFrom_0 : decode cX5_copyFrom 0 = .ok (.aload_n 0, 1) := by decide +kernel
theorem dX5_copyFrom_1 : decode cX5_copyFrom 1 = .ok (.aload_n 1, 1) := by decide +kernel
theorem dX5_copyFrom_2 : decode cX5_copyFrom 2 = .ok (.getfield 17, 3) := by decide +kernel
theorem dX5_copyFrom_5 : decode cX5_copyFrom 5 = .ok (.putfield 17, 3) := by decide +kernel
theorem dX5_copyFrom_8 : decode cX5_copyFrom 8 = .ok (.aload_n 1, 1) := by decide +kernel
theorem dX5_copyFrom_9 : decode cX5_copyFrom 9 = .ok (.getfield 13, 3) := by decide +kernel
theorem dX5_copyFrom_12 : decode cX5_copyFrom 12 = .ok (.iconst 0, 1) := by decide +kernel
theorem dX5_copyFrom_13 : decode cX5_copyFrom 13 = .ok (.aload_n 0, 1) := by decide +kernel
theorem dX5_copyFrom_14 : decode cX5_copyFrom 14 = .ok (.getfield 13, 3) := by decide +kernel
theorem dX5_copyFrom_17 : decode cX5_copyFrom 17 = .ok (.iconst 0, 1) := by decide +kernel
theorem dX5_copyFrom_18 : decode cX5_copyFrom 18 = .ok (.iconst 3, 1) := by decide +kernel
theorem dX5_copyFrom_19 : decode cX5_copyFrom 19 = .ok (.aload_n 0, 1) := by decide +kernel
theorem dX5_copyFrom_20 : decode cX5_copyFrom 20 = .ok (.getfield 7, 3) := by decide +kernel
theorem dX5_copyFrom_23 : decode cX5_copyFrom 23 = .ok (.imul, 1) := by decide +kernel
theorem dX5_copyFrom_24 : decode cX5_copyFrom 24 = .ok (.invokestatic 20, 3) := by decide +kernel
theorem dX5_copyFrom_27 : decode cX5_copyFrom 27 = .ok (.return_, 1) := by decide +kernel
theorem dX6_init_0 : decode cX6_init 0 = .ok (.aload_n 0, 1) := by decide +kernel
theorem dX6_init_1 : decode cX6_init 1 = .ok (.invokespecial 1, 3) := by decide +kernel
theorem dX6_init_4 : decode cX6_init 4 = .ok (.aload_n 0, 1) := by decide +kernel
theorem dX6_init_5 : decode cX6_init 5 = .ok (.iconst (-1), 1) := by decide +kernel
theorem dX6_init_6 : decode cX6_init 6 = .ok (.putfield 7, 3) := by decide +kernel
theorem dX6_init_9 : decode cX6_init 9 = .ok (.aload_n 0, 1) := by decide +kernel
theorem dX6_init_10 : decode cX6_init 10 = .ok (.bipush 60, 2) := by decide +kernel
theorem dX6_init_12 : decode cX6_init 12 = .ok (.newarray .long, 2) := by decide +kernel
theorem dX6_init_14 : decode cX6_init 14 = .ok (.putfield 13, 3) := by decide +kernel
theorem dX6_init_17 : decode cX6_init 17 = .ok (.return_, 1) := by decide +kernel
theorem dX6_isThere_0 : decode cX6_isThere 0 = .ok (.aload_n 0, 1) := by decide +kernel
theorem dX6_isThere_1 : decode cX6_isThere 1 = .ok (.getfield 7, 3) := by decide +kernel
theorem dX6_isThere_4 : decode cX6_isThere 4 = .ok (.ifCond .lt 7, 3) := by decide +kernel
theorem dX6_isThere_7 : decode cX6_isThere 7 = .ok (.iconst 1, 1) := by decide +kernel
theorem dX6_isThere_8 : decode cX6_isThere 8 = .ok (.goto 4, 3) := by decide +kernel
theorem dX6_isThere_11 : decode cX6_isThere 11 = .ok (.iconst 0, 1) := by decide +kernel
theorem dX6_isThere_12 : decode cX6_isThere 12 = .ok (.ireturn, 1) := by decide +kernel
theorem dX6_become_0 : decode cX6_become 0 = .ok (.aload_n 0, 1) := by decide +kernel
theorem dX6_become_1 : decode cX6_become 1 = .ok (.iload_n 1, 1) := by decide +kernel
theorem dX6_become_2 : decode cX6_become 2 = .ok (.putfield 7, 3) := by decide +kernel
theorem dX6_become_5 : decode cX6_become 5 = .ok (.aload_n 0, 1) := by decide +kernel
theorem dX6_become_6 : decode cX6_become 6 = .ok (.iload_n 2, 1) := by decide +kernel
theorem dX6_become_7 : decode cX6_become 7 = .ok (.putfield 17, 3) := by decide +kernel
theorem dX6_become_10 : decode cX6_become 10 = .ok (.iconst 0, 1) := by decide +kernel
theorem dX6_become_11 : decode cX6_become 11 = .ok (.istore_n 3, 1) := by decide +kernel
theorem dX6_become_12 : decode cX6_become 12 = .ok (.iload_n 3, 1) := by decide +kernel
theorem dX6_become_13 : decode cX6_become 13 = .ok (.bipush 60, 2) := by decide +kernel
theorem dX6_become_15 : decode cX6_become 15 = .ok (.if_icmp .ge 16, 3) := by decide +kernel
theorem dX6_become_18 : decode cX6_become 18 = .ok (.aload_n 0, 1) := by decide +kernel
theorem dX6_become_19 : decode cX6_become 19 = .ok (.getfield 13, 3) := by decide +kernel
theorem dX6_become_22 : decode cX6_become 22 = .ok (.iload_n 3, 1) := by decide +kernel
theorem dX6_become_23 : decode cX6_become 23 = .ok (.lconst 0, 1) := by decide +kernel
theorem dX6_become_24 : decode cX6_become 24 = .ok (.lastore, 1) := by decide +kernel
theorem dX6_become_25 : decode cX6_become 25 = .ok (.iinc 3 1, 3) := by decide +kernel
theorem dX6_become_28 : decode cX6_become 28 = .ok (.goto (-16), 3) := by decide +kernel
theorem dX6_become_31 : decode cX6_become 31 = .ok (.return_, 1) := by decide +kernel
theorem dX6_cut_0 : decode cX6_cut 0 = .ok (.aload_n 0, 1) := by decide +kernel
theorem dX6_cut_1 : decode cX6_cut 1 = .ok (.getfield 7, 3) := by decide +kernel
theorem dX6_cut_4 : decode cX6_cut 4 = .ok (.tableswitch 48 0 3 #[32, 37, 42, 46], 32) := by decide +kernel
theorem dX6_cut_36 : decode cX6_cut 36 = .ok (.lload_n 1, 1) := by decide +kernel
theorem dX6_cut_37 : decode cX6_cut 37 = .ok (.l2i, 1) := by decide +kernel
theorem dX6_cut_38 : decode cX6_cut 38 = .ok (.i2b, 1) := by decide +kernel
theorem dX6_cut_39 : decode cX6_cut 39 = .ok (.i2l, 1) := by decide +kernel
theorem dX6_cut_40 : decode cX6_cut 40 = .ok (.lreturn, 1) := by decide +kernel
theorem dX6_cut_41 : decode cX6_cut 41 = .ok (.lload_n 1, 1) := by decide +kernel
theorem dX6_cut_42 : decode cX6_cut 42 = .ok (.l2i, 1) := by decide +kernel
theorem dX6_cut_43 : decode cX6_cut 43 = .ok (.i2s, 1) := by decide +kernel
theorem dX6_cut_44 : decode cX6_cut 44 = .ok (.i2l, 1) := by decide +kernel
theorem dX6_cut_45 : decode cX6_cut 45 = .ok (.lreturn, 1) := by decide +kernel
theorem dX6_cut_46 : decode cX6_cut 46 = .ok (.lload_n 1, 1) := by decide +kernel
theorem dX6_cut_47 : decode cX6_cut 47 = .ok (.l2i, 1) := by decide +kernel
theorem dX6_cut_48 : decode cX6_cut 48 = .ok (.i2l, 1) := by decide +kernel
theorem dX6_cut_49 : decode cX6_cut 49 = .ok (.lreturn, 1) := by decide +kernel
theorem dX6_cut_50 : decode cX6_cut 50 = .ok (.lload_n 1, 1) := by decide +kernel
theorem dX6_cut_51 : decode cX6_cut 51 = .ok (.lreturn, 1) := by decide +kernel
theorem dX6_cut_52 : decode cX6_cut 52 = .ok (.lload_n 1, 1) := by decide +kernel
theorem dX6_cut_53 : decode cX6_cut 53 = .ok (.lconst 0, 1) := by decide +kernel
theorem dX6_cut_54 : decode cX6_cut 54 = .ok (.lcmp, 1) := by decide +kernel
theorem dX6_cut_55 : decode cX6_cut 55 = .ok (.ifCond .eq 7, 3) := by decide +kernel
theorem dX6_cut_58 : decode cX6_cut 58 = .ok (.lconst 1, 1) := by decide +kernel
theorem dX6_cut_59 : decode cX6_cut 59 = .ok (.goto 4, 3) := by decide +kernel
theorem dX6_cut_62 : decode cX6_cut 62 = .ok (.lconst 0, 1) := by decide +kernel
theorem dX6_cut_63 : decode cX6_cut 63 = .ok (.lreturn, 1) := by decide +kernel
theorem dX6_holds_0 : decode cX6_holds 0 = .ok (.iload_n 2, 1) := by decide +kernel
theorem dX6_holds_1 : decode cX6_holds 1 = .ok (.ifCond .lt 29, 3) := by decide +kernel
theorem dX6_holds_4 : decode cX6_holds 4 = .ok (.iload_n 1, 1) := by decide +kernel
theorem dX6_holds_5 : decode cX6_holds 5 = .ok (.ifCond .lt 25, 3) := by decide +kernel
theorem dX6_holds_8 : decode cX6_holds 8 = .ok (.iload_n 2, 1) := by decide +kernel
theorem dX6_holds_9 : decode cX6_holds 9 = .ok (.aload_n 0, 1) := by decide +kernel
theorem dX6_holds_10 : decode cX6_holds 10 = .ok (.getfield 17, 3) := by decide +kernel
theorem dX6_holds_13 : decode cX6_holds 13 = .ok (.if_icmp .gt 17, 3) := by decide +kernel
theorem dX6_holds_16 : decode cX6_holds 16 = .ok (.iload_n 1, 1) := by decide +kernel
theorem dX6_holds_17 : decode cX6_holds 17 = .ok (.aload_n 0, 1) := by decide +kernel
theorem dX6_holds_18 : decode cX6_holds 18 = .ok (.getfield 17, 3) := by decide +kernel
theorem dX6_holds_21 : decode cX6_holds 21 = .ok (.iload_n 2, 1) := by decide +kernel
theorem dX6_holds_22 : decode cX6_holds 22 = .ok (.isub, 1) := by decide +kernel
theorem dX6_holds_23 : decode cX6_holds 23 = .ok (.if_icmp .gt 7, 3) := by decide +kernel
theorem dX6_holds_26 : decode cX6_holds 26 = .ok (.iconst 1, 1) := by decide +kernel
theorem dX6_holds_27 : decode cX6_holds 27 = .ok (.goto 4, 3) := by decide +kernel
theorem dX6_holds_30 : decode cX6_holds 30 = .ok (.iconst 0, 1) := by decide +kernel
theorem dX6_holds_31 : decode cX6_holds 31 = .ok (.ireturn, 1) := by decide +kernel
theorem dX7_near_0 : decode cX7_near 0 = .ok (.iload_n 0, 1) := by decide +kernel
theorem dX7_near_1 : decode cX7_near 1 = .ok (.sipush 30583, 3) := by decide +kernel
theorem dX7_near_4 : decode cX7_near 4 = .ok (.iand, 1) := by decide +kernel
theorem dX7_near_5 : decode cX7_near 5 = .ok (.iconst 1, 1) := by decide +kernel
theorem dX7_near_6 : decode cX7_near 6 = .ok (.ishl, 1) := by decide +kernel
theorem dX7_near_7 : decode cX7_near 7 = .ok (.iload_n 0, 1) := by decide +kernel
theorem dX7_near_8 : decode cX7_near 8 = .ok (.iconst 1, 1) := by decide +kernel
theorem dX7_near_9 : decode cX7_near 9 = .ok (.iushr, 1) := by decide +kernel
theorem dX7_near_10 : decode cX7_near 10 = .ok (.sipush 30583, 3) := by decide +kernel
theorem dX7_near_13 : decode cX7_near 13 = .ok (.iand, 1) := by decide +kernel
theorem dX7_near_14 : decode cX7_near 14 = .ok (.ior, 1) := by decide +kernel
theorem dX7_near_15 : decode cX7_near 15 = .ok (.istore_n 1, 1) := by decide +kernel
theorem dX7_near_16 : decode cX7_near 16 = .ok (.iload_n 0, 1) := by decide +kernel
theorem dX7_near_17 : decode cX7_near 17 = .ok (.iconst 4, 1) := by decide +kernel
theorem dX7_near_18 : decode cX7_near 18 = .ok (.ishl, 1) := by decide +kernel
theorem dX7_near_19 : decode cX7_near 19 = .ok (.iload_n 0, 1) := by decide +kernel
theorem dX7_near_20 : decode cX7_near 20 = .ok (.iconst 4, 1) := by decide +kernel
theorem dX7_near_21 : decode cX7_near 21 = .ok (.iushr, 1) := by decide +kernel
theorem dX7_near_22 : decode cX7_near 22 = .ok (.ior, 1) := by decide +kernel
theorem dX7_near_23 : decode cX7_near 23 = .ok (.iload_n 1, 1) := by decide +kernel
theorem dX7_near_24 : decode cX7_near 24 = .ok (.ior, 1) := by decide +kernel
theorem dX7_near_25 : decode cX7_near 25 = .ok (.ldc 11, 2) := by decide +kernel
theorem dX7_near_27 : decode cX7_near 27 = .ok (.iand, 1) := by decide +kernel
theorem dX7_near_28 : decode cX7_near 28 = .ok (.ireturn, 1) := by decide +kernel
theorem dX7_least_0 : decode cX7_least 0 = .ok (.iload_n 0, 1) := by decide +kernel
theorem dX7_least_1 : decode cX7_least 1 = .ok (.iload_n 0, 1) := by decide +kernel
theorem dX7_least_2 : decode cX7_least 2 = .ok (.ineg, 1) := by decide +kernel
theorem dX7_least_3 : decode cX7_least 3 = .ok (.iand, 1) := by decide +kernel
theorem dX7_least_4 : decode cX7_least 4 = .ok (.iconst 1, 1) := by decide +kernel
theorem dX7_least_5 : decode cX7_least 5 = .ok (.isub, 1) := by decide +kernel
theorem dX7_least_6 : decode cX7_least 6 = .ok (.invokestatic 12, 3) := by decide +kernel
theorem dX7_least_9 : decode cX7_least 9 = .ok (.ireturn, 1) := by decide +kernel
theorem dX7_firstCell_0 : decode cX7_firstCell 0 = .ok (.iconst 1, 1) := by decide +kernel
theorem dX7_firstCell_1 : decode cX7_firstCell 1 = .ok (.iload_n 0, 1) := by decide +kernel
theorem dX7_firstCell_2 : decode cX7_firstCell 2 = .ok (.ishl, 1) := by decide +kernel
theorem dX7_firstCell_3 : decode cX7_firstCell 3 = .ok (.invokestatic 18, 3) := by decide +kernel
theorem dX7_firstCell_6 : decode cX7_firstCell 6 = .ok (.istore_n 3, 1) := by decide +kernel
theorem dX7_firstCell_7 : decode cX7_firstCell 7 = .ok (.iconst 1, 1) := by decide +kernel
theorem dX7_firstCell_8 : decode cX7_firstCell 8 = .ok (.iload_n 1, 1) := by decide +kernel
theorem dX7_firstCell_9 : decode cX7_firstCell 9 = .ok (.ishl, 1) := by decide +kernel
theorem dX7_firstCell_10 : decode cX7_firstCell 10 = .ok (.iload_n 2, 1) := by decide +kernel
theorem dX7_firstCell_11 : decode cX7_firstCell 11 = .ok (.iconst (-1), 1) := by decide +kernel
theorem dX7_firstCell_12 : decode cX7_firstCell 12 = .ok (.ixor, 1) := by decide +kernel
theorem dX7_firstCell_13 : decode cX7_firstCell 13 = .ok (.iand, 1) := by decide +kernel
theorem dX7_firstCell_14 : decode cX7_firstCell 14 = .ok (.istore 4, 2) := by decide +kernel
theorem dX7_firstCell_16 : decode cX7_firstCell 16 = .ok (.iconst 0, 1) := by decide +kernel
theorem dX7_firstCell_17 : decode cX7_firstCell 17 = .ok (.istore 5, 2) := by decide +kernel
theorem dX7_firstCell_19 : decode cX7_firstCell 19 = .ok (.iload 5, 2) := by decide +kernel
theorem dX7_firstCell_21 : decode cX7_firstCell 21 = .ok (.bipush 16, 2) := by decide +kernel
theorem dX7_firstCell_23 : decode cX7_firstCell 23 = .ok (.if_icmp .ge 51, 3) := by decide +kernel
theorem dX7_firstCell_26 : decode cX7_firstCell 26 = .ok (.iload 4, 2) := by decide +kernel
theorem dX7_firstCell_28 : decode cX7_firstCell 28 = .ok (.iload_n 3, 1) := by decide +kernel
theorem dX7_firstCell_29 : decode cX7_firstCell 29 = .ok (.iand, 1) := by decide +kernel
theorem dX7_firstCell_30 : decode cX7_firstCell 30 = .ok (.ifCond .eq 11, 3) := by decide +kernel
theorem dX7_firstCell_33 : decode cX7_firstCell 33 = .ok (.iload 4, 2) := by decide +kernel
theorem dX7_firstCell_35 : decode cX7_firstCell 35 = .ok (.iload_n 3, 1) := by decide +kernel
theorem dX7_firstCell_36 : decode cX7_firstCell 36 = .ok (.iand, 1) := by decide +kernel
theorem dX7_firstCell_37 : decode cX7_firstCell 37 = .ok (.invokestatic 21, 3) := by decide +kernel
theorem dX7_firstCell_40 : decode cX7_firstCell 40 = .ok (.ireturn, 1) := by decide +kernel
theorem dX7_firstCell_41 : decode cX7_firstCell 41 = .ok (.iload 4, 2) := by decide +kernel
theorem dX7_firstCell_43 : decode cX7_firstCell 43 = .ok (.iload 4, 2) := by decide +kernel
theorem dX7_firstCell_45 : decode cX7_firstCell 45 = .ok (.invokestatic 18, 3) := by decide +kernel
theorem dX7_firstCell_48 : decode cX7_firstCell 48 = .ok (.iload_n 2, 1) := by decide +kernel
theorem dX7_firstCell_49 : decode cX7_firstCell 49 = .ok (.iconst (-1), 1) := by decide +kernel
theorem dX7_firstCell_50 : decode cX7_firstCell 50 = .ok (.ixor, 1) := by decide +kernel
theorem dX7_firstCell_51 : decode cX7_firstCell 51 = .ok (.iand, 1) := by decide +kernel
theorem dX7_firstCell_52 : decode cX7_firstCell 52 = .ok (.ior, 1) := by decide +kernel
theorem dX7_firstCell_53 : decode cX7_firstCell 53 = .ok (.istore 6, 2) := by decide +kernel
theorem dX7_firstCell_55 : decode cX7_firstCell 55 = .ok (.iload 6, 2) := by decide +kernel
theorem dX7_firstCell_57 : decode cX7_firstCell 57 = .ok (.iload 4, 2) := by decide +kernel
theorem dX7_firstCell_59 : decode cX7_firstCell 59 = .ok (.if_icmp .ne 5, 3) := by decide +kernel
theorem dX7_firstCell_62 : decode cX7_firstCell 62 = .ok (.iconst (-1), 1) := by decide +kernel
theorem dX7_firstCell_63 : decode cX7_firstCell 63 = .ok (.ireturn, 1) := by decide +kernel
theorem dX7_firstCell_64 : decode cX7_firstCell 64 = .ok (.iload 6, 2) := by decide +kernel
theorem dX7_firstCell_66 : decode cX7_firstCell 66 = .ok (.istore 4, 2) := by decide +kernel
theorem dX7_firstCell_68 : decode cX7_firstCell 68 = .ok (.iinc 5 1, 3) := by decide +kernel
theorem dX7_firstCell_71 : decode cX7_firstCell 71 = .ok (.goto (-52), 3) := by decide +kernel
theorem dX7_firstCell_74 : decode cX7_firstCell 74 = .ok (.iconst (-1), 1) := by decide +kernel
theorem dX7_firstCell_75 : decode cX7_firstCell 75 = .ok (.ireturn, 1) := by decide +kernel
theorem dX7_length_0 : decode cX7_length 0 = .ok (.iconst 1, 1) := by decide +kernel
theorem dX7_length_1 : decode cX7_length 1 = .ok (.iload_n 0, 1) := by decide +kernel
theorem dX7_length_2 : decode cX7_length 2 = .ok (.ishl, 1) := by decide +kernel
theorem dX7_length_3 : decode cX7_length 3 = .ok (.istore_n 3, 1) := by decide +kernel
theorem dX7_length_4 : decode cX7_length 4 = .ok (.iconst 0, 1) := by decide +kernel
theorem dX7_length_5 : decode cX7_length 5 = .ok (.istore 4, 2) := by decide +kernel
theorem dX7_length_7 : decode cX7_length 7 = .ok (.iload 4, 2) := by decide +kernel
theorem dX7_length_9 : decode cX7_length 9 = .ok (.bipush 16, 2) := by decide +kernel
theorem dX7_length_11 : decode cX7_length 11 = .ok (.if_icmp .ge 44, 3) := by decide +kernel
theorem dX7_length_14 : decode cX7_length 14 = .ok (.iload_n 3, 1) := by decide +kernel
theorem dX7_length_15 : decode cX7_length 15 = .ok (.iload_n 1, 1) := by decide +kernel
theorem dX7_length_16 : decode cX7_length 16 = .ok (.ishr, 1) := by decide +kernel
theorem dX7_length_17 : decode cX7_length 17 = .ok (.iconst 1, 1) := by decide +kernel
theorem dX7_length_18 : decode cX7_length 18 = .ok (.iand, 1) := by decide +kernel
theorem dX7_length_19 : decode cX7_length 19 = .ok (.ifCond .eq 6, 3) := by decide +kernel
theorem dX7_length_22 : decode cX7_length 22 = .ok (.iload 4, 2) := by decide +kernel
theorem dX7_length_24 : decode cX7_length 24 = .ok (.ireturn, 1) := by decide +kernel
theorem dX7_length_25 : decode cX7_length 25 = .ok (.iload_n 3, 1) := by decide +kernel
theorem dX7_length_26 : decode cX7_length 26 = .ok (.iload_n 3, 1) := by decide +kernel
theorem dX7_length_27 : decode cX7_length 27 = .ok (.invokestatic 18, 3) := by decide +kernel
theorem dX7_length_30 : decode cX7_length 30 = .ok (.iload_n 2, 1) := by decide +kernel
theorem dX7_length_31 : decode cX7_length 31 = .ok (.iconst (-1), 1) := by decide +kernel
theorem dX7_length_32 : decode cX7_length 32 = .ok (.ixor, 1) := by decide +kernel
theorem dX7_length_33 : decode cX7_length 33 = .ok (.iand, 1) := by decide +kernel
theorem dX7_length_34 : decode cX7_length 34 = .ok (.ior, 1) := by decide +kernel
theorem dX7_length_35 : decode cX7_length 35 = .ok (.istore 5, 2) := by decide +kernel
theorem dX7_length_37 : decode cX7_length 37 = .ok (.iload 5, 2) := by decide +kernel
theorem dX7_length_39 : decode cX7_length 39 = .ok (.iload_n 3, 1) := by decide +kernel
theorem dX7_length_40 : decode cX7_length 40 = .ok (.if_icmp .ne 6, 3) := by decide +kernel
theorem dX7_length_43 : decode cX7_length 43 = .ok (.bipush (-5), 2) := by decide +kernel
theorem dX7_length_45 : decode cX7_length 45 = .ok (.ireturn, 1) := by decide +kernel
theorem dX7_length_46 : decode cX7_length 46 = .ok (.iload 5, 2) := by decide +kernel
theorem dX7_length_48 : decode cX7_length 48 = .ok (.istore_n 3, 1) := by decide +kernel
theorem dX7_length_49 : decode cX7_length 49 = .ok (.iinc 4 1, 3) := by decide +kernel
theorem dX7_length_52 : decode cX7_length 52 = .ok (.goto (-45), 3) := by decide +kernel
theorem dX7_length_55 : decode cX7_length 55 = .ok (.bipush (-5), 2) := by decide +kernel
theorem dX7_length_57 : decode cX7_length 57 = .ok (.ireturn, 1) := by decide +kernel
theorem dX7_kthCell_0 : decode cX7_kthCell 0 = .ok (.iload_n 0, 1) := by decide +kernel
theorem dX7_kthCell_1 : decode cX7_kthCell 1 = .ok (.istore 4, 2) := by decide +kernel
theorem dX7_kthCell_3 : decode cX7_kthCell 3 = .ok (.iconst 0, 1) := by decide +kernel
theorem dX7_kthCell_4 : decode cX7_kthCell 4 = .ok (.istore 5, 2) := by decide +kernel
theorem dX7_kthCell_6 : decode cX7_kthCell 6 = .ok (.iload 5, 2) := by decide +kernel
theorem dX7_kthCell_8 : decode cX7_kthCell 8 = .ok (.iload_n 3, 1) := by decide +kernel
theorem dX7_kthCell_9 : decode cX7_kthCell 9 = .ok (.if_icmp .gt 47, 3) := by decide +kernel
theorem dX7_kthCell_12 : decode cX7_kthCell 12 = .ok (.iload 5, 2) := by decide +kernel
theorem dX7_kthCell_14 : decode cX7_kthCell 14 = .ok (.bipush 16, 2) := by decide +kernel
theorem dX7_kthCell_16 : decode cX7_kthCell 16 = .ok (.if_icmp .ge 40, 3) := by decide +kernel
theorem dX7_kthCell_19 : decode cX7_kthCell 19 = .ok (.iload 4, 2) := by decide +kernel
theorem dX7_kthCell_21 : decode cX7_kthCell 21 = .ok (.iload_n 1, 1) := by decide +kernel
theorem dX7_kthCell_22 : decode cX7_kthCell 22 = .ok (.if_icmp .ne 7, 3) := by decide +kernel
theorem dX7_kthCell_25 : decode cX7_kthCell 25 = .ok (.iconst (-1), 1) := by decide +kernel
theorem dX7_kthCell_26 : decode cX7_kthCell 26 = .ok (.goto 10, 3) := by decide +kernel
theorem dX7_kthCell_29 : decode cX7_kthCell 29 = .ok (.iload 4, 2) := by decide +kernel
theorem dX7_kthCell_31 : decode cX7_kthCell 31 = .ok (.iload_n 1, 1) := by decide +kernel
theorem dX7_kthCell_32 : decode cX7_kthCell 32 = .ok (.iload_n 2, 1) := by decide +kernel
theorem dX7_kthCell_33 : decode cX7_kthCell 33 = .ok (.invokestatic 24, 3) := by decide +kernel
theorem dX7_kthCell_36 : decode cX7_kthCell 36 = .ok (.istore 6, 2) := by decide +kernel
theorem dX7_kthCell_38 : decode cX7_kthCell 38 = .ok (.iload 6, 2) := by decide +kernel
theorem dX7_kthCell_40 : decode cX7_kthCell 40 = .ok (.ifCond .ge 6, 3) := by decide +kernel
theorem dX7_kthCell_43 : decode cX7_kthCell 43 = .ok (.bipush (-5), 2) := by decide +kernel
theorem dX7_kthCell_45 : decode cX7_kthCell 45 = .ok (.ireturn, 1) := by decide +kernel
theorem dX7_kthCell_46 : decode cX7_kthCell 46 = .ok (.iload 6, 2) := by decide +kernel
theorem dX7_kthCell_48 : decode cX7_kthCell 48 = .ok (.istore 4, 2) := by decide +kernel
theorem dX7_kthCell_50 : decode cX7_kthCell 50 = .ok (.iinc 5 1, 3) := by decide +kernel
theorem dX7_kthCell_53 : decode cX7_kthCell 53 = .ok (.goto (-47), 3) := by decide +kernel
theorem dX7_kthCell_56 : decode cX7_kthCell 56 = .ok (.iload 4, 2) := by decide +kernel
theorem dX7_kthCell_58 : decode cX7_kthCell 58 = .ok (.ireturn, 1) := by decide +kernel
theorem dX7_avoids_0 : decode cX7_avoids 0 = .ok (.iload_n 0, 1) := by decide +kernel
theorem dX7_avoids_1 : decode cX7_avoids 1 = .ok (.istore 4, 2) := by decide +kernel
theorem dX7_avoids_3 : decode cX7_avoids 3 = .ok (.iconst 0, 1) := by decide +kernel
theorem dX7_avoids_4 : decode cX7_avoids 4 = .ok (.istore 5, 2) := by decide +kernel
theorem dX7_avoids_6 : decode cX7_avoids 6 = .ok (.iload 5, 2) := by decide +kernel
theorem dX7_avoids_8 : decode cX7_avoids 8 = .ok (.bipush 16, 2) := by decide +kernel
theorem dX7_avoids_10 : decode cX7_avoids 10 = .ok (.if_icmp .ge 42, 3) := by decide +kernel
theorem dX7_avoids_13 : decode cX7_avoids 13 = .ok (.iload 4, 2) := by decide +kernel
theorem dX7_avoids_15 : decode cX7_avoids 15 = .ok (.iload_n 1, 1) := by decide +kernel
theorem dX7_avoids_16 : decode cX7_avoids 16 = .ok (.if_icmp .ne 5, 3) := by decide +kernel
theorem dX7_avoids_19 : decode cX7_avoids 19 = .ok (.iconst 1, 1) := by decide +kernel
theorem dX7_avoids_20 : decode cX7_avoids 20 = .ok (.ireturn, 1) := by decide +kernel
theorem dX7_avoids_21 : decode cX7_avoids 21 = .ok (.iload 4, 2) := by decide +kernel
theorem dX7_avoids_23 : decode cX7_avoids 23 = .ok (.iload_n 1, 1) := by decide +kernel
theorem dX7_avoids_24 : decode cX7_avoids 24 = .ok (.iload_n 2, 1) := by decide +kernel
theorem dX7_avoids_25 : decode cX7_avoids 25 = .ok (.invokestatic 24, 3) := by decide +kernel
theorem dX7_avoids_28 : decode cX7_avoids 28 = .ok (.istore 4, 2) := by decide +kernel
theorem dX7_avoids_30 : decode cX7_avoids 30 = .ok (.iload 4, 2) := by decide +kernel
theorem dX7_avoids_32 : decode cX7_avoids 32 = .ok (.ifCond .lt 12, 3) := by decide +kernel
theorem dX7_avoids_35 : decode cX7_avoids 35 = .ok (.iload_n 3, 1) := by decide +kernel
theorem dX7_avoids_36 : decode cX7_avoids 36 = .ok (.iload 4, 2) := by decide +kernel
theorem dX7_avoids_38 : decode cX7_avoids 38 = .ok (.ishr, 1) := by decide +kernel
theorem dX7_avoids_39 : decode cX7_avoids 39 = .ok (.iconst 1, 1) := by decide +kernel
theorem dX7_avoids_40 : decode cX7_avoids 40 = .ok (.iand, 1) := by decide +kernel
theorem dX7_avoids_41 : decode cX7_avoids 41 = .ok (.ifCond .eq 5, 3) := by decide +kernel
theorem dX7_avoids_44 : decode cX7_avoids 44 = .ok (.iconst 0, 1) := by decide +kernel
theorem dX7_avoids_45 : decode cX7_avoids 45 = .ok (.ireturn, 1) := by decide +kernel
theorem dX7_avoids_46 : decode cX7_avoids 46 = .ok (.iinc 5 1, 3) := by decide +kernel
theorem dX7_avoids_49 : decode cX7_avoids 49 = .ok (.goto (-43), 3) := by decide +kernel
theorem dX7_avoids_52 : decode cX7_avoids 52 = .ok (.iconst 0, 1) := by decide +kernel
theorem dX7_avoids_53 : decode cX7_avoids 53 = .ok (.ireturn, 1) := by decide +kernel
theorem dX7_reach_0 : decode cX7_reach 0 = .ok (.iconst 1, 1) := by decide +kernel
theorem dX7_reach_1 : decode cX7_reach 1 = .ok (.iload_n 0, 1) := by decide +kernel
theorem dX7_reach_2 : decode cX7_reach 2 = .ok (.ishl, 1) := by decide +kernel
theorem dX7_reach_3 : decode cX7_reach 3 = .ok (.istore_n 2, 1) := by decide +kernel
theorem dX7_reach_4 : decode cX7_reach 4 = .ok (.iconst 0, 1) := by decide +kernel
theorem dX7_reach_5 : decode cX7_reach 5 = .ok (.istore_n 3, 1) := by decide +kernel
theorem dX7_reach_6 : decode cX7_reach 6 = .ok (.iload_n 3, 1) := by decide +kernel
theorem dX7_reach_7 : decode cX7_reach 7 = .ok (.bipush 16, 2) := by decide +kernel
theorem dX7_reach_9 : decode cX7_reach 9 = .ok (.if_icmp .ge 20, 3) := by decide +kernel
theorem dX7_reach_12 : decode cX7_reach 12 = .ok (.iload_n 2, 1) := by decide +kernel
theorem dX7_reach_13 : decode cX7_reach 13 = .ok (.iload_n 2, 1) := by decide +kernel
theorem dX7_reach_14 : decode cX7_reach 14 = .ok (.invokestatic 18, 3) := by decide +kernel
theorem dX7_reach_17 : decode cX7_reach 17 = .ok (.iload_n 1, 1) := by decide +kernel
theorem dX7_reach_18 : decode cX7_reach 18 = .ok (.iconst (-1), 1) := by decide +kernel
theorem dX7_reach_19 : decode cX7_reach 19 = .ok (.ixor, 1) := by decide +kernel
theorem dX7_reach_20 : decode cX7_reach 20 = .ok (.iand, 1) := by decide +kernel
theorem dX7_reach_21 : decode cX7_reach 21 = .ok (.ior, 1) := by decide +kernel
theorem dX7_reach_22 : decode cX7_reach 22 = .ok (.istore_n 2, 1) := by decide +kernel
theorem dX7_reach_23 : decode cX7_reach 23 = .ok (.iinc 3 1, 3) := by decide +kernel
theorem dX7_reach_26 : decode cX7_reach 26 = .ok (.goto (-20), 3) := by decide +kernel
theorem dX7_reach_29 : decode cX7_reach 29 = .ok (.iload_n 2, 1) := by decide +kernel
theorem dX7_reach_30 : decode cX7_reach 30 = .ok (.ireturn, 1) := by decide +kernel
theorem dX8_init_0 : decode cX8_init 0 = .ok (.aload_n 0, 1) := by decide +kernel
theorem dX8_init_1 : decode cX8_init 1 = .ok (.invokespecial 3, 3) := by decide +kernel
theorem dX8_init_4 : decode cX8_init 4 = .ok (.aload_n 0, 1) := by decide +kernel
theorem dX8_init_5 : decode cX8_init 5 = .ok (.new 9, 3) := by decide +kernel
theorem dX8_init_8 : decode cX8_init 8 = .ok (.dup, 1) := by decide +kernel
theorem dX8_init_9 : decode cX8_init 9 = .ok (.invokespecial 11, 3) := by decide +kernel
theorem dX8_init_12 : decode cX8_init 12 = .ok (.putfield 12, 3) := by decide +kernel
theorem dX8_init_15 : decode cX8_init 15 = .ok (.aload_n 0, 1) := by decide +kernel
theorem dX8_init_16 : decode cX8_init 16 = .ok (.new 9, 3) := by decide +kernel
theorem dX8_init_19 : decode cX8_init 19 = .ok (.dup, 1) := by decide +kernel
theorem dX8_init_20 : decode cX8_init 20 = .ok (.invokespecial 11, 3) := by decide +kernel
theorem dX8_init_23 : decode cX8_init 23 = .ok (.putfield 18, 3) := by decide +kernel
theorem dX8_init_26 : decode cX8_init 26 = .ok (.aload_n 0, 1) := by decide +kernel
theorem dX8_init_27 : decode cX8_init 27 = .ok (.new 21, 3) := by decide +kernel
theorem dX8_init_30 : decode cX8_init 30 = .ok (.dup, 1) := by decide +kernel
theorem dX8_init_31 : decode cX8_init 31 = .ok (.invokespecial 23, 3) := by decide +kernel
theorem dX8_init_34 : decode cX8_init 34 = .ok (.putfield 24, 3) := by decide +kernel
theorem dX8_init_37 : decode cX8_init 37 = .ok (.aload_n 0, 1) := by decide +kernel
theorem dX8_init_38 : decode cX8_init 38 = .ok (.new 28, 3) := by decide +kernel
theorem dX8_init_41 : decode cX8_init 41 = .ok (.dup, 1) := by decide +kernel
theorem dX8_init_42 : decode cX8_init 42 = .ok (.invokespecial 30, 3) := by decide +kernel
theorem dX8_init_45 : decode cX8_init 45 = .ok (.putfield 31, 3) := by decide +kernel
theorem dX8_init_48 : decode cX8_init 48 = .ok (.aload_n 0, 1) := by decide +kernel
theorem dX8_init_49 : decode cX8_init 49 = .ok (.bipush 6, 2) := by decide +kernel
theorem dX8_init_51 : decode cX8_init 51 = .ok (.anewarray 35, 3) := by decide +kernel
theorem dX8_init_54 : decode cX8_init 54 = .ok (.putfield 37, 3) := by decide +kernel
theorem dX8_init_57 : decode cX8_init 57 = .ok (.new 41, 3) := by decide +kernel
theorem dX8_init_60 : decode cX8_init 60 = .ok (.dup, 1) := by decide +kernel
theorem dX8_init_61 : decode cX8_init 61 = .ok (.iconst 0, 1) := by decide +kernel
theorem dX8_init_62 : decode cX8_init 62 = .ok (.newarray .int, 2) := by decide +kernel
theorem dX8_init_64 : decode cX8_init 64 = .ok (.iconst 0, 1) := by decide +kernel
theorem dX8_init_65 : decode cX8_init 65 = .ok (.invokespecial 43, 3) := by decide +kernel
theorem dX8_init_68 : decode cX8_init 68 = .ok (.astore_n 1, 1) := by decide +kernel
theorem dX8_init_69 : decode cX8_init 69 = .ok (.aload_n 0, 1) := by decide +kernel
theorem dX8_init_70 : decode cX8_init 70 = .ok (.new 46, 3) := by decide +kernel
theorem dX8_init_73 : decode cX8_init 73 = .ok (.dup, 1) := by decide +kernel
theorem dX8_init_74 : decode cX8_init 74 = .ok (.aload_n 1, 1) := by decide +kernel
theorem dX8_init_75 : decode cX8_init 75 = .ok (.invokespecial 48, 3) := by decide +kernel
theorem dX8_init_78 : decode cX8_init 78 = .ok (.putfield 51, 3) := by decide +kernel
theorem dX8_init_81 : decode cX8_init 81 = .ok (.aload_n 0, 1) := by decide +kernel
theorem dX8_init_82 : decode cX8_init 82 = .ok (.new 46, 3) := by decide +kernel
theorem dX8_init_85 : decode cX8_init 85 = .ok (.dup, 1) := by decide +kernel
theorem dX8_init_86 : decode cX8_init 86 = .ok (.aload_n 1, 1) := by decide +kernel
theorem dX8_init_87 : decode cX8_init 87 = .ok (.invokespecial 48, 3) := by decide +kernel
theorem dX8_init_90 : decode cX8_init 90 = .ok (.putfield 55, 3) := by decide +kernel
theorem dX8_init_93 : decode cX8_init 93 = .ok (.aload_n 0, 1) := by decide +kernel
theorem dX8_init_94 : decode cX8_init 94 = .ok (.new 46, 3) := by decide +kernel
theorem dX8_init_97 : decode cX8_init 97 = .ok (.dup, 1) := by decide +kernel
theorem dX8_init_98 : decode cX8_init 98 = .ok (.aload_n 1, 1) := by decide +kernel
theorem dX8_init_99 : decode cX8_init 99 = .ok (.invokespecial 48, 3) := by decide +kernel
theorem dX8_init_102 : decode cX8_init 102 = .ok (.putfield 58, 3) := by decide +kernel
theorem dX8_init_105 : decode cX8_init 105 = .ok (.iconst 0, 1) := by decide +kernel
theorem dX8_init_106 : decode cX8_init 106 = .ok (.istore_n 2, 1) := by decide +kernel
theorem dX8_init_107 : decode cX8_init 107 = .ok (.iload_n 2, 1) := by decide +kernel
theorem dX8_init_108 : decode cX8_init 108 = .ok (.bipush 6, 2) := by decide +kernel
theorem dX8_init_110 : decode cX8_init 110 = .ok (.if_icmp .ge 22, 3) := by decide +kernel
theorem dX8_init_113 : decode cX8_init 113 = .ok (.aload_n 0, 1) := by decide +kernel
theorem dX8_init_114 : decode cX8_init 114 = .ok (.getfield 37, 3) := by decide +kernel
theorem dX8_init_117 : decode cX8_init 117 = .ok (.iload_n 2, 1) := by decide +kernel
theorem dX8_init_118 : decode cX8_init 118 = .ok (.new 35, 3) := by decide +kernel
theorem dX8_init_121 : decode cX8_init 121 = .ok (.dup, 1) := by decide +kernel
theorem dX8_init_122 : decode cX8_init 122 = .ok (.invokespecial 61, 3) := by decide +kernel
theorem dX8_init_125 : decode cX8_init 125 = .ok (.aastore, 1) := by decide +kernel
theorem dX8_init_126 : decode cX8_init 126 = .ok (.iinc 2 1, 3) := by decide +kernel
theorem dX8_init_129 : decode cX8_init 129 = .ok (.goto (-22), 3) := by decide +kernel
theorem dX8_init_132 : decode cX8_init 132 = .ok (.return_, 1) := by decide +kernel
theorem dX8_traveller_0 : decode cX8_traveller 0 = .ok (.iload_n 1, 1) := by decide +kernel
theorem dX8_traveller_1 : decode cX8_traveller 1 = .ok (.ifCond .lt 16, 3) := by decide +kernel
theorem dX8_traveller_4 : decode cX8_traveller 4 = .ok (.iload_n 1, 1) := by decide +kernel
theorem dX8_traveller_5 : decode cX8_traveller 5 = .ok (.bipush 7, 2) := by decide +kernel
theorem dX8_traveller_7 : decode cX8_traveller 7 = .ok (.if_icmp .ge 10, 3) := by decide +kernel
theorem dX8_traveller_10 : decode cX8_traveller 10 = .ok (.iload_n 3, 1) := by decide +kernel
theorem dX8_traveller_11 : decode cX8_traveller 11 = .ok (.invokestatic 62, 3) := by decide +kernel
theorem dX8_traveller_14 : decode cX8_traveller 14 = .ok (.ifCond .ne 5, 3) := by decide +kernel
theorem dX8_traveller_17 : decode cX8_traveller 17 = .ok (.iconst (-1), 1) := by decide +kernel
theorem dX8_traveller_18 : decode cX8_traveller 18 = .ok (.ireturn, 1) := by decide +kernel
theorem dX8_traveller_19 : decode cX8_traveller 19 = .ok (.iload_n 2, 1) := by decide +kernel
theorem dX8_traveller_20 : decode cX8_traveller 20 = .ok (.ifCond .lt 9, 3) := by decide +kernel
theorem dX8_traveller_23 : decode cX8_traveller 23 = .ok (.iload_n 2, 1) := by decide +kernel
theorem dX8_traveller_24 : decode cX8_traveller 24 = .ok (.bipush 10, 2) := by decide +kernel
theorem dX8_traveller_26 : decode cX8_traveller 26 = .ok (.if_icmp .lt 6, 3) := by decide +kernel
theorem dX8_traveller_29 : decode cX8_traveller 29 = .ok (.bipush (-2), 2) := by decide +kernel
theorem dX8_traveller_31 : decode cX8_traveller 31 = .ok (.ireturn, 1) := by decide +kernel
theorem dX8_traveller_32 : decode cX8_traveller 32 = .ok (.aload_n 0, 1) := by decide +kernel
theorem dX8_traveller_33 : decode cX8_traveller 33 = .ok (.getfield 51, 3) := by decide +kernel
theorem dX8_traveller_36 : decode cX8_traveller 36 = .ok (.getfield 66, 3) := by decide +kernel
theorem dX8_traveller_39 : decode cX8_traveller 39 = .ok (.bipush 6, 2) := by decide +kernel
theorem dX8_traveller_41 : decode cX8_traveller 41 = .ok (.if_icmp .lt 6, 3) := by decide +kernel
theorem dX8_traveller_44 : decode cX8_traveller 44 = .ok (.bipush (-4), 2) := by decide +kernel
theorem dX8_traveller_46 : decode cX8_traveller 46 = .ok (.ireturn, 1) := by decide +kernel
theorem dX8_traveller_47 : decode cX8_traveller 47 = .ok (.aload_n 0, 1) := by decide +kernel
theorem dX8_traveller_48 : decode cX8_traveller 48 = .ok (.getfield 51, 3) := by decide +kernel
theorem dX8_traveller_51 : decode cX8_traveller 51 = .ok (.iload_n 1, 1) := by decide +kernel
theorem dX8_traveller_52 : decode cX8_traveller 52 = .ok (.iload_n 2, 1) := by decide +kernel
theorem dX8_traveller_53 : decode cX8_traveller 53 = .ok (.iload_n 3, 1) := by decide +kernel
theorem dX8_traveller_54 : decode cX8_traveller 54 = .ok (.invokevirtual 70, 3) := by decide +kernel
theorem dX8_traveller_57 : decode cX8_traveller 57 = .ok (.ireturn, 1) := by decide +kernel
theorem dX8_of_0 : decode cX8_of 0 = .ok (.aload_n 0, 1) := by decide +kernel
theorem dX8_of_1 : decode cX8_of 1 = .ok (.iload_n 1, 1) := by decide +kernel
theorem dX8_of_2 : decode cX8_of 2 = .ok (.invokevirtual 74, 3) := by decide +kernel
theorem dX8_of_5 : decode cX8_of 5 = .ok (.ifCond .ne 5, 3) := by decide +kernel
theorem dX8_of_8 : decode cX8_of 8 = .ok (.iconst (-1), 1) := by decide +kernel
theorem dX8_of_9 : decode cX8_of 9 = .ok (.ireturn, 1) := by decide +kernel
theorem dX8_of_10 : decode cX8_of 10 = .ok (.iload_n 2, 1) := by decide +kernel
theorem dX8_of_11 : decode cX8_of 11 = .ok (.tableswitch 153 0 10 #[57, 67, 77, 87, 100, 110, 120, 126, 135, 141, 147], 57) := by decide +kernel
theorem dX8_of_68 : decode cX8_of 68 = .ok (.aload_n 0, 1) := by decide +kernel
theorem dX8_of_69 : decode cX8_of 69 = .ok (.getfield 51, 3) := by decide +kernel
theorem dX8_of_72 : decode cX8_of 72 = .ok (.getfield 77, 3) := by decide +kernel
theorem dX8_of_75 : decode cX8_of 75 = .ok (.iload_n 1, 1) := by decide +kernel
theorem dX8_of_76 : decode cX8_of 76 = .ok (.iaload, 1) := by decide +kernel
theorem dX8_of_77 : decode cX8_of 77 = .ok (.ireturn, 1) := by decide +kernel
theorem dX8_of_78 : decode cX8_of 78 = .ok (.aload_n 0, 1) := by decide +kernel
theorem dX8_of_79 : decode cX8_of 79 = .ok (.getfield 51, 3) := by decide +kernel
theorem dX8_of_82 : decode cX8_of 82 = .ok (.getfield 81, 3) := by decide +kernel
theorem dX8_of_85 : decode cX8_of 85 = .ok (.iload_n 1, 1) := by decide +kernel
theorem dX8_of_86 : decode cX8_of 86 = .ok (.iaload, 1) := by decide +kernel
theorem dX8_of_87 : decode cX8_of 87 = .ok (.ireturn, 1) := by decide +kernel
theorem dX8_of_88 : decode cX8_of 88 = .ok (.aload_n 0, 1) := by decide +kernel
theorem dX8_of_89 : decode cX8_of 89 = .ok (.getfield 51, 3) := by decide +kernel
theorem dX8_of_92 : decode cX8_of 92 = .ok (.getfield 84, 3) := by decide +kernel
theorem dX8_of_95 : decode cX8_of 95 = .ok (.iload_n 1, 1) := by decide +kernel
theorem dX8_of_96 : decode cX8_of 96 = .ok (.iaload, 1) := by decide +kernel
theorem dX8_of_97 : decode cX8_of 97 = .ok (.ireturn, 1) := by decide +kernel
theorem dX8_of_98 : decode cX8_of 98 = .ok (.aload_n 0, 1) := by decide +kernel
theorem dX8_of_99 : decode cX8_of 99 = .ok (.getfield 51, 3) := by decide +kernel
theorem dX8_of_102 : decode cX8_of 102 = .ok (.getfield 87, 3) := by decide +kernel
theorem dX8_of_105 : decode cX8_of 105 = .ok (.iload_n 1, 1) := by decide +kernel
theorem dX8_of_106 : decode cX8_of 106 = .ok (.iaload, 1) := by decide +kernel
theorem dX8_of_107 : decode cX8_of 107 = .ok (.invokestatic 90, 3) := by decide +kernel
theorem dX8_of_110 : decode cX8_of 110 = .ok (.ireturn, 1) := by decide +kernel
theorem dX8_of_111 : decode cX8_of 111 = .ok (.aload_n 0, 1) := by decide +kernel
theorem dX8_of_112 : decode cX8_of 112 = .ok (.getfield 51, 3) := by decide +kernel
theorem dX8_of_115 : decode cX8_of 115 = .ok (.getfield 94, 3) := by decide +kernel
theorem dX8_of_118 : decode cX8_of 118 = .ok (.iload_n 1, 1) := by decide +kernel
theorem dX8_of_119 : decode cX8_of 119 = .ok (.iaload, 1) := by decide +kernel
theorem dX8_of_120 : decode cX8_of 120 = .ok (.ireturn, 1) := by decide +kernel
theorem dX8_of_121 : decode cX8_of 121 = .ok (.aload_n 0, 1) := by decide +kernel
theorem dX8_of_122 : decode cX8_of 122 = .ok (.getfield 51, 3) := by decide +kernel
theorem dX8_of_125 : decode cX8_of 125 = .ok (.getfield 97, 3) := by decide +kernel
theorem dX8_of_128 : decode cX8_of 128 = .ok (.iload_n 1, 1) := by decide +kernel
theorem dX8_of_129 : decode cX8_of 129 = .ok (.iaload, 1) := by decide +kernel
theorem dX8_of_130 : decode cX8_of 130 = .ok (.ireturn, 1) := by decide +kernel
theorem dX8_of_131 : decode cX8_of 131 = .ok (.aload_n 0, 1) := by decide +kernel
theorem dX8_of_132 : decode cX8_of 132 = .ok (.iload_n 1, 1) := by decide +kernel
theorem dX8_of_133 : decode cX8_of 133 = .ok (.invokevirtual 100, 3) := by decide +kernel
theorem dX8_of_136 : decode cX8_of 136 = .ok (.ireturn, 1) := by decide +kernel
theorem dX8_of_137 : decode cX8_of 137 = .ok (.aload_n 0, 1) := by decide +kernel
theorem dX8_of_138 : decode cX8_of 138 = .ok (.getfield 51, 3) := by decide +kernel
theorem dX8_of_141 : decode cX8_of 141 = .ok (.iload_n 1, 1) := by decide +kernel
theorem dX8_of_142 : decode cX8_of 142 = .ok (.invokevirtual 103, 3) := by decide +kernel
theorem dX8_of_145 : decode cX8_of 145 = .ok (.ireturn, 1) := by decide +kernel
theorem dX8_of_146 : decode cX8_of 146 = .ok (.aload_n 0, 1) := by decide +kernel
theorem dX8_of_147 : decode cX8_of 147 = .ok (.iload_n 1, 1) := by decide +kernel
theorem dX8_of_148 : decode cX8_of 148 = .ok (.invokevirtual 106, 3) := by decide +kernel
theorem dX8_of_151 : decode cX8_of 151 = .ok (.ireturn, 1) := by decide +kernel
theorem dX8_of_152 : decode cX8_of 152 = .ok (.aload_n 0, 1) := by decide +kernel
theorem dX8_of_153 : decode cX8_of 153 = .ok (.iload_n 1, 1) := by decide +kernel
theorem dX8_of_154 : decode cX8_of 154 = .ok (.invokevirtual 109, 3) := by decide +kernel
theorem dX8_of_157 : decode cX8_of 157 = .ok (.ireturn, 1) := by decide +kernel
theorem dX8_of_158 : decode cX8_of 158 = .ok (.aload_n 0, 1) := by decide +kernel
theorem dX8_of_159 : decode cX8_of 159 = .ok (.iload_n 1, 1) := by decide +kernel
theorem dX8_of_160 : decode cX8_of 160 = .ok (.invokevirtual 112, 3) := by decide +kernel
theorem dX8_of_163 : decode cX8_of 163 = .ok (.ireturn, 1) := by decide +kernel
theorem dX8_of_164 : decode cX8_of 164 = .ok (.iconst (-1), 1) := by decide +kernel
theorem dX8_of_165 : decode cX8_of 165 = .ok (.ireturn, 1) := by decide +kernel
theorem dX8_welcome_0 : decode cX8_welcome 0 = .ok (.aload_n 0, 1) := by decide +kernel
theorem dX8_welcome_1 : decode cX8_welcome 1 = .ok (.iload_n 1, 1) := by decide +kernel
theorem dX8_welcome_2 : decode cX8_welcome 2 = .ok (.invokevirtual 74, 3) := by decide +kernel
theorem dX8_welcome_5 : decode cX8_welcome 5 = .ok (.ifCond .eq 10, 3) := by decide +kernel
theorem dX8_welcome_8 : decode cX8_welcome 8 = .ok (.iload_n 2, 1) := by decide +kernel
theorem dX8_welcome_9 : decode cX8_welcome 9 = .ok (.invokestatic 62, 3) := by decide +kernel
theorem dX8_welcome_12 : decode cX8_welcome 12 = .ok (.ifCond .ne 7, 3) := by decide +kernel
theorem dX8_welcome_15 : decode cX8_welcome 15 = .ok (.sipush (-10001), 3) := by decide +kernel
theorem dX8_welcome_18 : decode cX8_welcome 18 = .ok (.ireturn, 1) := by decide +kernel
theorem dX8_welcome_19 : decode cX8_welcome 19 = .ok (.aload_n 0, 1) := by decide +kernel
theorem dX8_welcome_20 : decode cX8_welcome 20 = .ok (.getfield 51, 3) := by decide +kernel
theorem dX8_welcome_23 : decode cX8_welcome 23 = .ok (.iload_n 1, 1) := by decide +kernel
theorem dX8_welcome_24 : decode cX8_welcome 24 = .ok (.iload_n 2, 1) := by decide +kernel
theorem dX8_welcome_25 : decode cX8_welcome 25 = .ok (.invokevirtual 115, 3) := by decide +kernel
theorem dX8_welcome_28 : decode cX8_welcome 28 = .ok (.ireturn, 1) := by decide +kernel
theorem dX8_goal_0 : decode cX8_goal 0 = .ok (.aload_n 0, 1) := by decide +kernel
theorem dX8_goal_1 : decode cX8_goal 1 = .ok (.iload_n 1, 1) := by decide +kernel
theorem dX8_goal_2 : decode cX8_goal 2 = .ok (.invokevirtual 74, 3) := by decide +kernel
theorem dX8_goal_5 : decode cX8_goal 5 = .ok (.ifCond .eq 15, 3) := by decide +kernel
theorem dX8_goal_8 : decode cX8_goal 8 = .ok (.iload_n 2, 1) := by decide +kernel
theorem dX8_goal_9 : decode cX8_goal 9 = .ok (.iconst (-1), 1) := by decide +kernel
theorem dX8_goal_10 : decode cX8_goal 10 = .ok (.if_icmp .eq 12, 3) := by decide +kernel
theorem dX8_goal_13 : decode cX8_goal 13 = .ok (.iload_n 2, 1) := by decide +kernel
theorem dX8_goal_14 : decode cX8_goal 14 = .ok (.invokestatic 62, 3) := by decide +kernel
theorem dX8_goal_17 : decode cX8_goal 17 = .ok (.ifCond .ne 5, 3) := by decide +kernel
theorem dX8_goal_20 : decode cX8_goal 20 = .ok (.iconst (-1), 1) := by decide +kernel
theorem dX8_goal_21 : decode cX8_goal 21 = .ok (.ireturn, 1) := by decide +kernel
theorem dX8_goal_22 : decode cX8_goal 22 = .ok (.aload_n 0, 1) := by decide +kernel
theorem dX8_goal_23 : decode cX8_goal 23 = .ok (.getfield 51, 3) := by decide +kernel
theorem dX8_goal_26 : decode cX8_goal 26 = .ok (.getfield 87, 3) := by decide +kernel
theorem dX8_goal_29 : decode cX8_goal 29 = .ok (.iload_n 1, 1) := by decide +kernel
theorem dX8_goal_30 : decode cX8_goal 30 = .ok (.iaload, 1) := by decide +kernel
theorem dX8_goal_31 : decode cX8_goal 31 = .ok (.istore_n 3, 1) := by decide +kernel
theorem dX8_goal_32 : decode cX8_goal 32 = .ok (.aload_n 0, 1) := by decide +kernel
theorem dX8_goal_33 : decode cX8_goal 33 = .ok (.getfield 51, 3) := by decide +kernel
theorem dX8_goal_36 : decode cX8_goal 36 = .ok (.getfield 87, 3) := by decide +kernel
theorem dX8_goal_39 : decode cX8_goal 39 = .ok (.iload_n 1, 1) := by decide +kernel
theorem dX8_goal_40 : decode cX8_goal 40 = .ok (.iload_n 2, 1) := by decide +kernel
theorem dX8_goal_41 : decode cX8_goal 41 = .ok (.iastore, 1) := by decide +kernel
theorem dX8_goal_42 : decode cX8_goal 42 = .ok (.iload_n 3, 1) := by decide +kernel
theorem dX8_goal_43 : decode cX8_goal 43 = .ok (.invokestatic 90, 3) := by decide +kernel
theorem dX8_goal_46 : decode cX8_goal 46 = .ok (.ireturn, 1) := by decide +kernel
theorem dX8_put_0 : decode cX8_put 0 = .ok (.aload_n 0, 1) := by decide +kernel
theorem dX8_put_1 : decode cX8_put 1 = .ok (.iload_n 1, 1) := by decide +kernel
theorem dX8_put_2 : decode cX8_put 2 = .ok (.invokevirtual 74, 3) := by decide +kernel
theorem dX8_put_5 : decode cX8_put 5 = .ok (.ifCond .eq 10, 3) := by decide +kernel
theorem dX8_put_8 : decode cX8_put 8 = .ok (.iload_n 2, 1) := by decide +kernel
theorem dX8_put_9 : decode cX8_put 9 = .ok (.invokestatic 62, 3) := by decide +kernel
theorem dX8_put_12 : decode cX8_put 12 = .ok (.ifCond .ne 5, 3) := by decide +kernel
theorem dX8_put_15 : decode cX8_put 15 = .ok (.iconst (-1), 1) := by decide +kernel
theorem dX8_put_16 : decode cX8_put 16 = .ok (.ireturn, 1) := by decide +kernel
theorem dX8_put_17 : decode cX8_put 17 = .ok (.aload_n 0, 1) := by decide +kernel
theorem dX8_put_18 : decode cX8_put 18 = .ok (.getfield 51, 3) := by decide +kernel
theorem dX8_put_21 : decode cX8_put 21 = .ok (.getfield 84, 3) := by decide +kernel
theorem dX8_put_24 : decode cX8_put 24 = .ok (.iload_n 1, 1) := by decide +kernel
theorem dX8_put_25 : decode cX8_put 25 = .ok (.iaload, 1) := by decide +kernel
theorem dX8_put_26 : decode cX8_put 26 = .ok (.istore_n 3, 1) := by decide +kernel
theorem dX8_put_27 : decode cX8_put 27 = .ok (.aload_n 0, 1) := by decide +kernel
theorem dX8_put_28 : decode cX8_put 28 = .ok (.getfield 51, 3) := by decide +kernel
theorem dX8_put_31 : decode cX8_put 31 = .ok (.getfield 84, 3) := by decide +kernel
theorem dX8_put_34 : decode cX8_put 34 = .ok (.iload_n 1, 1) := by decide +kernel
theorem dX8_put_35 : decode cX8_put 35 = .ok (.iload_n 2, 1) := by decide +kernel
theorem dX8_put_36 : decode cX8_put 36 = .ok (.iastore, 1) := by decide +kernel
theorem dX8_put_37 : decode cX8_put 37 = .ok (.iload_n 3, 1) := by decide +kernel
theorem dX8_put_38 : decode cX8_put 38 = .ok (.ireturn, 1) := by decide +kernel
theorem dX8_chart_0 : decode cX8_chart 0 = .ok (.aload_n 0, 1) := by decide +kernel
theorem dX8_chart_1 : decode cX8_chart 1 = .ok (.iload_n 1, 1) := by decide +kernel
theorem dX8_chart_2 : decode cX8_chart 2 = .ok (.invokevirtual 74, 3) := by decide +kernel
theorem dX8_chart_5 : decode cX8_chart 5 = .ok (.ifCond .ne 5, 3) := by decide +kernel
theorem dX8_chart_8 : decode cX8_chart 8 = .ok (.iconst (-1), 1) := by decide +kernel
theorem dX8_chart_9 : decode cX8_chart 9 = .ok (.ireturn, 1) := by decide +kernel
theorem dX8_chart_10 : decode cX8_chart 10 = .ok (.iload_n 2, 1) := by decide +kernel
theorem dX8_chart_11 : decode cX8_chart 11 = .ok (.invokestatic 119, 3) := by decide +kernel
theorem dX8_chart_14 : decode cX8_chart 14 = .ok (.ifCond .ne 6, 3) := by decide +kernel
theorem dX8_chart_17 : decode cX8_chart 17 = .ok (.bipush (-2), 2) := by decide +kernel
theorem dX8_chart_19 : decode cX8_chart 19 = .ok (.ireturn, 1) := by decide +kernel
theorem dX8_chart_20 : decode cX8_chart 20 = .ok (.aload_n 0, 1) := by decide +kernel
theorem dX8_chart_21 : decode cX8_chart 21 = .ok (.getfield 51, 3) := by decide +kernel
theorem dX8_chart_24 : decode cX8_chart 24 = .ok (.getfield 94, 3) := by decide +kernel
theorem dX8_chart_27 : decode cX8_chart 27 = .ok (.iload_n 1, 1) := by decide +kernel
theorem dX8_chart_28 : decode cX8_chart 28 = .ok (.iaload, 1) := by decide +kernel
theorem dX8_chart_29 : decode cX8_chart 29 = .ok (.istore_n 3, 1) := by decide +kernel
theorem dX8_chart_30 : decode cX8_chart 30 = .ok (.aload_n 0, 1) := by decide +kernel
theorem dX8_chart_31 : decode cX8_chart 31 = .ok (.getfield 51, 3) := by decide +kernel
theorem dX8_chart_34 : decode cX8_chart 34 = .ok (.getfield 94, 3) := by decide +kernel
theorem dX8_chart_37 : decode cX8_chart 37 = .ok (.iload_n 1, 1) := by decide +kernel
theorem dX8_chart_38 : decode cX8_chart 38 = .ok (.iload_n 2, 1) := by decide +kernel
theorem dX8_chart_39 : decode cX8_chart 39 = .ok (.iastore, 1) := by decide +kernel
theorem dX8_chart_40 : decode cX8_chart 40 = .ok (.iload_n 3, 1) := by decide +kernel
theorem dX8_chart_41 : decode cX8_chart 41 = .ok (.ireturn, 1) := by decide +kernel
theorem dX8_gate_0 : decode cX8_gate 0 = .ok (.iload_n 1, 1) := by decide +kernel
theorem dX8_gate_1 : decode cX8_gate 1 = .ok (.invokestatic 62, 3) := by decide +kernel
theorem dX8_gate_4 : decode cX8_gate 4 = .ok (.ifCond .ne 5, 3) := by decide +kernel
theorem dX8_gate_7 : decode cX8_gate 7 = .ok (.iconst (-1), 1) := by decide +kernel
theorem dX8_gate_8 : decode cX8_gate 8 = .ok (.ireturn, 1) := by decide +kernel
theorem dX8_gate_9 : decode cX8_gate 9 = .ok (.iload_n 2, 1) := by decide +kernel
theorem dX8_gate_10 : decode cX8_gate 10 = .ok (.ifCond .lt 9, 3) := by decide +kernel
theorem dX8_gate_13 : decode cX8_gate 13 = .ok (.iload_n 2, 1) := by decide +kernel
theorem dX8_gate_14 : decode cX8_gate 14 = .ok (.bipush 10, 2) := by decide +kernel
theorem dX8_gate_16 : decode cX8_gate 16 = .ok (.if_icmp .lt 6, 3) := by decide +kernel
theorem dX8_gate_19 : decode cX8_gate 19 = .ok (.bipush (-2), 2) := by decide +kernel
theorem dX8_gate_21 : decode cX8_gate 21 = .ok (.ireturn, 1) := by decide +kernel
theorem dX8_gate_22 : decode cX8_gate 22 = .ok (.aload_n 0, 1) := by decide +kernel
theorem dX8_gate_23 : decode cX8_gate 23 = .ok (.getfield 51, 3) := by decide +kernel
theorem dX8_gate_26 : decode cX8_gate 26 = .ok (.getfield 122, 3) := by decide +kernel
theorem dX8_gate_29 : decode cX8_gate 29 = .ok (.iload_n 1, 1) := by decide +kernel
theorem dX8_gate_30 : decode cX8_gate 30 = .ok (.iaload, 1) := by decide +kernel
theorem dX8_gate_31 : decode cX8_gate 31 = .ok (.istore_n 3, 1) := by decide +kernel
theorem dX8_gate_32 : decode cX8_gate 32 = .ok (.aload_n 0, 1) := by decide +kernel
theorem dX8_gate_33 : decode cX8_gate 33 = .ok (.getfield 51, 3) := by decide +kernel
theorem dX8_gate_36 : decode cX8_gate 36 = .ok (.getfield 122, 3) := by decide +kernel
theorem dX8_gate_39 : decode cX8_gate 39 = .ok (.iload_n 1, 1) := by decide +kernel
theorem dX8_gate_40 : decode cX8_gate 40 = .ok (.iload_n 2, 1) := by decide +kernel
theorem dX8_gate_41 : decode cX8_gate 41 = .ok (.iastore, 1) := by decide +kernel
theorem dX8_gate_42 : decode cX8_gate 42 = .ok (.iload_n 3, 1) := by decide +kernel
theorem dX8_gate_43 : decode cX8_gate 43 = .ok (.ireturn, 1) := by decide +kernel
theorem dX8_row_0 : decode cX8_row 0 = .ok (.aload_n 0, 1) := by decide +kernel
theorem dX8_row_1 : decode cX8_row 1 = .ok (.iload_n 1, 1) := by decide +kernel
theorem dX8_row_2 : decode cX8_row 2 = .ok (.invokevirtual 74, 3) := by decide +kernel
theorem dX8_row_5 : decode cX8_row 5 = .ok (.ifCond .eq 12, 3) := by decide +kernel
theorem dX8_row_8 : decode cX8_row 8 = .ok (.iload_n 2, 1) := by decide +kernel
theorem dX8_row_9 : decode cX8_row 9 = .ok (.ifCond .lt 8, 3) := by decide +kernel
theorem dX8_row_12 : decode cX8_row 12 = .ok (.iload_n 2, 1) := by decide +kernel
theorem dX8_row_13 : decode cX8_row 13 = .ok (.iconst 4, 1) := by decide +kernel
theorem dX8_row_14 : decode cX8_row 14 = .ok (.if_icmp .lt 5, 3) := by decide +kernel
theorem dX8_row_17 : decode cX8_row 17 = .ok (.iconst (-1), 1) := by decide +kernel
theorem dX8_row_18 : decode cX8_row 18 = .ok (.ireturn, 1) := by decide +kernel
theorem dX8_row_19 : decode cX8_row 19 = .ok (.iload_n 3, 1) := by decide +kernel
theorem dX8_row_20 : decode cX8_row 20 = .ok (.ifCond .lt 9, 3) := by decide +kernel
theorem dX8_row_23 : decode cX8_row 23 = .ok (.iload_n 3, 1) := by decide +kernel
theorem dX8_row_24 : decode cX8_row 24 = .ok (.bipush 10, 2) := by decide +kernel
theorem dX8_row_26 : decode cX8_row 26 = .ok (.if_icmp .lt 6, 3) := by decide +kernel
theorem dX8_row_29 : decode cX8_row 29 = .ok (.bipush (-2), 2) := by decide +kernel
theorem dX8_row_31 : decode cX8_row 31 = .ok (.ireturn, 1) := by decide +kernel
theorem dX8_row_32 : decode cX8_row 32 = .ok (.aload_n 0, 1) := by decide +kernel
theorem dX8_row_33 : decode cX8_row 33 = .ok (.getfield 51, 3) := by decide +kernel
theorem dX8_row_36 : decode cX8_row 36 = .ok (.getfield 77, 3) := by decide +kernel
theorem dX8_row_39 : decode cX8_row 39 = .ok (.iload_n 1, 1) := by decide +kernel
theorem dX8_row_40 : decode cX8_row 40 = .ok (.iaload, 1) := by decide +kernel
theorem dX8_row_41 : decode cX8_row 41 = .ok (.bipush 6, 2) := by decide +kernel
theorem dX8_row_43 : decode cX8_row 43 = .ok (.if_icmp .eq 6, 3) := by decide +kernel
theorem dX8_row_46 : decode cX8_row 46 = .ok (.bipush (-3), 2) := by decide +kernel
theorem dX8_row_48 : decode cX8_row 48 = .ok (.ireturn, 1) := by decide +kernel
theorem dX8_row_49 : decode cX8_row 49 = .ok (.iconst 4, 1) := by decide +kernel
theorem dX8_row_50 : decode cX8_row 50 = .ok (.iload_n 1, 1) := by decide +kernel
theorem dX8_row_51 : decode cX8_row 51 = .ok (.imul, 1) := by decide +kernel
theorem dX8_row_52 : decode cX8_row 52 = .ok (.iload_n 2, 1) := by decide +kernel
theorem dX8_row_53 : decode cX8_row 53 = .ok (.iadd, 1) := by decide +kernel
theorem dX8_row_54 : decode cX8_row 54 = .ok (.istore 4, 2) := by decide +kernel
theorem dX8_row_56 : decode cX8_row 56 = .ok (.aload_n 0, 1) := by decide +kernel
theorem dX8_row_57 : decode cX8_row 57 = .ok (.getfield 51, 3) := by decide +kernel
theorem dX8_row_60 : decode cX8_row 60 = .ok (.getfield 125, 3) := by decide +kernel
theorem dX8_row_63 : decode cX8_row 63 = .ok (.iload 4, 2) := by decide +kernel
theorem dX8_row_65 : decode cX8_row 65 = .ok (.iaload, 1) := by decide +kernel
theorem dX8_row_66 : decode cX8_row 66 = .ok (.istore 5, 2) := by decide +kernel
theorem dX8_row_68 : decode cX8_row 68 = .ok (.aload_n 0, 1) := by decide +kernel
theorem dX8_row_69 : decode cX8_row 69 = .ok (.getfield 51, 3) := by decide +kernel
theorem dX8_row_72 : decode cX8_row 72 = .ok (.getfield 125, 3) := by decide +kernel
theorem dX8_row_75 : decode cX8_row 75 = .ok (.iload 4, 2) := by decide +kernel
theorem dX8_row_77 : decode cX8_row 77 = .ok (.iload_n 3, 1) := by decide +kernel
theorem dX8_row_78 : decode cX8_row 78 = .ok (.iastore, 1) := by decide +kernel
theorem dX8_row_79 : decode cX8_row 79 = .ok (.iload 5, 2) := by decide +kernel
theorem dX8_row_81 : decode cX8_row 81 = .ok (.ireturn, 1) := by decide +kernel
theorem dX8_feed_0 : decode cX8_feed 0 = .ok (.iload_n 1, 1) := by decide +kernel
theorem dX8_feed_1 : decode cX8_feed 1 = .ok (.ifCond .lt 9, 3) := by decide +kernel
theorem dX8_feed_4 : decode cX8_feed 4 = .ok (.iload_n 1, 1) := by decide +kernel
theorem dX8_feed_5 : decode cX8_feed 5 = .ok (.bipush 127, 2) := by decide +kernel
theorem dX8_feed_7 : decode cX8_feed 7 = .ok (.if_icmp .le 6, 3) := by decide +kernel
theorem dX8_feed_10 : decode cX8_feed 10 = .ok (.bipush (-2), 2) := by decide +kernel
theorem dX8_feed_12 : decode cX8_feed 12 = .ok (.ireturn, 1) := by decide +kernel
theorem dX8_feed_13 : decode cX8_feed 13 = .ok (.aload_n 0, 1) := by decide +kernel
theorem dX8_feed_14 : decode cX8_feed 14 = .ok (.getfield 24, 3) := by decide +kernel
theorem dX8_feed_17 : decode cX8_feed 17 = .ok (.getfield 128, 3) := by decide +kernel
theorem dX8_feed_20 : decode cX8_feed 20 = .ok (.bipush 100, 2) := by decide +kernel
theorem dX8_feed_22 : decode cX8_feed 22 = .ok (.if_icmp .lt 6, 3) := by decide +kernel
theorem dX8_feed_25 : decode cX8_feed 25 = .ok (.bipush (-4), 2) := by decide +kernel
theorem dX8_feed_27 : decode cX8_feed 27 = .ok (.ireturn, 1) := by decide +kernel
theorem dX8_feed_28 : decode cX8_feed 28 = .ok (.aload_n 0, 1) := by decide +kernel
theorem dX8_feed_29 : decode cX8_feed 29 = .ok (.getfield 24, 3) := by decide +kernel
theorem dX8_feed_32 : decode cX8_feed 32 = .ok (.iload_n 1, 1) := by decide +kernel
theorem dX8_feed_33 : decode cX8_feed 33 = .ok (.invokevirtual 131, 3) := by decide +kernel
theorem dX8_feed_36 : decode cX8_feed 36 = .ok (.ireturn, 1) := by decide +kernel
theorem dX8_nation_0 : decode cX8_nation 0 = .ok (.aload_n 0, 1) := by decide +kernel
theorem dX8_nation_1 : decode cX8_nation 1 = .ok (.getfield 134, 3) := by decide +kernel
theorem dX8_nation_4 : decode cX8_nation 4 = .ok (.bipush 6, 2) := by decide +kernel
theorem dX8_nation_6 : decode cX8_nation 6 = .ok (.if_icmp .lt 6, 3) := by decide +kernel
theorem dX8_nation_9 : decode cX8_nation 9 = .ok (.bipush (-4), 2) := by decide +kernel
theorem dX8_nation_11 : decode cX8_nation 11 = .ok (.ireturn, 1) := by decide +kernel
theorem dX8_nation_12 : decode cX8_nation 12 = .ok (.aload_n 0, 1) := by decide +kernel
theorem dX8_nation_13 : decode cX8_nation 13 = .ok (.getfield 24, 3) := by decide +kernel
theorem dX8_nation_16 : decode cX8_nation 16 = .ok (.invokevirtual 137, 3) := by decide +kernel
theorem dX8_nation_19 : decode cX8_nation 19 = .ok (.istore_n 1, 1) := by decide +kernel
theorem dX8_nation_20 : decode cX8_nation 20 = .ok (.aload_n 0, 1) := by decide +kernel
theorem dX8_nation_21 : decode cX8_nation 21 = .ok (.getfield 24, 3) := by decide +kernel
theorem dX8_nation_24 : decode cX8_nation 24 = .ok (.iconst 0, 1) := by decide +kernel
theorem dX8_nation_25 : decode cX8_nation 25 = .ok (.putfield 128, 3) := by decide +kernel
theorem dX8_nation_28 : decode cX8_nation 28 = .ok (.iload_n 1, 1) := by decide +kernel
theorem dX8_nation_29 : decode cX8_nation 29 = .ok (.ifCond .ne 14, 3) := by decide +kernel
theorem dX8_nation_32 : decode cX8_nation 32 = .ok (.bipush (-10), 2) := by decide +kernel
theorem dX8_nation_34 : decode cX8_nation 34 = .ok (.aload_n 0, 1) := by decide +kernel
theorem dX8_nation_35 : decode cX8_nation 35 = .ok (.getfield 24, 3) := by decide +kernel
theorem dX8_nation_38 : decode cX8_nation 38 = .ok (.getfield 141, 3) := by decide +kernel
theorem dX8_nation_41 : decode cX8_nation 41 = .ok (.isub, 1) := by decide +kernel
theorem dX8_nation_42 : decode cX8_nation 42 = .ok (.ireturn, 1) := by decide +kernel
theorem dX8_nation_43 : decode cX8_nation 43 = .ok (.aload_n 0, 1) := by decide +kernel
theorem dX8_nation_44 : decode cX8_nation 44 = .ok (.getfield 51, 3) := by decide +kernel
theorem dX8_nation_47 : decode cX8_nation 47 = .ok (.aload_n 0, 1) := by decide +kernel
theorem dX8_nation_48 : decode cX8_nation 48 = .ok (.getfield 24, 3) := by decide +kernel
theorem dX8_nation_51 : decode cX8_nation 51 = .ok (.invokevirtual 144, 3) := by decide +kernel
theorem dX8_nation_54 : decode cX8_nation 54 = .ok (.putfield 148, 3) := by decide +kernel
theorem dX8_nation_57 : decode cX8_nation 57 = .ok (.aload_n 0, 1) := by decide +kernel
theorem dX8_nation_58 : decode cX8_nation 58 = .ok (.dup, 1) := by decide +kernel
theorem dX8_nation_59 : decode cX8_nation 59 = .ok (.getfield 134, 3) := by decide +kernel
theorem dX8_nation_62 : decode cX8_nation 62 = .ok (.iconst 1, 1) := by decide +kernel
theorem dX8_nation_63 : decode cX8_nation 63 = .ok (.iadd, 1) := by decide +kernel
theorem dX8_nation_64 : decode cX8_nation 64 = .ok (.putfield 134, 3) := by decide +kernel
theorem dX8_nation_67 : decode cX8_nation 67 = .ok (.aload_n 0, 1) := by decide +kernel
theorem dX8_nation_68 : decode cX8_nation 68 = .ok (.getfield 134, 3) := by decide +kernel
theorem dX8_nation_71 : decode cX8_nation 71 = .ok (.iconst 1, 1) := by decide +kernel
theorem dX8_nation_72 : decode cX8_nation 72 = .ok (.isub, 1) := by decide +kernel
theorem dX8_nation_73 : decode cX8_nation 73 = .ok (.ireturn, 1) := by decide +kernel
theorem dX8_told_0 : decode cX8_told 0 = .ok (.iload_n 1, 1) := by decide +kernel
theorem dX8_told_1 : decode cX8_told 1 = .ok (.bipush 10, 2) := by decide +kernel
theorem dX8_told_3 : decode cX8_told 3 = .ok (.if_icmp .lt 22, 3) := by decide +kernel
theorem dX8_told_6 : decode cX8_told 6 = .ok (.iload_n 1, 1) := by decide +kernel
theorem dX8_told_7 : decode cX8_told 7 = .ok (.bipush 26, 2) := by decide +kernel
theorem dX8_told_9 : decode cX8_told 9 = .ok (.if_icmp .ge 16, 3) := by decide +kernel
theorem dX8_told_12 : decode cX8_told 12 = .ok (.aload_n 0, 1) := by decide +kernel
theorem dX8_told_13 : decode cX8_told 13 = .ok (.getfield 51, 3) := by decide +kernel
theorem dX8_told_16 : decode cX8_told 16 = .ok (.getfield 122, 3) := by decide +kernel
theorem dX8_told_19 : decode cX8_told 19 = .ok (.iload_n 1, 1) := by decide +kernel
theorem dX8_told_20 : decode cX8_told 20 = .ok (.bipush 10, 2) := by decide +kernel
theorem dX8_told_22 : decode cX8_told 22 = .ok (.isub, 1) := by decide +kernel
theorem dX8_told_23 : decode cX8_told 23 = .ok (.iaload, 1) := by decide +kernel
theorem dX8_told_24 : decode cX8_told 24 = .ok (.ireturn, 1) := by decide +kernel
theorem dX8_told_25 : decode cX8_told 25 = .ok (.iload_n 1, 1) := by decide +kernel
theorem dX8_told_26 : decode cX8_told 26 = .ok (.tableswitch 65 0 3 #[30, 38, 49, 57], 30) := by decide +kernel
theorem dX8_told_56 : decode cX8_told 56 = .ok (.aload_n 0, 1) := by decide +kernel
theorem dX8_told_57 : decode cX8_told 57 = .ok (.getfield 51, 3) := by decide +kernel
theorem dX8_told_60 : decode cX8_told 60 = .ok (.getfield 152, 3) := by decide +kernel
theorem dX8_told_63 : decode cX8_told 63 = .ok (.ireturn, 1) := by decide +kernel
theorem dX8_told_64 : decode cX8_told 64 = .ok (.aload_n 0, 1) := by decide +kernel
theorem dX8_told_65 : decode cX8_told 65 = .ok (.getfield 51, 3) := by decide +kernel
theorem dX8_told_68 : decode cX8_told 68 = .ok (.getfield 148, 3) := by decide +kernel
theorem dX8_told_71 : decode cX8_told 71 = .ok (.getfield 155, 3) := by decide +kernel
theorem dX8_told_74 : decode cX8_told 74 = .ok (.ireturn, 1) := by decide +kernel
theorem dX8_told_75 : decode cX8_told 75 = .ok (.aload_n 0, 1) := by decide +kernel
theorem dX8_told_76 : decode cX8_told 76 = .ok (.getfield 51, 3) := by decide +kernel
theorem dX8_told_79 : decode cX8_told 79 = .ok (.invokevirtual 158, 3) := by decide +kernel
theorem dX8_told_82 : decode cX8_told 82 = .ok (.ireturn, 1) := by decide +kernel
theorem dX8_told_83 : decode cX8_told 83 = .ok (.aload_n 0, 1) := by decide +kernel
theorem dX8_told_84 : decode cX8_told 84 = .ok (.getfield 51, 3) := by decide +kernel
theorem dX8_told_87 : decode cX8_told 87 = .ok (.invokevirtual 162, 3) := by decide +kernel
theorem dX8_told_90 : decode cX8_told 90 = .ok (.ireturn, 1) := by decide +kernel
theorem dX8_told_91 : decode cX8_told 91 = .ok (.iconst (-1), 1) := by decide +kernel
theorem dX8_told_92 : decode cX8_told 92 = .ok (.ireturn, 1) := by decide +kernel
theorem dX8_pass_0 : decode cX8_pass 0 = .ok (.iload_n 1, 1) := by decide +kernel
theorem dX8_pass_1 : decode cX8_pass 1 = .ok (.invokestatic 165, 3) := by decide +kernel
theorem dX8_pass_4 : decode cX8_pass 4 = .ok (.ifCond .ne 6, 3) := by decide +kernel
theorem dX8_pass_7 : decode cX8_pass 7 = .ok (.bipush (-2), 2) := by decide +kernel
theorem dX8_pass_9 : decode cX8_pass 9 = .ok (.ireturn, 1) := by decide +kernel
theorem dX8_pass_10 : decode cX8_pass 10 = .ok (.aload_n 0, 1) := by decide +kernel
theorem dX8_pass_11 : decode cX8_pass 11 = .ok (.getfield 51, 3) := by decide +kernel
theorem dX8_pass_14 : decode cX8_pass 14 = .ok (.getfield 152, 3) := by decide +kernel
theorem dX8_pass_17 : decode cX8_pass 17 = .ok (.iload_n 1, 1) := by decide +kernel
theorem dX8_pass_18 : decode cX8_pass 18 = .ok (.iadd, 1) := by decide +kernel
theorem dX8_pass_19 : decode cX8_pass 19 = .ok (.sipush 9999, 3) := by decide +kernel
theorem dX8_pass_22 : decode cX8_pass 22 = .ok (.if_icmp .le 6, 3) := by decide +kernel
theorem dX8_pass_25 : decode cX8_pass 25 = .ok (.bipush (-3), 2) := by decide +kernel
theorem dX8_pass_27 : decode cX8_pass 27 = .ok (.ireturn, 1) := by decide +kernel
theorem dX8_pass_28 : decode cX8_pass 28 = .ok (.aload_n 0, 1) := by decide +kernel
theorem dX8_pass_29 : decode cX8_pass 29 = .ok (.getfield 51, 3) := by decide +kernel
theorem dX8_pass_32 : decode cX8_pass 32 = .ok (.iload_n 1, 1) := by decide +kernel
theorem dX8_pass_33 : decode cX8_pass 33 = .ok (.sipush 9999, 3) := by decide +kernel
theorem dX8_pass_36 : decode cX8_pass 36 = .ok (.invokevirtual 168, 3) := by decide +kernel
theorem dX8_pass_39 : decode cX8_pass 39 = .ok (.aload_n 0, 1) := by decide +kernel
theorem dX8_pass_40 : decode cX8_pass 40 = .ok (.getfield 51, 3) := by decide +kernel
theorem dX8_pass_43 : decode cX8_pass 43 = .ok (.getfield 152, 3) := by decide +kernel
theorem dX8_pass_46 : decode cX8_pass 46 = .ok (.ireturn, 1) := by decide +kernel
theorem dX8_on_0 : decode cX8_on 0 = .ok (.iload_n 2, 1) := by decide +kernel
theorem dX8_on_1 : decode cX8_on 1 = .ok (.bipush 10, 2) := by decide +kernel
theorem dX8_on_3 : decode cX8_on 3 = .ok (.idiv, 1) := by decide +kernel
theorem dX8_on_4 : decode cX8_on 4 = .ok (.istore_n 3, 1) := by decide +kernel
theorem dX8_on_5 : decode cX8_on 5 = .ok (.iload_n 2, 1) := by decide +kernel
theorem dX8_on_6 : decode cX8_on 6 = .ok (.bipush 10, 2) := by decide +kernel
theorem dX8_on_8 : decode cX8_on 8 = .ok (.irem, 1) := by decide +kernel
theorem dX8_on_9 : decode cX8_on 9 = .ok (.istore 4, 2) := by decide +kernel
theorem dX8_on_11 : decode cX8_on 11 = .ok (.iload_n 3, 1) := by decide +kernel
theorem dX8_on_12 : decode cX8_on 12 = .ok (.iconst 1, 1) := by decide +kernel
theorem dX8_on_13 : decode cX8_on 13 = .ok (.if_icmp .lt 17, 3) := by decide +kernel
theorem dX8_on_16 : decode cX8_on 16 = .ok (.iload_n 3, 1) := by decide +kernel
theorem dX8_on_17 : decode cX8_on 17 = .ok (.iconst 3, 1) := by decide +kernel
theorem dX8_on_18 : decode cX8_on 18 = .ok (.if_icmp .gt 12, 3) := by decide +kernel
theorem dX8_on_21 : decode cX8_on 21 = .ok (.aload_n 0, 1) := by decide +kernel
theorem dX8_on_22 : decode cX8_on 22 = .ok (.iload 4, 2) := by decide +kernel
theorem dX8_on_24 : decode cX8_on 24 = .ok (.invokevirtual 74, 3) := by decide +kernel
theorem dX8_on_27 : decode cX8_on 27 = .ok (.ifCond .ne 5, 3) := by decide +kernel
theorem dX8_on_30 : decode cX8_on 30 = .ok (.iconst (-1), 1) := by decide +kernel
theorem dX8_on_31 : decode cX8_on 31 = .ok (.ireturn, 1) := by decide +kernel
theorem dX8_on_32 : decode cX8_on 32 = .ok (.iload_n 1, 1) := by decide +kernel
theorem dX8_on_33 : decode cX8_on 33 = .ok (.invokestatic 165, 3) := by decide +kernel
theorem dX8_on_36 : decode cX8_on 36 = .ok (.ifCond .ne 6, 3) := by decide +kernel
theorem dX8_on_39 : decode cX8_on 39 = .ok (.bipush (-2), 2) := by decide +kernel
theorem dX8_on_41 : decode cX8_on 41 = .ok (.ireturn, 1) := by decide +kernel
theorem dX8_on_42 : decode cX8_on 42 = .ok (.aload_n 0, 1) := by decide +kernel
theorem dX8_on_43 : decode cX8_on 43 = .ok (.getfield 55, 3) := by decide +kernel
theorem dX8_on_46 : decode cX8_on 46 = .ok (.aload_n 0, 1) := by decide +kernel
theorem dX8_on_47 : decode cX8_on 47 = .ok (.getfield 51, 3) := by decide +kernel
theorem dX8_on_50 : decode cX8_on 50 = .ok (.iconst 1, 1) := by decide +kernel
theorem dX8_on_51 : decode cX8_on 51 = .ok (.iload 4, 2) := by decide +kernel
theorem dX8_on_53 : decode cX8_on 53 = .ok (.ishl, 1) := by decide +kernel
theorem dX8_on_54 : decode cX8_on 54 = .ok (.invokevirtual 172, 3) := by decide +kernel
theorem dX8_on_57 : decode cX8_on 57 = .ok (.aload_n 0, 1) := by decide +kernel
theorem dX8_on_58 : decode cX8_on 58 = .ok (.getfield 55, 3) := by decide +kernel
theorem dX8_on_61 : decode cX8_on 61 = .ok (.iload_n 1, 1) := by decide +kernel
theorem dX8_on_62 : decode cX8_on 62 = .ok (.ldc 176, 2) := by decide +kernel
theorem dX8_on_64 : decode cX8_on 64 = .ok (.invokevirtual 168, 3) := by decide +kernel
theorem dX8_on_67 : decode cX8_on 67 = .ok (.iload_n 3, 1) := by decide +kernel
theorem dX8_on_68 : decode cX8_on 68 = .ok (.lookupswitch 50 #[(1, 28), (2, 39)], 28) := by decide +kernel
theorem dX8_on_96 : decode cX8_on 96 = .ok (.aload_n 0, 1) := by decide +kernel
theorem dX8_on_97 : decode cX8_on 97 = .ok (.getfield 55, 3) := by decide +kernel
theorem dX8_on_100 : decode cX8_on 100 = .ok (.getfield 84, 3) := by decide +kernel
theorem dX8_on_103 : decode cX8_on 103 = .ok (.iload 4, 2) := by decide +kernel
theorem dX8_on_105 : decode cX8_on 105 = .ok (.iaload, 1) := by decide +kernel
theorem dX8_on_106 : decode cX8_on 106 = .ok (.ireturn, 1) := by decide +kernel
theorem dX8_on_107 : decode cX8_on 107 = .ok (.aload_n 0, 1) := by decide +kernel
theorem dX8_on_108 : decode cX8_on 108 = .ok (.getfield 55, 3) := by decide +kernel
theorem dX8_on_111 : decode cX8_on 111 = .ok (.getfield 94, 3) := by decide +kernel
theorem dX8_on_114 : decode cX8_on 114 = .ok (.iload 4, 2) := by decide +kernel
theorem dX8_on_116 : decode cX8_on 116 = .ok (.iaload, 1) := by decide +kernel
theorem dX8_on_117 : decode cX8_on 117 = .ok (.ireturn, 1) := by decide +kernel
theorem dX8_on_118 : decode cX8_on 118 = .ok (.aload_n 0, 1) := by decide +kernel
theorem dX8_on_119 : decode cX8_on 119 = .ok (.getfield 55, 3) := by decide +kernel
theorem dX8_on_122 : decode cX8_on 122 = .ok (.getfield 97, 3) := by decide +kernel
theorem dX8_on_125 : decode cX8_on 125 = .ok (.iload 4, 2) := by decide +kernel
theorem dX8_on_127 : decode cX8_on 127 = .ok (.iaload, 1) := by decide +kernel
theorem dX8_on_128 : decode cX8_on 128 = .ok (.ireturn, 1) := by decide +kernel
theorem dX8_way_0 : decode cX8_way 0 = .ok (.aload_n 0, 1) := by decide +kernel
theorem dX8_way_1 : decode cX8_way 1 = .ok (.iload_n 1, 1) := by decide +kernel
theorem dX8_way_2 : decode cX8_way 2 = .ok (.invokevirtual 74, 3) := by decide +kernel
theorem dX8_way_5 : decode cX8_way 5 = .ok (.ifCond .eq 21, 3) := by decide +kernel
theorem dX8_way_8 : decode cX8_way 8 = .ok (.iload_n 2, 1) := by decide +kernel
theorem dX8_way_9 : decode cX8_way 9 = .ok (.invokestatic 62, 3) := by decide +kernel
theorem dX8_way_12 : decode cX8_way 12 = .ok (.ifCond .eq 14, 3) := by decide +kernel
theorem dX8_way_15 : decode cX8_way 15 = .ok (.iload_n 3, 1) := by decide +kernel
theorem dX8_way_16 : decode cX8_way 16 = .ok (.iconst (-1), 1) := by decide +kernel
theorem dX8_way_17 : decode cX8_way 17 = .ok (.if_icmp .lt 9, 3) := by decide +kernel
theorem dX8_way_20 : decode cX8_way 20 = .ok (.iload_n 3, 1) := by decide +kernel
theorem dX8_way_21 : decode cX8_way 21 = .ok (.bipush 14, 2) := by decide +kernel
theorem dX8_way_23 : decode cX8_way 23 = .ok (.if_icmp .le 5, 3) := by decide +kernel
theorem dX8_way_26 : decode cX8_way 26 = .ok (.iconst (-1), 1) := by decide +kernel
theorem dX8_way_27 : decode cX8_way 27 = .ok (.ireturn, 1) := by decide +kernel
theorem dX8_way_28 : decode cX8_way 28 = .ok (.aload_n 0, 1) := by decide +kernel
theorem dX8_way_29 : decode cX8_way 29 = .ok (.getfield 51, 3) := by decide +kernel
theorem dX8_way_32 : decode cX8_way 32 = .ok (.getfield 84, 3) := by decide +kernel
theorem dX8_way_35 : decode cX8_way 35 = .ok (.iload_n 1, 1) := by decide +kernel
theorem dX8_way_36 : decode cX8_way 36 = .ok (.iaload, 1) := by decide +kernel
theorem dX8_way_37 : decode cX8_way 37 = .ok (.istore 4, 2) := by decide +kernel
theorem dX8_way_39 : decode cX8_way 39 = .ok (.aload_n 0, 1) := by decide +kernel
theorem dX8_way_40 : decode cX8_way 40 = .ok (.getfield 51, 3) := by decide +kernel
theorem dX8_way_43 : decode cX8_way 43 = .ok (.getfield 94, 3) := by decide +kernel
theorem dX8_way_46 : decode cX8_way 46 = .ok (.iload_n 1, 1) := by decide +kernel
theorem dX8_way_47 : decode cX8_way 47 = .ok (.iaload, 1) := by decide +kernel
theorem dX8_way_48 : decode cX8_way 48 = .ok (.istore 5, 2) := by decide +kernel
theorem dX8_way_50 : decode cX8_way 50 = .ok (.iload_n 3, 1) := by decide +kernel
theorem dX8_way_51 : decode cX8_way 51 = .ok (.ifCond .ge 14, 3) := by decide +kernel
theorem dX8_way_54 : decode cX8_way 54 = .ok (.iload 4, 2) := by decide +kernel
theorem dX8_way_56 : decode cX8_way 56 = .ok (.iload_n 2, 1) := by decide +kernel
theorem dX8_way_57 : decode cX8_way 57 = .ok (.iload 5, 2) := by decide +kernel
theorem dX8_way_59 : decode cX8_way 59 = .ok (.invokestatic 177, 3) := by decide +kernel
theorem dX8_way_62 : decode cX8_way 62 = .ok (.goto 12, 3) := by decide +kernel
theorem dX8_way_65 : decode cX8_way 65 = .ok (.iload 4, 2) := by decide +kernel
theorem dX8_way_67 : decode cX8_way 67 = .ok (.iload_n 2, 1) := by decide +kernel
theorem dX8_way_68 : decode cX8_way 68 = .ok (.iload 5, 2) := by decide +kernel
theorem dX8_way_70 : decode cX8_way 70 = .ok (.iload_n 3, 1) := by decide +kernel
theorem dX8_way_71 : decode cX8_way 71 = .ok (.invokestatic 181, 3) := by decide +kernel
theorem dX8_way_74 : decode cX8_way 74 = .ok (.ireturn, 1) := by decide +kernel
theorem dX8_straight_0 : decode cX8_straight 0 = .ok (.aload_n 0, 1) := by decide +kernel
theorem dX8_straight_1 : decode cX8_straight 1 = .ok (.iload_n 1, 1) := by decide +kernel
theorem dX8_straight_2 : decode cX8_straight 2 = .ok (.invokevirtual 74, 3) := by decide +kernel
theorem dX8_straight_5 : decode cX8_straight 5 = .ok (.ifCond .eq 10, 3) := by decide +kernel
theorem dX8_straight_8 : decode cX8_straight 8 = .ok (.iload_n 2, 1) := by decide +kernel
theorem dX8_straight_9 : decode cX8_straight 9 = .ok (.invokestatic 62, 3) := by decide +kernel
theorem dX8_straight_12 : decode cX8_straight 12 = .ok (.ifCond .ne 5, 3) := by decide +kernel
theorem dX8_straight_15 : decode cX8_straight 15 = .ok (.iconst (-1), 1) := by decide +kernel
theorem dX8_straight_16 : decode cX8_straight 16 = .ok (.ireturn, 1) := by decide +kernel
theorem dX8_straight_17 : decode cX8_straight 17 = .ok (.aload_n 0, 1) := by decide +kernel
theorem dX8_straight_18 : decode cX8_straight 18 = .ok (.getfield 51, 3) := by decide +kernel
theorem dX8_straight_21 : decode cX8_straight 21 = .ok (.getfield 84, 3) := by decide +kernel
theorem dX8_straight_24 : decode cX8_straight 24 = .ok (.iload_n 1, 1) := by decide +kernel
theorem dX8_straight_25 : decode cX8_straight 25 = .ok (.iaload, 1) := by decide +kernel
theorem dX8_straight_26 : decode cX8_straight 26 = .ok (.iload_n 2, 1) := by decide +kernel
theorem dX8_straight_27 : decode cX8_straight 27 = .ok (.aload_n 0, 1) := by decide +kernel
theorem dX8_straight_28 : decode cX8_straight 28 = .ok (.getfield 51, 3) := by decide +kernel
theorem dX8_straight_31 : decode cX8_straight 31 = .ok (.iload_n 1, 1) := by decide +kernel
theorem dX8_straight_32 : decode cX8_straight 32 = .ok (.invokevirtual 103, 3) := by decide +kernel
theorem dX8_straight_35 : decode cX8_straight 35 = .ok (.invokestatic 177, 3) := by decide +kernel
theorem dX8_straight_38 : decode cX8_straight 38 = .ok (.ireturn, 1) := by decide +kernel
theorem dX8_see_0 : decode cX8_see 0 = .ok (.iload_n 1, 1) := by decide +kernel
theorem dX8_see_1 : decode cX8_see 1 = .ok (.iconst (-1), 1) := by decide +kernel
theorem dX8_see_2 : decode cX8_see 2 = .ok (.if_icmp .ne 14, 3) := by decide +kernel
theorem dX8_see_5 : decode cX8_see 5 = .ok (.aload_n 0, 1) := by decide +kernel
theorem dX8_see_6 : decode cX8_see 6 = .ok (.getfield 12, 3) := by decide +kernel
theorem dX8_see_9 : decode cX8_see 9 = .ok (.getfield 185, 3) := by decide +kernel
theorem dX8_see_12 : decode cX8_see 12 = .ok (.invokevirtual 189, 3) := by decide +kernel
theorem dX8_see_15 : decode cX8_see 15 = .ok (.ireturn, 1) := by decide +kernel
theorem dX8_see_16 : decode cX8_see 16 = .ok (.aload_n 0, 1) := by decide +kernel
theorem dX8_see_17 : decode cX8_see 17 = .ok (.iload_n 1, 1) := by decide +kernel
theorem dX8_see_18 : decode cX8_see 18 = .ok (.invokevirtual 74, 3) := by decide +kernel
theorem dX8_see_21 : decode cX8_see 21 = .ok (.ifCond .eq 10, 3) := by decide +kernel
theorem dX8_see_24 : decode cX8_see 24 = .ok (.iload_n 3, 1) := by decide +kernel
theorem dX8_see_25 : decode cX8_see 25 = .ok (.invokestatic 62, 3) := by decide +kernel
theorem dX8_see_28 : decode cX8_see 28 = .ok (.ifCond .ne 5, 3) := by decide +kernel
theorem dX8_see_31 : decode cX8_see 31 = .ok (.iconst (-1), 1) := by decide +kernel
theorem dX8_see_32 : decode cX8_see 32 = .ok (.ireturn, 1) := by decide +kernel
theorem dX8_see_33 : decode cX8_see 33 = .ok (.iload_n 2, 1) := by decide +kernel
theorem dX8_see_34 : decode cX8_see 34 = .ok (.ifCond .lt 9, 3) := by decide +kernel
theorem dX8_see_37 : decode cX8_see 37 = .ok (.iload_n 2, 1) := by decide +kernel
theorem dX8_see_38 : decode cX8_see 38 = .ok (.bipush 12, 2) := by decide +kernel
theorem dX8_see_40 : decode cX8_see 40 = .ok (.if_icmp .le 6, 3) := by decide +kernel
theorem dX8_see_43 : decode cX8_see 43 = .ok (.bipush (-2), 2) := by decide +kernel
theorem dX8_see_45 : decode cX8_see 45 = .ok (.ireturn, 1) := by decide +kernel
theorem dX8_see_46 : decode cX8_see 46 = .ok (.aload_n 0, 1) := by decide +kernel
theorem dX8_see_47 : decode cX8_see 47 = .ok (.getfield 12, 3) := by decide +kernel
theorem dX8_see_50 : decode cX8_see 50 = .ok (.getfield 185, 3) := by decide +kernel
theorem dX8_see_53 : decode cX8_see 53 = .ok (.invokevirtual 194, 3) := by decide +kernel
theorem dX8_see_56 : decode cX8_see 56 = .ok (.ifCond .eq 8, 3) := by decide +kernel
theorem dX8_see_59 : decode cX8_see 59 = .ok (.bipush (-4), 2) := by decide +kernel
theorem dX8_see_61 : decode cX8_see 61 = .ok (.goto 16, 3) := by decide +kernel
theorem dX8_see_64 : decode cX8_see 64 = .ok (.aload_n 0, 1) := by decide +kernel
theorem dX8_see_65 : decode cX8_see 65 = .ok (.getfield 12, 3) := by decide +kernel
theorem dX8_see_68 : decode cX8_see 68 = .ok (.getfield 185, 3) := by decide +kernel
theorem dX8_see_71 : decode cX8_see 71 = .ok (.iload_n 1, 1) := by decide +kernel
theorem dX8_see_72 : decode cX8_see 72 = .ok (.iload_n 2, 1) := by decide +kernel
theorem dX8_see_73 : decode cX8_see 73 = .ok (.iload_n 3, 1) := by decide +kernel
theorem dX8_see_74 : decode cX8_see 74 = .ok (.invokevirtual 197, 3) := by decide +kernel
theorem dX8_see_77 : decode cX8_see 77 = .ok (.ireturn, 1) := by decide +kernel
theorem dX8_can_0 : decode cX8_can 0 = .ok (.aload_n 0, 1) := by decide +kernel
theorem dX8_can_1 : decode cX8_can 1 = .ok (.iload_n 1, 1) := by decide +kernel
theorem dX8_can_2 : decode cX8_can 2 = .ok (.invokevirtual 74, 3) := by decide +kernel
theorem dX8_can_5 : decode cX8_can 5 = .ok (.ifCond .eq 12, 3) := by decide +kernel
theorem dX8_can_8 : decode cX8_can 8 = .ok (.iload_n 2, 1) := by decide +kernel
theorem dX8_can_9 : decode cX8_can 9 = .ok (.ifCond .lt 8, 3) := by decide +kernel
theorem dX8_can_12 : decode cX8_can 12 = .ok (.iload_n 2, 1) := by decide +kernel
theorem dX8_can_13 : decode cX8_can 13 = .ok (.iconst 1, 1) := by decide +kernel
theorem dX8_can_14 : decode cX8_can 14 = .ok (.if_icmp .le 5, 3) := by decide +kernel
theorem dX8_can_17 : decode cX8_can 17 = .ok (.iconst (-1), 1) := by decide +kernel
theorem dX8_can_18 : decode cX8_can 18 = .ok (.ireturn, 1) := by decide +kernel
theorem dX8_can_19 : decode cX8_can 19 = .ok (.aload_n 0, 1) := by decide +kernel
theorem dX8_can_20 : decode cX8_can 20 = .ok (.iload_n 1, 1) := by decide +kernel
theorem dX8_can_21 : decode cX8_can 21 = .ok (.invokevirtual 199, 3) := by decide +kernel
theorem dX8_can_24 : decode cX8_can 24 = .ok (.istore_n 3, 1) := by decide +kernel
theorem dX8_can_25 : decode cX8_can 25 = .ok (.iload_n 2, 1) := by decide +kernel
theorem dX8_can_26 : decode cX8_can 26 = .ok (.ifCond .ne 8, 3) := by decide +kernel
theorem dX8_can_29 : decode cX8_can 29 = .ok (.iload_n 3, 1) := by decide +kernel
theorem dX8_can_30 : decode cX8_can 30 = .ok (.invokestatic 202, 3) := by decide +kernel
theorem dX8_can_33 : decode cX8_can 33 = .ok (.ireturn, 1) := by decide +kernel
theorem dX8_can_34 : decode cX8_can 34 = .ok (.iload_n 3, 1) := by decide +kernel
theorem dX8_can_35 : decode cX8_can 35 = .ok (.ifCond .ne 8, 3) := by decide +kernel
theorem dX8_can_38 : decode cX8_can 38 = .ok (.bipush (-5), 2) := by decide +kernel
theorem dX8_can_40 : decode cX8_can 40 = .ok (.goto 7, 3) := by decide +kernel
theorem dX8_can_43 : decode cX8_can 43 = .ok (.iload_n 3, 1) := by decide +kernel
theorem dX8_can_44 : decode cX8_can 44 = .ok (.invokestatic 207, 3) := by decide +kernel
theorem dX8_can_47 : decode cX8_can 47 = .ok (.ireturn, 1) := by decide +kernel
theorem dX8_odds_0 : decode cX8_odds 0 = .ok (.aload_n 0, 1) := by decide +kernel
theorem dX8_odds_1 : decode cX8_odds 1 = .ok (.iload_n 1, 1) := by decide +kernel
theorem dX8_odds_2 : decode cX8_odds 2 = .ok (.invokevirtual 74, 3) := by decide +kernel
theorem dX8_odds_5 : decode cX8_odds 5 = .ok (.ifCond .eq 12, 3) := by decide +kernel
theorem dX8_odds_8 : decode cX8_odds 8 = .ok (.iload_n 2, 1) := by decide +kernel
theorem dX8_odds_9 : decode cX8_odds 9 = .ok (.ifCond .lt 8, 3) := by decide +kernel
theorem dX8_odds_12 : decode cX8_odds 12 = .ok (.iload_n 2, 1) := by decide +kernel
theorem dX8_odds_13 : decode cX8_odds 13 = .ok (.iconst 1, 1) := by decide +kernel
theorem dX8_odds_14 : decode cX8_odds 14 = .ok (.if_icmp .le 7, 3) := by decide +kernel
theorem dX8_odds_17 : decode cX8_odds 17 = .ok (.ldc2_w 210, 3) := by decide +kernel
theorem dX8_odds_20 : decode cX8_odds 20 = .ok (.lreturn, 1) := by decide +kernel
theorem dX8_odds_21 : decode cX8_odds 21 = .ok (.aload_n 0, 1) := by decide +kernel
theorem dX8_odds_22 : decode cX8_odds 22 = .ok (.getfield 51, 3) := by decide +kernel
theorem dX8_odds_25 : decode cX8_odds 25 = .ok (.getfield 84, 3) := by decide +kernel
theorem dX8_odds_28 : decode cX8_odds 28 = .ok (.iload_n 1, 1) := by decide +kernel
theorem dX8_odds_29 : decode cX8_odds 29 = .ok (.iaload, 1) := by decide +kernel
theorem dX8_odds_30 : decode cX8_odds 30 = .ok (.aload_n 0, 1) := by decide +kernel
theorem dX8_odds_31 : decode cX8_odds 31 = .ok (.getfield 51, 3) := by decide +kernel
theorem dX8_odds_34 : decode cX8_odds 34 = .ok (.iload_n 1, 1) := by decide +kernel
theorem dX8_odds_35 : decode cX8_odds 35 = .ok (.invokevirtual 103, 3) := by decide +kernel
theorem dX8_odds_38 : decode cX8_odds 38 = .ok (.invokestatic 212, 3) := by decide +kernel
theorem dX8_odds_41 : decode cX8_odds 41 = .ok (.istore_n 3, 1) := by decide +kernel
theorem dX8_odds_42 : decode cX8_odds 42 = .ok (.iload_n 3, 1) := by decide +kernel
theorem dX8_odds_43 : decode cX8_odds 43 = .ok (.invokestatic 202, 3) := by decide +kernel
theorem dX8_odds_46 : decode cX8_odds 46 = .ok (.bipush 16, 2) := by decide +kernel
theorem dX8_odds_48 : decode cX8_odds 48 = .ok (.iload_n 2, 1) := by decide +kernel
theorem dX8_odds_49 : decode cX8_odds 49 = .ok (.invokestatic 215, 3) := by decide +kernel
theorem dX8_odds_52 : decode cX8_odds 52 = .ok (.lreturn, 1) := by decide +kernel
theorem dX8_mean_0 : decode cX8_mean 0 = .ok (.iload_n 1, 1) := by decide +kernel
theorem dX8_mean_1 : decode cX8_mean 1 = .ok (.ifCond .lt 18, 3) := by decide +kernel
theorem dX8_mean_4 : decode cX8_mean 4 = .ok (.iload_n 1, 1) := by decide +kernel
theorem dX8_mean_5 : decode cX8_mean 5 = .ok (.iconst 1, 1) := by decide +kernel
theorem dX8_mean_6 : decode cX8_mean 6 = .ok (.if_icmp .gt 13, 3) := by decide +kernel
theorem dX8_mean_9 : decode cX8_mean 9 = .ok (.aload_n 0, 1) := by decide +kernel
theorem dX8_mean_10 : decode cX8_mean 10 = .ok (.getfield 51, 3) := by decide +kernel
theorem dX8_mean_13 : decode cX8_mean 13 = .ok (.getfield 66, 3) := by decide +kernel
theorem dX8_mean_16 : decode cX8_mean 16 = .ok (.ifCond .ne 7, 3) := by decide +kernel
theorem dX8_mean_19 : decode cX8_mean 19 = .ok (.ldc2_w 210, 3) := by decide +kernel
theorem dX8_mean_22 : decode cX8_mean 22 = .ok (.lreturn, 1) := by decide +kernel
theorem dX8_mean_23 : decode cX8_mean 23 = .ok (.aload_n 0, 1) := by decide +kernel
theorem dX8_mean_24 : decode cX8_mean 24 = .ok (.getfield 51, 3) := by decide +kernel
theorem dX8_mean_27 : decode cX8_mean 27 = .ok (.invokevirtual 219, 3) := by decide +kernel
theorem dX8_mean_30 : decode cX8_mean 30 = .ok (.aload_n 0, 1) := by decide +kernel
theorem dX8_mean_31 : decode cX8_mean 31 = .ok (.getfield 51, 3) := by decide +kernel
theorem dX8_mean_34 : decode cX8_mean 34 = .ok (.getfield 66, 3) := by decide +kernel
theorem dX8_mean_37 : decode cX8_mean 37 = .ok (.iload_n 1, 1) := by decide +kernel
theorem dX8_mean_38 : decode cX8_mean 38 = .ok (.invokestatic 215, 3) := by decide +kernel
theorem dX8_mean_41 : decode cX8_mean 41 = .ok (.lreturn, 1) := by decide +kernel
theorem dX8_plan_0 : decode cX8_plan 0 = .ok (.iload_n 1, 1) := by decide +kernel
theorem dX8_plan_1 : decode cX8_plan 1 = .ok (.iconst (-1), 1) := by decide +kernel
theorem dX8_plan_2 : decode cX8_plan 2 = .ok (.if_icmp .ne 14, 3) := by decide +kernel
theorem dX8_plan_5 : decode cX8_plan 5 = .ok (.aload_n 0, 1) := by decide +kernel
theorem dX8_plan_6 : decode cX8_plan 6 = .ok (.getfield 12, 3) := by decide +kernel
theorem dX8_plan_9 : decode cX8_plan 9 = .ok (.getfield 222, 3) := by decide +kernel
theorem dX8_plan_12 : decode cX8_plan 12 = .ok (.invokevirtual 189, 3) := by decide +kernel
theorem dX8_plan_15 : decode cX8_plan 15 = .ok (.ireturn, 1) := by decide +kernel
theorem dX8_plan_16 : decode cX8_plan 16 = .ok (.aload_n 0, 1) := by decide +kernel
theorem dX8_plan_17 : decode cX8_plan 17 = .ok (.iload_n 1, 1) := by decide +kernel
theorem dX8_plan_18 : decode cX8_plan 18 = .ok (.iload_n 2, 1) := by decide +kernel
theorem dX8_plan_19 : decode cX8_plan 19 = .ok (.invokevirtual 225, 3) := by decide +kernel
theorem dX8_plan_22 : decode cX8_plan 22 = .ok (.ifCond .ne 5, 3) := by decide +kernel
theorem dX8_plan_25 : decode cX8_plan 25 = .ok (.iconst (-1), 1) := by decide +kernel
theorem dX8_plan_26 : decode cX8_plan 26 = .ok (.ireturn, 1) := by decide +kernel
theorem dX8_plan_27 : decode cX8_plan 27 = .ok (.aload_n 0, 1) := by decide +kernel
theorem dX8_plan_28 : decode cX8_plan 28 = .ok (.getfield 12, 3) := by decide +kernel
theorem dX8_plan_31 : decode cX8_plan 31 = .ok (.getfield 222, 3) := by decide +kernel
theorem dX8_plan_34 : decode cX8_plan 34 = .ok (.invokevirtual 194, 3) := by decide +kernel
theorem dX8_plan_37 : decode cX8_plan 37 = .ok (.ifCond .eq 8, 3) := by decide +kernel
theorem dX8_plan_40 : decode cX8_plan 40 = .ok (.bipush (-4), 2) := by decide +kernel
theorem dX8_plan_42 : decode cX8_plan 42 = .ok (.goto 16, 3) := by decide +kernel
theorem dX8_plan_45 : decode cX8_plan 45 = .ok (.aload_n 0, 1) := by decide +kernel
theorem dX8_plan_46 : decode cX8_plan 46 = .ok (.getfield 12, 3) := by decide +kernel
theorem dX8_plan_49 : decode cX8_plan 49 = .ok (.getfield 222, 3) := by decide +kernel
theorem dX8_plan_52 : decode cX8_plan 52 = .ok (.iload_n 1, 1) := by decide +kernel
theorem dX8_plan_53 : decode cX8_plan 53 = .ok (.iload_n 2, 1) := by decide +kernel
theorem dX8_plan_54 : decode cX8_plan 54 = .ok (.iconst 0, 1) := by decide +kernel
theorem dX8_plan_55 : decode cX8_plan 55 = .ok (.invokevirtual 197, 3) := by decide +kernel
theorem dX8_plan_58 : decode cX8_plan 58 = .ok (.ireturn, 1) := by decide +kernel
theorem dX8_ends_0 : decode cX8_ends 0 = .ok (.iload_n 1, 1) := by decide +kernel
theorem dX8_ends_1 : decode cX8_ends 1 = .ok (.ifCond .lt 8, 3) := by decide +kernel
theorem dX8_ends_4 : decode cX8_ends 4 = .ok (.iload_n 1, 1) := by decide +kernel
theorem dX8_ends_5 : decode cX8_ends 5 = .ok (.iconst 1, 1) := by decide +kernel
theorem dX8_ends_6 : decode cX8_ends 6 = .ok (.if_icmp .le 5, 3) := by decide +kernel
theorem dX8_ends_9 : decode cX8_ends 9 = .ok (.iconst (-1), 1) := by decide +kernel
theorem dX8_ends_10 : decode cX8_ends 10 = .ok (.ireturn, 1) := by decide +kernel
theorem dX8_ends_11 : decode cX8_ends 11 = .ok (.aload_n 0, 1) := by decide +kernel
theorem dX8_ends_12 : decode cX8_ends 12 = .ok (.getfield 55, 3) := by decide +kernel
theorem dX8_ends_15 : decode cX8_ends 15 = .ok (.aload_n 0, 1) := by decide +kernel
theorem dX8_ends_16 : decode cX8_ends 16 = .ok (.getfield 51, 3) := by decide +kernel
theorem dX8_ends_19 : decode cX8_ends 19 = .ok (.invokevirtual 229, 3) := by decide +kernel
theorem dX8_ends_22 : decode cX8_ends 22 = .ok (.iconst 0, 1) := by decide +kernel
theorem dX8_ends_23 : decode cX8_ends 23 = .ok (.istore_n 2, 1) := by decide +kernel
theorem dX8_ends_24 : decode cX8_ends 24 = .ok (.iload_n 2, 1) := by decide +kernel
theorem dX8_ends_25 : decode cX8_ends 25 = .ok (.aload_n 0, 1) := by decide +kernel
theorem dX8_ends_26 : decode cX8_ends 26 = .ok (.getfield 12, 3) := by decide +kernel
theorem dX8_ends_29 : decode cX8_ends 29 = .ok (.getfield 222, 3) := by decide +kernel
theorem dX8_ends_32 : decode cX8_ends 32 = .ok (.getfield 233, 3) := by decide +kernel
theorem dX8_ends_35 : decode cX8_ends 35 = .ok (.if_icmp .ge 38, 3) := by decide +kernel
theorem dX8_ends_38 : decode cX8_ends 38 = .ok (.aload_n 0, 1) := by decide +kernel
theorem dX8_ends_39 : decode cX8_ends 39 = .ok (.getfield 55, 3) := by decide +kernel
theorem dX8_ends_42 : decode cX8_ends 42 = .ok (.aload_n 0, 1) := by decide +kernel
theorem dX8_ends_43 : decode cX8_ends 43 = .ok (.getfield 12, 3) := by decide +kernel
theorem dX8_ends_46 : decode cX8_ends 46 = .ok (.getfield 222, 3) := by decide +kernel
theorem dX8_ends_49 : decode cX8_ends 49 = .ok (.iload_n 2, 1) := by decide +kernel
theorem dX8_ends_50 : decode cX8_ends 50 = .ok (.invokevirtual 235, 3) := by decide +kernel
theorem dX8_ends_53 : decode cX8_ends 53 = .ok (.aload_n 0, 1) := by decide +kernel
theorem dX8_ends_54 : decode cX8_ends 54 = .ok (.getfield 12, 3) := by decide +kernel
theorem dX8_ends_57 : decode cX8_ends 57 = .ok (.getfield 222, 3) := by decide +kernel
theorem dX8_ends_60 : decode cX8_ends 60 = .ok (.iload_n 2, 1) := by decide +kernel
theorem dX8_ends_61 : decode cX8_ends 61 = .ok (.invokevirtual 238, 3) := by decide +kernel
theorem dX8_ends_64 : decode cX8_ends 64 = .ok (.invokevirtual 241, 3) := by decide +kernel
theorem dX8_ends_67 : decode cX8_ends 67 = .ok (.iinc 2 1, 3) := by decide +kernel
theorem dX8_ends_70 : decode cX8_ends 70 = .ok (.goto (-46), 3) := by decide +kernel
theorem dX8_ends_73 : decode cX8_ends 73 = .ok (.iload_n 1, 1) := by decide +kernel
theorem dX8_ends_74 : decode cX8_ends 74 = .ok (.ifCond .ne 16, 3) := by decide +kernel
theorem dX8_ends_77 : decode cX8_ends 77 = .ok (.aload_n 0, 1) := by decide +kernel
theorem dX8_ends_78 : decode cX8_ends 78 = .ok (.getfield 55, 3) := by decide +kernel
theorem dX8_ends_81 : decode cX8_ends 81 = .ok (.invokevirtual 158, 3) := by decide +kernel
theorem dX8_ends_84 : decode cX8_ends 84 = .ok (.invokestatic 202, 3) := by decide +kernel
theorem dX8_ends_87 : decode cX8_ends 87 = .ok (.goto 10, 3) := by decide +kernel
theorem dX8_ends_90 : decode cX8_ends 90 = .ok (.aload_n 0, 1) := by decide +kernel
theorem dX8_ends_91 : decode cX8_ends 91 = .ok (.getfield 55, 3) := by decide +kernel
theorem dX8_ends_94 : decode cX8_ends 94 = .ok (.invokevirtual 162, 3) := by decide +kernel
theorem dX8_ends_97 : decode cX8_ends 97 = .ok (.ireturn, 1) := by decide +kernel
theorem dX8_book_0 : decode cX8_book 0 = .ok (.iload_n 1, 1) := by decide +kernel
theorem dX8_book_1 : decode cX8_book 1 = .ok (.iconst (-1), 1) := by decide +kernel
theorem dX8_book_2 : decode cX8_book 2 = .ok (.if_icmp .ne 14, 3) := by decide +kernel
theorem dX8_book_5 : decode cX8_book 5 = .ok (.aload_n 0, 1) := by decide +kernel
theorem dX8_book_6 : decode cX8_book 6 = .ok (.getfield 12, 3) := by decide +kernel
theorem dX8_book_9 : decode cX8_book 9 = .ok (.getfield 244, 3) := by decide +kernel
theorem dX8_book_12 : decode cX8_book 12 = .ok (.invokevirtual 189, 3) := by decide +kernel
theorem dX8_book_15 : decode cX8_book 15 = .ok (.ireturn, 1) := by decide +kernel
theorem dX8_book_16 : decode cX8_book 16 = .ok (.aload_n 0, 1) := by decide +kernel
theorem dX8_book_17 : decode cX8_book 17 = .ok (.iload_n 1, 1) := by decide +kernel
theorem dX8_book_18 : decode cX8_book 18 = .ok (.invokevirtual 74, 3) := by decide +kernel
theorem dX8_book_21 : decode cX8_book 21 = .ok (.ifCond .ne 5, 3) := by decide +kernel
theorem dX8_book_24 : decode cX8_book 24 = .ok (.iconst (-1), 1) := by decide +kernel
theorem dX8_book_25 : decode cX8_book 25 = .ok (.ireturn, 1) := by decide +kernel
theorem dX8_book_26 : decode cX8_book 26 = .ok (.iload_n 2, 1) := by decide +kernel
theorem dX8_book_27 : decode cX8_book 27 = .ok (.invokestatic 119, 3) := by decide +kernel
theorem dX8_book_30 : decode cX8_book 30 = .ok (.ifCond .ne 6, 3) := by decide +kernel
theorem dX8_book_33 : decode cX8_book 33 = .ok (.bipush (-2), 2) := by decide +kernel
theorem dX8_book_35 : decode cX8_book 35 = .ok (.ireturn, 1) := by decide +kernel
theorem dX8_book_36 : decode cX8_book 36 = .ok (.aload_n 0, 1) := by decide +kernel
theorem dX8_book_37 : decode cX8_book 37 = .ok (.getfield 12, 3) := by decide +kernel
theorem dX8_book_40 : decode cX8_book 40 = .ok (.getfield 244, 3) := by decide +kernel
theorem dX8_book_43 : decode cX8_book 43 = .ok (.invokevirtual 194, 3) := by decide +kernel
theorem dX8_book_46 : decode cX8_book 46 = .ok (.ifCond .eq 8, 3) := by decide +kernel
theorem dX8_book_49 : decode cX8_book 49 = .ok (.bipush (-4), 2) := by decide +kernel
theorem dX8_book_51 : decode cX8_book 51 = .ok (.goto 16, 3) := by decide +kernel
theorem dX8_book_54 : decode cX8_book 54 = .ok (.aload_n 0, 1) := by decide +kernel
theorem dX8_book_55 : decode cX8_book 55 = .ok (.getfield 12, 3) := by decide +kernel
theorem dX8_book_58 : decode cX8_book 58 = .ok (.getfield 244, 3) := by decide +kernel
theorem dX8_book_61 : decode cX8_book 61 = .ok (.iload_n 1, 1) := by decide +kernel
theorem dX8_book_62 : decode cX8_book 62 = .ok (.iload_n 2, 1) := by decide +kernel
theorem dX8_book_63 : decode cX8_book 63 = .ok (.iconst 0, 1) := by decide +kernel
theorem dX8_book_64 : decode cX8_book 64 = .ok (.invokevirtual 197, 3) := by decide +kernel
theorem dX8_book_67 : decode cX8_book 67 = .ok (.ireturn, 1) := by decide +kernel
theorem dX8_looked_0 : decode cX8_looked 0 = .ok (.iconst 0, 1) := by decide +kernel
theorem dX8_looked_1 : decode cX8_looked 1 = .ok (.istore_n 1, 1) := by decide +kernel
theorem dX8_looked_2 : decode cX8_looked 2 = .ok (.iload_n 1, 1) := by decide +kernel
theorem dX8_looked_3 : decode cX8_looked 3 = .ok (.aload_n 0, 1) := by decide +kernel
theorem dX8_looked_4 : decode cX8_looked 4 = .ok (.getfield 12, 3) := by decide +kernel
theorem dX8_looked_7 : decode cX8_looked 7 = .ok (.getfield 244, 3) := by decide +kernel
theorem dX8_looked_10 : decode cX8_looked 10 = .ok (.getfield 233, 3) := by decide +kernel
theorem dX8_looked_13 : decode cX8_looked 13 = .ok (.if_icmp .ge 54, 3) := by decide +kernel
theorem dX8_looked_16 : decode cX8_looked 16 = .ok (.aload_n 0, 1) := by decide +kernel
theorem dX8_looked_17 : decode cX8_looked 17 = .ok (.getfield 12, 3) := by decide +kernel
theorem dX8_looked_20 : decode cX8_looked 20 = .ok (.getfield 244, 3) := by decide +kernel
theorem dX8_looked_23 : decode cX8_looked 23 = .ok (.iload_n 1, 1) := by decide +kernel
theorem dX8_looked_24 : decode cX8_looked 24 = .ok (.invokevirtual 235, 3) := by decide +kernel
theorem dX8_looked_27 : decode cX8_looked 27 = .ok (.istore_n 2, 1) := by decide +kernel
theorem dX8_looked_28 : decode cX8_looked 28 = .ok (.aload_n 0, 1) := by decide +kernel
theorem dX8_looked_29 : decode cX8_looked 29 = .ok (.iload_n 2, 1) := by decide +kernel
theorem dX8_looked_30 : decode cX8_looked 30 = .ok (.invokevirtual 74, 3) := by decide +kernel
theorem dX8_looked_33 : decode cX8_looked 33 = .ok (.ifCond .eq 28, 3) := by decide +kernel
theorem dX8_looked_36 : decode cX8_looked 36 = .ok (.aload_n 0, 1) := by decide +kernel
theorem dX8_looked_37 : decode cX8_looked 37 = .ok (.getfield 51, 3) := by decide +kernel
theorem dX8_looked_40 : decode cX8_looked 40 = .ok (.getfield 94, 3) := by decide +kernel
theorem dX8_looked_43 : decode cX8_looked 43 = .ok (.iload_n 2, 1) := by decide +kernel
theorem dX8_looked_44 : decode cX8_looked 44 = .ok (.iaload, 1) := by decide +kernel
theorem dX8_looked_45 : decode cX8_looked 45 = .ok (.aload_n 0, 1) := by decide +kernel
theorem dX8_looked_46 : decode cX8_looked 46 = .ok (.getfield 12, 3) := by decide +kernel
theorem dX8_looked_49 : decode cX8_looked 49 = .ok (.getfield 244, 3) := by decide +kernel
theorem dX8_looked_52 : decode cX8_looked 52 = .ok (.iload_n 1, 1) := by decide +kernel
theorem dX8_looked_53 : decode cX8_looked 53 = .ok (.invokevirtual 238, 3) := by decide +kernel
theorem dX8_looked_56 : decode cX8_looked 56 = .ok (.if_icmp .eq 5, 3) := by decide +kernel
theorem dX8_looked_59 : decode cX8_looked 59 = .ok (.iload_n 1, 1) := by decide +kernel
theorem dX8_looked_60 : decode cX8_looked 60 = .ok (.ireturn, 1) := by decide +kernel
theorem dX8_looked_61 : decode cX8_looked 61 = .ok (.iinc 1 1, 3) := by decide +kernel
theorem dX8_looked_64 : decode cX8_looked 64 = .ok (.goto (-62), 3) := by decide +kernel
theorem dX8_looked_67 : decode cX8_looked 67 = .ok (.bipush (-5), 2) := by decide +kernel
theorem dX8_looked_69 : decode cX8_looked 69 = .ok (.ireturn, 1) := by decide +kernel
theorem dX8_judge_0 : decode cX8_judge 0 = .ok (.iload_n 1, 1) := by decide +kernel
theorem dX8_judge_1 : decode cX8_judge 1 = .ok (.invokestatic 247, 3) := by decide +kernel
theorem dX8_judge_4 : decode cX8_judge 4 = .ok (.ifCond .ne 5, 3) := by decide +kernel
theorem dX8_judge_7 : decode cX8_judge 7 = .ok (.iconst (-1), 1) := by decide +kernel
theorem dX8_judge_8 : decode cX8_judge 8 = .ok (.ireturn, 1) := by decide +kernel
theorem dX8_judge_9 : decode cX8_judge 9 = .ok (.aload_n 0, 1) := by decide +kernel
theorem dX8_judge_10 : decode cX8_judge 10 = .ok (.getfield 37, 3) := by decide +kernel
theorem dX8_judge_13 : decode cX8_judge 13 = .ok (.iload_n 1, 1) := by decide +kernel
theorem dX8_judge_14 : decode cX8_judge 14 = .ok (.aaload, 1) := by decide +kernel
theorem dX8_judge_15 : decode cX8_judge 15 = .ok (.astore_n 3, 1) := by decide +kernel
theorem dX8_judge_16 : decode cX8_judge 16 = .ok (.aload_n 3, 1) := by decide +kernel
theorem dX8_judge_17 : decode cX8_judge 17 = .ok (.invokevirtual 250, 3) := by decide +kernel
theorem dX8_judge_20 : decode cX8_judge 20 = .ok (.ifCond .eq 13, 3) := by decide +kernel
theorem dX8_judge_23 : decode cX8_judge 23 = .ok (.aload_n 3, 1) := by decide +kernel
theorem dX8_judge_24 : decode cX8_judge 24 = .ok (.getfield 253, 3) := by decide +kernel
theorem dX8_judge_27 : decode cX8_judge 27 = .ok (.ifCond .eq 6, 3) := by decide +kernel
theorem dX8_judge_30 : decode cX8_judge 30 = .ok (.bipush (-12), 2) := by decide +kernel
theorem dX8_judge_32 : decode cX8_judge 32 = .ok (.ireturn, 1) := by decide +kernel
theorem dX8_judge_33 : decode cX8_judge 33 = .ok (.iload_n 2, 1) := by decide +kernel
theorem dX8_judge_34 : decode cX8_judge 34 = .ok (.ifCond .lt 10, 3) := by decide +kernel
theorem dX8_judge_37 : decode cX8_judge 37 = .ok (.aload_n 3, 1) := by decide +kernel
theorem dX8_judge_38 : decode cX8_judge 38 = .ok (.invokevirtual 250, 3) := by decide +kernel
theorem dX8_judge_41 : decode cX8_judge 41 = .ok (.ifCond .ne 6, 3) := by decide +kernel
theorem dX8_judge_44 : decode cX8_judge 44 = .ok (.bipush 100, 2) := by decide +kernel
theorem dX8_judge_46 : decode cX8_judge 46 = .ok (.ireturn, 1) := by decide +kernel
theorem dX8_judge_47 : decode cX8_judge 47 = .ok (.iconst 0, 1) := by decide +kernel
theorem dX8_judge_48 : decode cX8_judge 48 = .ok (.istore 4, 2) := by decide +kernel
theorem dX8_judge_50 : decode cX8_judge 50 = .ok (.iload 4, 2) := by decide +kernel
theorem dX8_judge_52 : decode cX8_judge 52 = .ok (.bipush 16, 2) := by decide +kernel
theorem dX8_judge_54 : decode cX8_judge 54 = .ok (.if_icmp .ge 53, 3) := by decide +kernel
theorem dX8_judge_57 : decode cX8_judge 57 = .ok (.iload_n 2, 1) := by decide +kernel
theorem dX8_judge_58 : decode cX8_judge 58 = .ok (.aload_n 3, 1) := by decide +kernel
theorem dX8_judge_59 : decode cX8_judge 59 = .ok (.getfield 256, 3) := by decide +kernel
theorem dX8_judge_62 : decode cX8_judge 62 = .ok (.iload 4, 2) := by decide +kernel
theorem dX8_judge_64 : decode cX8_judge 64 = .ok (.isub, 1) := by decide +kernel
theorem dX8_judge_65 : decode cX8_judge 65 = .ok (.if_icmp .lt 9, 3) := by decide +kernel
theorem dX8_judge_68 : decode cX8_judge 68 = .ok (.bipush 100, 2) := by decide +kernel
theorem dX8_judge_70 : decode cX8_judge 70 = .ok (.iload 4, 2) := by decide +kernel
theorem dX8_judge_72 : decode cX8_judge 72 = .ok (.iadd, 1) := by decide +kernel
theorem dX8_judge_73 : decode cX8_judge 73 = .ok (.ireturn, 1) := by decide +kernel
theorem dX8_judge_74 : decode cX8_judge 74 = .ok (.aload_n 3, 1) := by decide +kernel
theorem dX8_judge_75 : decode cX8_judge 75 = .ok (.getfield 257, 3) := by decide +kernel
theorem dX8_judge_78 : decode cX8_judge 78 = .ok (.iload_n 2, 1) := by decide +kernel
theorem dX8_judge_79 : decode cX8_judge 79 = .ok (.iload 4, 2) := by decide +kernel
theorem dX8_judge_81 : decode cX8_judge 81 = .ok (.iadd, 1) := by decide +kernel
theorem dX8_judge_82 : decode cX8_judge 82 = .ok (.laload, 1) := by decide +kernel
theorem dX8_judge_83 : decode cX8_judge 83 = .ok (.aload_n 0, 1) := by decide +kernel
theorem dX8_judge_84 : decode cX8_judge 84 = .ok (.getfield 51, 3) := by decide +kernel
theorem dX8_judge_87 : decode cX8_judge 87 = .ok (.getfield 122, 3) := by decide +kernel
theorem dX8_judge_90 : decode cX8_judge 90 = .ok (.iload 4, 2) := by decide +kernel
theorem dX8_judge_92 : decode cX8_judge 92 = .ok (.iaload, 1) := by decide +kernel
theorem dX8_judge_93 : decode cX8_judge 93 = .ok (.i2l, 1) := by decide +kernel
theorem dX8_judge_94 : decode cX8_judge 94 = .ok (.lcmp, 1) := by decide +kernel
theorem dX8_judge_95 : decode cX8_judge 95 = .ok (.ifCond .eq 6, 3) := by decide +kernel
theorem dX8_judge_98 : decode cX8_judge 98 = .ok (.iload 4, 2) := by decide +kernel
theorem dX8_judge_100 : decode cX8_judge 100 = .ok (.ireturn, 1) := by decide +kernel
theorem dX8_judge_101 : decode cX8_judge 101 = .ok (.iinc 4 1, 3) := by decide +kernel
theorem dX8_judge_104 : decode cX8_judge 104 = .ok (.goto (-54), 3) := by decide +kernel
theorem dX8_judge_107 : decode cX8_judge 107 = .ok (.bipush (-5), 2) := by decide +kernel
theorem dX8_judge_109 : decode cX8_judge 109 = .ok (.ireturn, 1) := by decide +kernel
theorem dX8_image_0 : decode cX8_image 0 = .ok (.aload_n 0, 1) := by decide +kernel
theorem dX8_image_1 : decode cX8_image 1 = .ok (.getfield 58, 3) := by decide +kernel
theorem dX8_image_4 : decode cX8_image 4 = .ok (.aload_n 0, 1) := by decide +kernel
theorem dX8_image_5 : decode cX8_image 5 = .ok (.getfield 51, 3) := by decide +kernel
theorem dX8_image_8 : decode cX8_image 8 = .ok (.invokevirtual 229, 3) := by decide +kernel
theorem dX8_image_11 : decode cX8_image 11 = .ok (.aload_n 0, 1) := by decide +kernel
theorem dX8_image_12 : decode cX8_image 12 = .ok (.getfield 18, 3) := by decide +kernel
theorem dX8_image_15 : decode cX8_image 15 = .ok (.aload_n 0, 1) := by decide +kernel
theorem dX8_image_16 : decode cX8_image 16 = .ok (.getfield 12, 3) := by decide +kernel
theorem dX8_image_19 : decode cX8_image 19 = .ok (.invokevirtual 261, 3) := by decide +kernel
theorem dX8_image_22 : decode cX8_image 22 = .ok (.aload_n 0, 1) := by decide +kernel
theorem dX8_image_23 : decode cX8_image 23 = .ok (.iconst 1, 1) := by decide +kernel
theorem dX8_image_24 : decode cX8_image 24 = .ok (.putfield 264, 3) := by decide +kernel
theorem dX8_image_27 : decode cX8_image 27 = .ok (.aload_n 0, 1) := by decide +kernel
theorem dX8_image_28 : decode cX8_image 28 = .ok (.getfield 51, 3) := by decide +kernel
theorem dX8_image_31 : decode cX8_image 31 = .ok (.getfield 66, 3) := by decide +kernel
theorem dX8_image_34 : decode cX8_image 34 = .ok (.ireturn, 1) := by decide +kernel
theorem dX8_undo_0 : decode cX8_undo 0 = .ok (.aload_n 0, 1) := by decide +kernel
theorem dX8_undo_1 : decode cX8_undo 1 = .ok (.getfield 264, 3) := by decide +kernel
theorem dX8_undo_4 : decode cX8_undo 4 = .ok (.ifCond .ne 6, 3) := by decide +kernel
theorem dX8_undo_7 : decode cX8_undo 7 = .ok (.bipush (-3), 2) := by decide +kernel
theorem dX8_undo_9 : decode cX8_undo 9 = .ok (.ireturn, 1) := by decide +kernel
theorem dX8_undo_10 : decode cX8_undo 10 = .ok (.aload_n 0, 1) := by decide +kernel
theorem dX8_undo_11 : decode cX8_undo 11 = .ok (.getfield 51, 3) := by decide +kernel
theorem dX8_undo_14 : decode cX8_undo 14 = .ok (.aload_n 0, 1) := by decide +kernel
theorem dX8_undo_15 : decode cX8_undo 15 = .ok (.getfield 58, 3) := by decide +kernel
theorem dX8_undo_18 : decode cX8_undo 18 = .ok (.invokevirtual 229, 3) := by decide +kernel
theorem dX8_undo_21 : decode cX8_undo 21 = .ok (.aload_n 0, 1) := by decide +kernel
theorem dX8_undo_22 : decode cX8_undo 22 = .ok (.getfield 12, 3) := by decide +kernel
theorem dX8_undo_25 : decode cX8_undo 25 = .ok (.aload_n 0, 1) := by decide +kernel
theorem dX8_undo_26 : decode cX8_undo 26 = .ok (.getfield 18, 3) := by decide +kernel
theorem dX8_undo_29 : decode cX8_undo 29 = .ok (.invokevirtual 261, 3) := by decide +kernel
theorem dX8_undo_32 : decode cX8_undo 32 = .ok (.aload_n 0, 1) := by decide +kernel
theorem dX8_undo_33 : decode cX8_undo 33 = .ok (.getfield 51, 3) := by decide +kernel
theorem dX8_undo_36 : decode cX8_undo 36 = .ok (.getfield 66, 3) := by decide +kernel
theorem dX8_undo_39 : decode cX8_undo 39 = .ok (.ireturn, 1) := by decide +kernel
theorem dX8_act_0 : decode cX8_act 0 = .ok (.aload_n 0, 1) := by decide +kernel
theorem dX8_act_1 : decode cX8_act 1 = .ok (.getfield 31, 3) := by decide +kernel
theorem dX8_act_4 : decode cX8_act 4 = .ok (.iconst 0, 1) := by decide +kernel
theorem dX8_act_5 : decode cX8_act 5 = .ok (.putfield 268, 3) := by decide +kernel
theorem dX8_act_8 : decode cX8_act 8 = .ok (.aload_n 0, 1) := by decide +kernel
theorem dX8_act_9 : decode cX8_act 9 = .ok (.iload_n 1, 1) := by decide +kernel
theorem dX8_act_10 : decode cX8_act 10 = .ok (.invokevirtual 74, 3) := by decide +kernel
theorem dX8_act_13 : decode cX8_act 13 = .ok (.ifCond .eq 12, 3) := by decide +kernel
theorem dX8_act_16 : decode cX8_act 16 = .ok (.iload_n 2, 1) := by decide +kernel
theorem dX8_act_17 : decode cX8_act 17 = .ok (.ifCond .lt 8, 3) := by decide +kernel
theorem dX8_act_20 : decode cX8_act 20 = .ok (.iload_n 2, 1) := by decide +kernel
theorem dX8_act_21 : decode cX8_act 21 = .ok (.iconst 3, 1) := by decide +kernel
theorem dX8_act_22 : decode cX8_act 22 = .ok (.if_icmp .lt 5, 3) := by decide +kernel
theorem dX8_act_25 : decode cX8_act 25 = .ok (.iconst 0, 1) := by decide +kernel
theorem dX8_act_26 : decode cX8_act 26 = .ok (.ireturn, 1) := by decide +kernel
theorem dX8_act_27 : decode cX8_act 27 = .ok (.aload_n 0, 1) := by decide +kernel
theorem dX8_act_28 : decode cX8_act 28 = .ok (.getfield 31, 3) := by decide +kernel
theorem dX8_act_31 : decode cX8_act 31 = .ok (.iload_n 1, 1) := by decide +kernel
theorem dX8_act_32 : decode cX8_act 32 = .ok (.aload_n 0, 1) := by decide +kernel
theorem dX8_act_33 : decode cX8_act 33 = .ok (.getfield 51, 3) := by decide +kernel
theorem dX8_act_36 : decode cX8_act 36 = .ok (.getfield 77, 3) := by decide +kernel
theorem dX8_act_39 : decode cX8_act 39 = .ok (.iload_n 1, 1) := by decide +kernel
theorem dX8_act_40 : decode cX8_act 40 = .ok (.iaload, 1) := by decide +kernel
theorem dX8_act_41 : decode cX8_act 41 = .ok (.aload_n 0, 1) := by decide +kernel
theorem dX8_act_42 : decode cX8_act 42 = .ok (.getfield 51, 3) := by decide +kernel
theorem dX8_act_45 : decode cX8_act 45 = .ok (.getfield 81, 3) := by decide +kernel
theorem dX8_act_48 : decode cX8_act 48 = .ok (.iload_n 1, 1) := by decide +kernel
theorem dX8_act_49 : decode cX8_act 49 = .ok (.iaload, 1) := by decide +kernel
theorem dX8_act_50 : decode cX8_act 50 = .ok (.iload_n 2, 1) := by decide +kernel
theorem dX8_act_51 : decode cX8_act 51 = .ok (.iload_n 3, 1) := by decide +kernel
theorem dX8_act_52 : decode cX8_act 52 = .ok (.invokevirtual 271, 3) := by decide +kernel
theorem dX8_act_55 : decode cX8_act 55 = .ok (.ireturn, 1) := by decide +kernel
theorem dX8_trace_0 : decode cX8_trace 0 = .ok (.iload_n 1, 1) := by decide +kernel
theorem dX8_trace_1 : decode cX8_trace 1 = .ok (.ifCond .lt 14, 3) := by decide +kernel
theorem dX8_trace_4 : decode cX8_trace 4 = .ok (.iload_n 1, 1) := by decide +kernel
theorem dX8_trace_5 : decode cX8_trace 5 = .ok (.aload_n 0, 1) := by decide +kernel
theorem dX8_trace_6 : decode cX8_trace 6 = .ok (.getfield 31, 3) := by decide +kernel
theorem dX8_trace_9 : decode cX8_trace 9 = .ok (.invokevirtual 275, 3) := by decide +kernel
theorem dX8_trace_12 : decode cX8_trace 12 = .ok (.if_icmp .lt 7, 3) := by decide +kernel
theorem dX8_trace_15 : decode cX8_trace 15 = .ok (.iconst (-1), 1) := by decide +kernel
theorem dX8_trace_16 : decode cX8_trace 16 = .ok (.goto 12, 3) := by decide +kernel
theorem dX8_trace_19 : decode cX8_trace 19 = .ok (.aload_n 0, 1) := by decide +kernel
theorem dX8_trace_20 : decode cX8_trace 20 = .ok (.getfield 31, 3) := by decide +kernel
theorem dX8_trace_23 : decode cX8_trace 23 = .ok (.getfield 278, 3) := by decide +kernel
theorem dX8_trace_26 : decode cX8_trace 26 = .ok (.iload_n 1, 1) := by decide +kernel
theorem dX8_trace_27 : decode cX8_trace 27 = .ok (.iaload, 1) := by decide +kernel
theorem dX8_trace_28 : decode cX8_trace 28 = .ok (.ireturn, 1) := by decide +kernel
theorem dX8_taken_0 : decode cX8_taken 0 = .ok (.iload_n 2, 1) := by decide +kernel
theorem dX8_taken_1 : decode cX8_taken 1 = .ok (.ifCond .lt 9, 3) := by decide +kernel
theorem dX8_taken_4 : decode cX8_taken 4 = .ok (.iload_n 2, 1) := by decide +kernel
theorem dX8_taken_5 : decode cX8_taken 5 = .ok (.bipush 7, 2) := by decide +kernel
theorem dX8_taken_7 : decode cX8_taken 7 = .ok (.if_icmp .lt 6, 3) := by decide +kernel
theorem dX8_taken_10 : decode cX8_taken 10 = .ok (.bipush (-2), 2) := by decide +kernel
theorem dX8_taken_12 : decode cX8_taken 12 = .ok (.ireturn, 1) := by decide +kernel
theorem dX8_taken_13 : decode cX8_taken 13 = .ok (.aload_n 0, 1) := by decide +kernel
theorem dX8_taken_14 : decode cX8_taken 14 = .ok (.iload_n 1, 1) := by decide +kernel
theorem dX8_taken_15 : decode cX8_taken 15 = .ok (.invokevirtual 74, 3) := by decide +kernel
theorem dX8_taken_18 : decode cX8_taken 18 = .ok (.ifCond .ne 6, 3) := by decide +kernel
theorem dX8_taken_21 : decode cX8_taken 21 = .ok (.bipush (-11), 2) := by decide +kernel
theorem dX8_taken_23 : decode cX8_taken 23 = .ok (.ireturn, 1) := by decide +kernel
theorem dX8_taken_24 : decode cX8_taken 24 = .ok (.aload_n 0, 1) := by decide +kernel
theorem dX8_taken_25 : decode cX8_taken 25 = .ok (.getfield 51, 3) := by decide +kernel
theorem dX8_taken_28 : decode cX8_taken 28 = .ok (.getfield 77, 3) := by decide +kernel
theorem dX8_taken_31 : decode cX8_taken 31 = .ok (.iload_n 1, 1) := by decide +kernel
theorem dX8_taken_32 : decode cX8_taken 32 = .ok (.iaload, 1) := by decide +kernel
theorem dX8_taken_33 : decode cX8_taken 33 = .ok (.istore_n 3, 1) := by decide +kernel
theorem dX8_taken_34 : decode cX8_taken 34 = .ok (.iload_n 3, 1) := by decide +kernel
theorem dX8_taken_35 : decode cX8_taken 35 = .ok (.iload_n 2, 1) := by decide +kernel
theorem dX8_taken_36 : decode cX8_taken 36 = .ok (.invokestatic 281, 3) := by decide +kernel
theorem dX8_taken_39 : decode cX8_taken 39 = .ok (.ifCond .eq 7, 3) := by decide +kernel
theorem dX8_taken_42 : decode cX8_taken 42 = .ok (.iload_n 3, 1) := by decide +kernel
theorem dX8_taken_43 : decode cX8_taken 43 = .ok (.goto 5, 3) := by decide +kernel
theorem dX8_taken_46 : decode cX8_taken 46 = .ok (.bipush (-12), 2) := by decide +kernel
theorem dX8_taken_48 : decode cX8_taken 48 = .ok (.ireturn, 1) := by decide +kernel
theorem dX8_count_0 : decode cX8_count 0 = .ok (.iload_n 1, 1) := by decide +kernel
theorem dX8_count_1 : decode cX8_count 1 = .ok (.tableswitch 105 0 6 #[43, 51, 56, 67, 78, 89, 97], 43) := by decide +kernel
theorem dX8_count_44 : decode cX8_count 44 = .ok (.aload_n 0, 1) := by decide +kernel
theorem dX8_count_45 : decode cX8_count 45 = .ok (.getfield 51, 3) := by decide +kernel
theorem dX8_count_48 : decode cX8_count 48 = .ok (.getfield 66, 3) := by decide +kernel
theorem dX8_count_51 : decode cX8_count 51 = .ok (.ireturn, 1) := by decide +kernel
theorem dX8_count_52 : decode cX8_count 52 = .ok (.aload_n 0, 1) := by decide +kernel
theorem dX8_count_53 : decode cX8_count 53 = .ok (.getfield 134, 3) := by decide +kernel
theorem dX8_count_56 : decode cX8_count 56 = .ok (.ireturn, 1) := by decide +kernel
theorem dX8_count_57 : decode cX8_count 57 = .ok (.aload_n 0, 1) := by decide +kernel
theorem dX8_count_58 : decode cX8_count 58 = .ok (.getfield 12, 3) := by decide +kernel
theorem dX8_count_61 : decode cX8_count 61 = .ok (.getfield 185, 3) := by decide +kernel
theorem dX8_count_64 : decode cX8_count 64 = .ok (.getfield 233, 3) := by decide +kernel
theorem dX8_count_67 : decode cX8_count 67 = .ok (.ireturn, 1) := by decide +kernel
theorem dX8_count_68 : decode cX8_count 68 = .ok (.aload_n 0, 1) := by decide +kernel
theorem dX8_count_69 : decode cX8_count 69 = .ok (.getfield 12, 3) := by decide +kernel
theorem dX8_count_72 : decode cX8_count 72 = .ok (.getfield 222, 3) := by decide +kernel
theorem dX8_count_75 : decode cX8_count 75 = .ok (.getfield 233, 3) := by decide +kernel
theorem dX8_count_78 : decode cX8_count 78 = .ok (.ireturn, 1) := by decide +kernel
theorem dX8_count_79 : decode cX8_count 79 = .ok (.aload_n 0, 1) := by decide +kernel
theorem dX8_count_80 : decode cX8_count 80 = .ok (.getfield 12, 3) := by decide +kernel
theorem dX8_count_83 : decode cX8_count 83 = .ok (.getfield 244, 3) := by decide +kernel
theorem dX8_count_86 : decode cX8_count 86 = .ok (.getfield 233, 3) := by decide +kernel
theorem dX8_count_89 : decode cX8_count 89 = .ok (.ireturn, 1) := by decide +kernel
theorem dX8_count_90 : decode cX8_count 90 = .ok (.aload_n 0, 1) := by decide +kernel
theorem dX8_count_91 : decode cX8_count 91 = .ok (.getfield 24, 3) := by decide +kernel
theorem dX8_count_94 : decode cX8_count 94 = .ok (.getfield 128, 3) := by decide +kernel
theorem dX8_count_97 : decode cX8_count 97 = .ok (.ireturn, 1) := by decide +kernel
theorem dX8_count_98 : decode cX8_count 98 = .ok (.aload_n 0, 1) := by decide +kernel
theorem dX8_count_99 : decode cX8_count 99 = .ok (.getfield 31, 3) := by decide +kernel
theorem dX8_count_102 : decode cX8_count 102 = .ok (.getfield 268, 3) := by decide +kernel
theorem dX8_count_105 : decode cX8_count 105 = .ok (.ireturn, 1) := by decide +kernel
theorem dX8_count_106 : decode cX8_count 106 = .ok (.bipush (-2), 2) := by decide +kernel
theorem dX8_count_108 : decode cX8_count 108 = .ok (.ireturn, 1) := by decide +kernel
theorem dX8_tape_0 : decode cX8_tape 0 = .ok (.iload_n 1, 1) := by decide +kernel
theorem dX8_tape_1 : decode cX8_tape 1 = .ok (.invokestatic 247, 3) := by decide +kernel
theorem dX8_tape_4 : decode cX8_tape 4 = .ok (.ifCond .ne 5, 3) := by decide +kernel
theorem dX8_tape_7 : decode cX8_tape 7 = .ok (.iconst (-1), 1) := by decide +kernel
theorem dX8_tape_8 : decode cX8_tape 8 = .ok (.ireturn, 1) := by decide +kernel
theorem dX8_tape_9 : decode cX8_tape 9 = .ok (.iload_n 2, 1) := by decide +kernel
theorem dX8_tape_10 : decode cX8_tape 10 = .ok (.iconst (-1), 1) := by decide +kernel
theorem dX8_tape_11 : decode cX8_tape 11 = .ok (.if_icmp .ne 16, 3) := by decide +kernel
theorem dX8_tape_14 : decode cX8_tape 14 = .ok (.aload_n 0, 1) := by decide +kernel
theorem dX8_tape_15 : decode cX8_tape 15 = .ok (.getfield 37, 3) := by decide +kernel
theorem dX8_tape_18 : decode cX8_tape 18 = .ok (.iload_n 1, 1) := by decide +kernel
theorem dX8_tape_19 : decode cX8_tape 19 = .ok (.aaload, 1) := by decide +kernel
theorem dX8_tape_20 : decode cX8_tape 20 = .ok (.iconst (-1), 1) := by decide +kernel
theorem dX8_tape_21 : decode cX8_tape 21 = .ok (.iconst 0, 1) := by decide +kernel
theorem dX8_tape_22 : decode cX8_tape 22 = .ok (.invokevirtual 284, 3) := by decide +kernel
theorem dX8_tape_25 : decode cX8_tape 25 = .ok (.iconst 1, 1) := by decide +kernel
theorem dX8_tape_26 : decode cX8_tape 26 = .ok (.ireturn, 1) := by decide +kernel
theorem dX8_tape_27 : decode cX8_tape 27 = .ok (.iload_n 2, 1) := by decide +kernel
theorem dX8_tape_28 : decode cX8_tape 28 = .ok (.ifCond .lt 14, 3) := by decide +kernel
theorem dX8_tape_31 : decode cX8_tape 31 = .ok (.iload_n 2, 1) := by decide +kernel
theorem dX8_tape_32 : decode cX8_tape 32 = .ok (.iconst 5, 1) := by decide +kernel
theorem dX8_tape_33 : decode cX8_tape 33 = .ok (.if_icmp .ge 9, 3) := by decide +kernel
theorem dX8_tape_36 : decode cX8_tape 36 = .ok (.iload_n 3, 1) := by decide +kernel
theorem dX8_tape_37 : decode cX8_tape 37 = .ok (.bipush 60, 2) := by decide +kernel
theorem dX8_tape_39 : decode cX8_tape 39 = .ok (.if_icmp .le 6, 3) := by decide +kernel
theorem dX8_tape_42 : decode cX8_tape 42 = .ok (.bipush (-2), 2) := by decide +kernel
theorem dX8_tape_44 : decode cX8_tape 44 = .ok (.ireturn, 1) := by decide +kernel
theorem dX8_tape_45 : decode cX8_tape 45 = .ok (.iload_n 3, 1) := by decide +kernel
theorem dX8_tape_46 : decode cX8_tape 46 = .ok (.ifCond .ge 6, 3) := by decide +kernel
theorem dX8_tape_49 : decode cX8_tape 49 = .ok (.bipush (-14), 2) := by decide +kernel
theorem dX8_tape_51 : decode cX8_tape 51 = .ok (.ireturn, 1) := by decide +kernel
theorem dX8_tape_52 : decode cX8_tape 52 = .ok (.aload_n 0, 1) := by decide +kernel
theorem dX8_tape_53 : decode cX8_tape 53 = .ok (.getfield 37, 3) := by decide +kernel
theorem dX8_tape_56 : decode cX8_tape 56 = .ok (.iload_n 1, 1) := by decide +kernel
theorem dX8_tape_57 : decode cX8_tape 57 = .ok (.aaload, 1) := by decide +kernel
theorem dX8_tape_58 : decode cX8_tape 58 = .ok (.iload_n 2, 1) := by decide +kernel
theorem dX8_tape_59 : decode cX8_tape 59 = .ok (.iload_n 3, 1) := by decide +kernel
theorem dX8_tape_60 : decode cX8_tape 60 = .ok (.invokevirtual 284, 3) := by decide +kernel
theorem dX8_tape_63 : decode cX8_tape 63 = .ok (.iconst 1, 1) := by decide +kernel
theorem dX8_tape_64 : decode cX8_tape 64 = .ok (.ireturn, 1) := by decide +kernel
theorem dX8_item_0 : decode cX8_item 0 = .ok (.iload_n 1, 1) := by decide +kernel
theorem dX8_item_1 : decode cX8_item 1 = .ok (.invokestatic 247, 3) := by decide +kernel
theorem dX8_item_4 : decode cX8_item 4 = .ok (.ifCond .ne 5, 3) := by decide +kernel
theorem dX8_item_7 : decode cX8_item 7 = .ok (.iconst (-1), 1) := by decide +kernel
theorem dX8_item_8 : decode cX8_item 8 = .ok (.ireturn, 1) := by decide +kernel
theorem dX8_item_9 : decode cX8_item 9 = .ok (.aload_n 0, 1) := by decide +kernel
theorem dX8_item_10 : decode cX8_item 10 = .ok (.getfield 37, 3) := by decide +kernel
theorem dX8_item_13 : decode cX8_item 13 = .ok (.iload_n 1, 1) := by decide +kernel
theorem dX8_item_14 : decode cX8_item 14 = .ok (.aaload, 1) := by decide +kernel
theorem dX8_item_15 : decode cX8_item 15 = .ok (.astore 5, 2) := by decide +kernel
theorem dX8_item_17 : decode cX8_item 17 = .ok (.aload 5, 2) := by decide +kernel
theorem dX8_item_19 : decode cX8_item 19 = .ok (.invokevirtual 250, 3) := by decide +kernel
theorem dX8_item_22 : decode cX8_item 22 = .ok (.ifCond .ne 6, 3) := by decide +kernel
theorem dX8_item_25 : decode cX8_item 25 = .ok (.bipush (-11), 2) := by decide +kernel
theorem dX8_item_27 : decode cX8_item 27 = .ok (.ireturn, 1) := by decide +kernel
theorem dX8_item_28 : decode cX8_item 28 = .ok (.iload_n 2, 1) := by decide +kernel
theorem dX8_item_29 : decode cX8_item 29 = .ok (.ifCond .lt 12, 3) := by decide +kernel
theorem dX8_item_32 : decode cX8_item 32 = .ok (.iload_n 2, 1) := by decide +kernel
theorem dX8_item_33 : decode cX8_item 33 = .ok (.aload 5, 2) := by decide +kernel
theorem dX8_item_35 : decode cX8_item 35 = .ok (.getfield 256, 3) := by decide +kernel
theorem dX8_item_38 : decode cX8_item 38 = .ok (.if_icmp .lt 6, 3) := by decide +kernel
theorem dX8_item_41 : decode cX8_item 41 = .ok (.bipush (-13), 2) := by decide +kernel
theorem dX8_item_43 : decode cX8_item 43 = .ok (.ireturn, 1) := by decide +kernel
theorem dX8_item_44 : decode cX8_item 44 = .ok (.aload 5, 2) := by decide +kernel
theorem dX8_item_46 : decode cX8_item 46 = .ok (.getfield 257, 3) := by decide +kernel
theorem dX8_item_49 : decode cX8_item 49 = .ok (.iload_n 2, 1) := by decide +kernel
theorem dX8_item_50 : decode cX8_item 50 = .ok (.aload 5, 2) := by decide +kernel
theorem dX8_item_52 : decode cX8_item 52 = .ok (.lload_n 3, 1) := by decide +kernel
theorem dX8_item_53 : decode cX8_item 53 = .ok (.invokevirtual 287, 3) := by decide +kernel
theorem dX8_item_56 : decode cX8_item 56 = .ok (.lastore, 1) := by decide +kernel
theorem dX8_item_57 : decode cX8_item 57 = .ok (.iconst 1, 1) := by decide +kernel
theorem dX8_item_58 : decode cX8_item 58 = .ok (.ireturn, 1) := by decide +kernel
theorem dX8_read_0 : decode cX8_read 0 = .ok (.iload_n 1, 1) := by decide +kernel
theorem dX8_read_1 : decode cX8_read 1 = .ok (.invokestatic 247, 3) := by decide +kernel
theorem dX8_read_4 : decode cX8_read 4 = .ok (.ifCond .ne 7, 3) := by decide +kernel
theorem dX8_read_7 : decode cX8_read 7 = .ok (.ldc2_w 210, 3) := by decide +kernel
theorem dX8_read_10 : decode cX8_read 10 = .ok (.lreturn, 1) := by decide +kernel
theorem dX8_read_11 : decode cX8_read 11 = .ok (.aload_n 0, 1) := by decide +kernel
theorem dX8_read_12 : decode cX8_read 12 = .ok (.getfield 37, 3) := by decide +kernel
theorem dX8_read_15 : decode cX8_read 15 = .ok (.iload_n 1, 1) := by decide +kernel
theorem dX8_read_16 : decode cX8_read 16 = .ok (.aaload, 1) := by decide +kernel
theorem dX8_read_17 : decode cX8_read 17 = .ok (.astore_n 3, 1) := by decide +kernel
theorem dX8_read_18 : decode cX8_read 18 = .ok (.iload_n 2, 1) := by decide +kernel
theorem dX8_read_19 : decode cX8_read 19 = .ok (.ifCond .lt 11, 3) := by decide +kernel
theorem dX8_read_22 : decode cX8_read 22 = .ok (.iload_n 2, 1) := by decide +kernel
theorem dX8_read_23 : decode cX8_read 23 = .ok (.aload_n 3, 1) := by decide +kernel
theorem dX8_read_24 : decode cX8_read 24 = .ok (.getfield 256, 3) := by decide +kernel
theorem dX8_read_27 : decode cX8_read 27 = .ok (.if_icmp .lt 9, 3) := by decide +kernel
theorem dX8_read_30 : decode cX8_read 30 = .ok (.ldc2_w 210, 3) := by decide +kernel
theorem dX8_read_33 : decode cX8_read 33 = .ok (.goto 9, 3) := by decide +kernel
theorem dX8_read_36 : decode cX8_read 36 = .ok (.aload_n 3, 1) := by decide +kernel
theorem dX8_read_37 : decode cX8_read 37 = .ok (.getfield 257, 3) := by decide +kernel
theorem dX8_read_40 : decode cX8_read 40 = .ok (.iload_n 2, 1) := by decide +kernel
theorem dX8_read_41 : decode cX8_read 41 = .ok (.laload, 1) := by decide +kernel
theorem dX8_read_42 : decode cX8_read 42 = .ok (.lreturn, 1) := by decide +kernel
theorem dX8_shift_0 : decode cX8_shift 0 = .ok (.iload_n 1, 1) := by decide +kernel
theorem dX8_shift_1 : decode cX8_shift 1 = .ok (.invokestatic 247, 3) := by decide +kernel
theorem dX8_shift_4 : decode cX8_shift 4 = .ok (.ifCond .eq 10, 3) := by decide +kernel
theorem dX8_shift_7 : decode cX8_shift 7 = .ok (.iload_n 3, 1) := by decide +kernel
theorem dX8_shift_8 : decode cX8_shift 8 = .ok (.invokestatic 247, 3) := by decide +kernel
theorem dX8_shift_11 : decode cX8_shift 11 = .ok (.ifCond .ne 5, 3) := by decide +kernel
theorem dX8_shift_14 : decode cX8_shift 14 = .ok (.iconst (-1), 1) := by decide +kernel
theorem dX8_shift_15 : decode cX8_shift 15 = .ok (.ireturn, 1) := by decide +kernel
theorem dX8_shift_16 : decode cX8_shift 16 = .ok (.aload_n 0, 1) := by decide +kernel
theorem dX8_shift_17 : decode cX8_shift 17 = .ok (.getfield 37, 3) := by decide +kernel
theorem dX8_shift_20 : decode cX8_shift 20 = .ok (.iload_n 1, 1) := by decide +kernel
theorem dX8_shift_21 : decode cX8_shift 21 = .ok (.aaload, 1) := by decide +kernel
theorem dX8_shift_22 : decode cX8_shift 22 = .ok (.astore 6, 2) := by decide +kernel
theorem dX8_shift_24 : decode cX8_shift 24 = .ok (.aload_n 0, 1) := by decide +kernel
theorem dX8_shift_25 : decode cX8_shift 25 = .ok (.getfield 37, 3) := by decide +kernel
theorem dX8_shift_28 : decode cX8_shift 28 = .ok (.iload_n 3, 1) := by decide +kernel
theorem dX8_shift_29 : decode cX8_shift 29 = .ok (.aaload, 1) := by decide +kernel
theorem dX8_shift_30 : decode cX8_shift 30 = .ok (.astore 7, 2) := by decide +kernel
theorem dX8_shift_32 : decode cX8_shift 32 = .ok (.aload 6, 2) := by decide +kernel
theorem dX8_shift_34 : decode cX8_shift 34 = .ok (.invokevirtual 250, 3) := by decide +kernel
theorem dX8_shift_37 : decode cX8_shift 37 = .ok (.ifCond .eq 11, 3) := by decide +kernel
theorem dX8_shift_40 : decode cX8_shift 40 = .ok (.aload 7, 2) := by decide +kernel
theorem dX8_shift_42 : decode cX8_shift 42 = .ok (.invokevirtual 250, 3) := by decide +kernel
theorem dX8_shift_45 : decode cX8_shift 45 = .ok (.ifCond .ne 6, 3) := by decide +kernel
theorem dX8_shift_48 : decode cX8_shift 48 = .ok (.bipush (-11), 2) := by decide +kernel
theorem dX8_shift_50 : decode cX8_shift 50 = .ok (.ireturn, 1) := by decide +kernel
theorem dX8_shift_51 : decode cX8_shift 51 = .ok (.aload 6, 2) := by decide +kernel
theorem dX8_shift_53 : decode cX8_shift 53 = .ok (.getfield 253, 3) := by decide +kernel
theorem dX8_shift_56 : decode cX8_shift 56 = .ok (.aload 7, 2) := by decide +kernel
theorem dX8_shift_58 : decode cX8_shift 58 = .ok (.getfield 253, 3) := by decide +kernel
theorem dX8_shift_61 : decode cX8_shift 61 = .ok (.if_icmp .eq 6, 3) := by decide +kernel
theorem dX8_shift_64 : decode cX8_shift 64 = .ok (.bipush (-12), 2) := by decide +kernel
theorem dX8_shift_66 : decode cX8_shift 66 = .ok (.ireturn, 1) := by decide +kernel
theorem dX8_shift_67 : decode cX8_shift 67 = .ok (.aload 6, 2) := by decide +kernel
theorem dX8_shift_69 : decode cX8_shift 69 = .ok (.iload_n 2, 1) := by decide +kernel
theorem dX8_shift_70 : decode cX8_shift 70 = .ok (.iload 5, 2) := by decide +kernel
theorem dX8_shift_72 : decode cX8_shift 72 = .ok (.invokevirtual 291, 3) := by decide +kernel
theorem dX8_shift_75 : decode cX8_shift 75 = .ok (.ifCond .eq 15, 3) := by decide +kernel
theorem dX8_shift_78 : decode cX8_shift 78 = .ok (.aload 7, 2) := by decide +kernel
theorem dX8_shift_80 : decode cX8_shift 80 = .ok (.iload 4, 2) := by decide +kernel
theorem dX8_shift_82 : decode cX8_shift 82 = .ok (.iload 5, 2) := by decide +kernel
theorem dX8_shift_84 : decode cX8_shift 84 = .ok (.invokevirtual 291, 3) := by decide +kernel
theorem dX8_shift_87 : decode cX8_shift 87 = .ok (.ifCond .ne 6, 3) := by decide +kernel
theorem dX8_shift_90 : decode cX8_shift 90 = .ok (.bipush (-13), 2) := by decide +kernel
theorem dX8_shift_92 : decode cX8_shift 92 = .ok (.ireturn, 1) := by decide +kernel
theorem dX8_shift_93 : decode cX8_shift 93 = .ok (.aload 6, 2) := by decide +kernel
theorem dX8_shift_95 : decode cX8_shift 95 = .ok (.getfield 257, 3) := by decide +kernel
theorem dX8_shift_98 : decode cX8_shift 98 = .ok (.iload_n 2, 1) := by decide +kernel
theorem dX8_shift_99 : decode cX8_shift 99 = .ok (.aload 7, 2) := by decide +kernel
theorem dX8_shift_101 : decode cX8_shift 101 = .ok (.getfield 257, 3) := by decide +kernel
theorem dX8_shift_104 : decode cX8_shift 104 = .ok (.iload 4, 2) := by decide +kernel
theorem dX8_shift_106 : decode cX8_shift 106 = .ok (.iload 5, 2) := by decide +kernel
theorem dX8_shift_108 : decode cX8_shift 108 = .ok (.invokestatic 294, 3) := by decide +kernel
theorem dX8_shift_111 : decode cX8_shift 111 = .ok (.iload 5, 2) := by decide +kernel
theorem dX8_shift_113 : decode cX8_shift 113 = .ok (.ireturn, 1) := by decide +kernel
theorem dX8_isTraveller_0 : decode cX8_isTraveller 0 = .ok (.iload_n 1, 1) := by decide +kernel
theorem dX8_isTraveller_1 : decode cX8_isTraveller 1 = .ok (.ifCond .lt 18, 3) := by decide +kernel
theorem dX8_isTraveller_4 : decode cX8_isTraveller 4 = .ok (.iload_n 1, 1) := by decide +kernel
theorem dX8_isTraveller_5 : decode cX8_isTraveller 5 = .ok (.aload_n 0, 1) := by decide +kernel
theorem dX8_isTraveller_6 : decode cX8_isTraveller 6 = .ok (.getfield 51, 3) := by decide +kernel
theorem dX8_isTraveller_9 : decode cX8_isTraveller 9 = .ok (.getfield 66, 3) := by decide +kernel
theorem dX8_isTraveller_12 : decode cX8_isTraveller 12 = .ok (.if_icmp .ge 7, 3) := by decide +kernel
theorem dX8_isTraveller_15 : decode cX8_isTraveller 15 = .ok (.iconst 1, 1) := by decide +kernel
theorem dX8_isTraveller_16 : decode cX8_isTraveller 16 = .ok (.goto 4, 3) := by decide +kernel
theorem dX8_isTraveller_19 : decode cX8_isTraveller 19 = .ok (.iconst 0, 1) := by decide +kernel
theorem dX8_isTraveller_20 : decode cX8_isTraveller 20 = .ok (.ireturn, 1) := by decide +kernel
theorem dX8_isCell_0 : decode cX8_isCell 0 = .ok (.iload_n 0, 1) := by decide +kernel
theorem dX8_isCell_1 : decode cX8_isCell 1 = .ok (.ifCond .lt 13, 3) := by decide +kernel
theorem dX8_isCell_4 : decode cX8_isCell 4 = .ok (.iload_n 0, 1) := by decide +kernel
theorem dX8_isCell_5 : decode cX8_isCell 5 = .ok (.bipush 16, 2) := by decide +kernel
theorem dX8_isCell_7 : decode cX8_isCell 7 = .ok (.if_icmp .ge 7, 3) := by decide +kernel
theorem dX8_isCell_10 : decode cX8_isCell 10 = .ok (.iconst 1, 1) := by decide +kernel
theorem dX8_isCell_11 : decode cX8_isCell 11 = .ok (.goto 4, 3) := by decide +kernel
theorem dX8_isCell_14 : decode cX8_isCell 14 = .ok (.iconst 0, 1) := by decide +kernel
theorem dX8_isCell_15 : decode cX8_isCell 15 = .ok (.ireturn, 1) := by decide +kernel
theorem dX8_isChart_0 : decode cX8_isChart 0 = .ok (.iload_n 0, 1) := by decide +kernel
theorem dX8_isChart_1 : decode cX8_isChart 1 = .ok (.ifCond .lt 14, 3) := by decide +kernel
theorem dX8_isChart_4 : decode cX8_isChart 4 = .ok (.iload_n 0, 1) := by decide +kernel
theorem dX8_isChart_5 : decode cX8_isChart 5 = .ok (.ldc_w 300, 3) := by decide +kernel
theorem dX8_isChart_8 : decode cX8_isChart 8 = .ok (.if_icmp .gt 7, 3) := by decide +kernel
theorem dX8_isChart_11 : decode cX8_isChart 11 = .ok (.iconst 1, 1) := by decide +kernel
theorem dX8_isChart_12 : decode cX8_isChart 12 = .ok (.goto 4, 3) := by decide +kernel
theorem dX8_isChart_15 : decode cX8_isChart 15 = .ok (.iconst 0, 1) := by decide +kernel
theorem dX8_isChart_16 : decode cX8_isChart 16 = .ok (.ireturn, 1) := by decide +kernel
theorem dX8_isHours_0 : decode cX8_isHours 0 = .ok (.iload_n 0, 1) := by decide +kernel
theorem dX8_isHours_1 : decode cX8_isHours 1 = .ok (.ifCond .lt 13, 3) := by decide +kernel
theorem dX8_isHours_4 : decode cX8_isHours 4 = .ok (.iload_n 0, 1) := by decide +kernel
theorem dX8_isHours_5 : decode cX8_isHours 5 = .ok (.bipush 40, 2) := by decide +kernel
theorem dX8_isHours_7 : decode cX8_isHours 7 = .ok (.if_icmp .gt 7, 3) := by decide +kernel
theorem dX8_isHours_10 : decode cX8_isHours 10 = .ok (.iconst 1, 1) := by decide +kernel
theorem dX8_isHours_11 : decode cX8_isHours 11 = .ok (.goto 4, 3) := by decide +kernel
theorem dX8_isHours_14 : decode cX8_isHours 14 = .ok (.iconst 0, 1) := by decide +kernel
theorem dX8_isHours_15 : decode cX8_isHours 15 = .ok (.ireturn, 1) := by decide +kernel
theorem dX8_isTape_0 : decode cX8_isTape 0 = .ok (.iload_n 0, 1) := by decide +kernel
theorem dX8_isTape_1 : decode cX8_isTape 1 = .ok (.ifCond .lt 13, 3) := by decide +kernel
theorem dX8_isTape_4 : decode cX8_isTape 4 = .ok (.iload_n 0, 1) := by decide +kernel
theorem dX8_isTape_5 : decode cX8_isTape 5 = .ok (.bipush 6, 2) := by decide +kernel
theorem dX8_isTape_7 : decode cX8_isTape 7 = .ok (.if_icmp .ge 7, 3) := by decide +kernel
theorem dX8_isTape_10 : decode cX8_isTape 10 = .ok (.iconst 1, 1) := by decide +kernel
theorem dX8_isTape_11 : decode cX8_isTape 11 = .ok (.goto 4, 3) := by decide +kernel
theorem dX8_isTape_14 : decode cX8_isTape 14 = .ok (.iconst 0, 1) := by decide +kernel
theorem dX8_isTape_15 : decode cX8_isTape 15 = .ok (.ireturn, 1) := by decide +kernel
theorem dX8_isPlanRow_0 : decode cX8_isPlanRow 0 = .ok (.iload_n 1, 1) := by decide +kernel
theorem dX8_isPlanRow_1 : decode cX8_isPlanRow 1 = .ok (.tableswitch 67 0 3 #[31, 33, 39, 33], 31) := by decide +kernel
theorem dX8_isPlanRow_32 : decode cX8_isPlanRow 32 = .ok (.iconst 1, 1) := by decide +kernel
theorem dX8_isPlanRow_33 : decode cX8_isPlanRow 33 = .ok (.ireturn, 1) := by decide +kernel
theorem dX8_isPlanRow_34 : decode cX8_isPlanRow 34 = .ok (.aload_n 0, 1) := by decide +kernel
theorem dX8_isPlanRow_35 : decode cX8_isPlanRow 35 = .ok (.iload_n 2, 1) := by decide +kernel
theorem dX8_isPlanRow_36 : decode cX8_isPlanRow 36 = .ok (.invokevirtual 74, 3) := by decide +kernel
theorem dX8_isPlanRow_39 : decode cX8_isPlanRow 39 = .ok (.ireturn, 1) := by decide +kernel
theorem dX8_isPlanRow_40 : decode cX8_isPlanRow 40 = .ok (.aload_n 0, 1) := by decide +kernel
theorem dX8_isPlanRow_41 : decode cX8_isPlanRow 41 = .ok (.iload_n 2, 1) := by decide +kernel
theorem dX8_isPlanRow_42 : decode cX8_isPlanRow 42 = .ok (.bipush 10, 2) := by decide +kernel
theorem dX8_isPlanRow_44 : decode cX8_isPlanRow 44 = .ok (.idiv, 1) := by decide +kernel
theorem dX8_isPlanRow_45 : decode cX8_isPlanRow 45 = .ok (.invokevirtual 74, 3) := by decide +kernel
theorem dX8_isPlanRow_48 : decode cX8_isPlanRow 48 = .ok (.ifCond .eq 18, 3) := by decide +kernel
theorem dX8_isPlanRow_51 : decode cX8_isPlanRow 51 = .ok (.aload_n 0, 1) := by decide +kernel
theorem dX8_isPlanRow_52 : decode cX8_isPlanRow 52 = .ok (.iload_n 2, 1) := by decide +kernel
theorem dX8_isPlanRow_53 : decode cX8_isPlanRow 53 = .ok (.bipush 10, 2) := by decide +kernel
theorem dX8_isPlanRow_55 : decode cX8_isPlanRow 55 = .ok (.irem, 1) := by decide +kernel
theorem dX8_isPlanRow_56 : decode cX8_isPlanRow 56 = .ok (.invokevirtual 74, 3) := by decide +kernel
theorem dX8_isPlanRow_59 : decode cX8_isPlanRow 59 = .ok (.ifCond .eq 7, 3) := by decide +kernel
theorem dX8_isPlanRow_62 : decode cX8_isPlanRow 62 = .ok (.iconst 1, 1) := by decide +kernel
theorem dX8_isPlanRow_63 : decode cX8_isPlanRow 63 = .ok (.goto 4, 3) := by decide +kernel
theorem dX8_isPlanRow_66 : decode cX8_isPlanRow 66 = .ok (.iconst 0, 1) := by decide +kernel
theorem dX8_isPlanRow_67 : decode cX8_isPlanRow 67 = .ok (.ireturn, 1) := by decide +kernel
theorem dX8_isPlanRow_68 : decode cX8_isPlanRow 68 = .ok (.iconst 0, 1) := by decide +kernel
theorem dX8_isPlanRow_69 : decode cX8_isPlanRow 69 = .ok (.ireturn, 1) := by decide +kernel
theorem dX8_isUnder_0 : decode cX8_isUnder 0 = .ok (.iload_n 0, 1) := by decide +kernel
theorem dX8_isUnder_1 : decode cX8_isUnder 1 = .ok (.istore_n 2, 1) := by decide +kernel
theorem dX8_isUnder_2 : decode cX8_isUnder 2 = .ok (.iconst 0, 1) := by decide +kernel
theorem dX8_isUnder_3 : decode cX8_isUnder 3 = .ok (.istore_n 3, 1) := by decide +kernel
theorem dX8_isUnder_4 : decode cX8_isUnder 4 = .ok (.iload_n 3, 1) := by decide +kernel
theorem dX8_isUnder_5 : decode cX8_isUnder 5 = .ok (.bipush 7, 2) := by decide +kernel
theorem dX8_isUnder_7 : decode cX8_isUnder 7 = .ok (.if_icmp .ge 32, 3) := by decide +kernel
theorem dX8_isUnder_10 : decode cX8_isUnder 10 = .ok (.iload_n 2, 1) := by decide +kernel
theorem dX8_isUnder_11 : decode cX8_isUnder 11 = .ok (.ifCond .lt 28, 3) := by decide +kernel
theorem dX8_isUnder_14 : decode cX8_isUnder 14 = .ok (.iload_n 2, 1) := by decide +kernel
theorem dX8_isUnder_15 : decode cX8_isUnder 15 = .ok (.bipush 7, 2) := by decide +kernel
theorem dX8_isUnder_17 : decode cX8_isUnder 17 = .ok (.if_icmp .ge 22, 3) := by decide +kernel
theorem dX8_isUnder_20 : decode cX8_isUnder 20 = .ok (.iload_n 2, 1) := by decide +kernel
theorem dX8_isUnder_21 : decode cX8_isUnder 21 = .ok (.iload_n 1, 1) := by decide +kernel
theorem dX8_isUnder_22 : decode cX8_isUnder 22 = .ok (.if_icmp .ne 5, 3) := by decide +kernel
theorem dX8_isUnder_25 : decode cX8_isUnder 25 = .ok (.iconst 1, 1) := by decide +kernel
theorem dX8_isUnder_26 : decode cX8_isUnder 26 = .ok (.ireturn, 1) := by decide +kernel
theorem dX8_isUnder_27 : decode cX8_isUnder 27 = .ok (.getstatic 301, 3) := by decide +kernel
theorem dX8_isUnder_30 : decode cX8_isUnder 30 = .ok (.iload_n 2, 1) := by decide +kernel
theorem dX8_isUnder_31 : decode cX8_isUnder 31 = .ok (.iaload, 1) := by decide +kernel
theorem dX8_isUnder_32 : decode cX8_isUnder 32 = .ok (.istore_n 2, 1) := by decide +kernel
theorem dX8_isUnder_33 : decode cX8_isUnder 33 = .ok (.iinc 3 1, 3) := by decide +kernel
theorem dX8_isUnder_36 : decode cX8_isUnder 36 = .ok (.goto (-32), 3) := by decide +kernel
theorem dX8_isUnder_39 : decode cX8_isUnder 39 = .ok (.iconst 0, 1) := by decide +kernel
theorem dX8_isUnder_40 : decode cX8_isUnder 40 = .ok (.ireturn, 1) := by decide +kernel
theorem dX8_orMissing_0 : decode cX8_orMissing 0 = .ok (.iload_n 0, 1) := by decide +kernel
theorem dX8_orMissing_1 : decode cX8_orMissing 1 = .ok (.ifCond .ge 8, 3) := by decide +kernel
theorem dX8_orMissing_4 : decode cX8_orMissing 4 = .ok (.bipush (-5), 2) := by decide +kernel
theorem dX8_orMissing_6 : decode cX8_orMissing 6 = .ok (.goto 4, 3) := by decide +kernel
theorem dX8_orMissing_9 : decode cX8_orMissing 9 = .ok (.iload_n 0, 1) := by decide +kernel
theorem dX8_orMissing_10 : decode cX8_orMissing 10 = .ok (.ireturn, 1) := by decide +kernel
theorem dX8_thereOf_0 : decode cX8_thereOf 0 = .ok (.aload_n 0, 1) := by decide +kernel
theorem dX8_thereOf_1 : decode cX8_thereOf 1 = .ok (.getfield 55, 3) := by decide +kernel
theorem dX8_thereOf_4 : decode cX8_thereOf 4 = .ok (.aload_n 0, 1) := by decide +kernel
theorem dX8_thereOf_5 : decode cX8_thereOf 5 = .ok (.getfield 51, 3) := by decide +kernel
theorem dX8_thereOf_8 : decode cX8_thereOf 8 = .ok (.iconst 1, 1) := by decide +kernel
theorem dX8_thereOf_9 : decode cX8_thereOf 9 = .ok (.iload_n 1, 1) := by decide +kernel
theorem dX8_thereOf_10 : decode cX8_thereOf 10 = .ok (.ishl, 1) := by decide +kernel
theorem dX8_thereOf_11 : decode cX8_thereOf 11 = .ok (.invokevirtual 172, 3) := by decide +kernel
theorem dX8_thereOf_14 : decode cX8_thereOf 14 = .ok (.aload_n 0, 1) := by decide +kernel
theorem dX8_thereOf_15 : decode cX8_thereOf 15 = .ok (.getfield 55, 3) := by decide +kernel
theorem dX8_thereOf_18 : decode cX8_thereOf 18 = .ok (.iload_n 1, 1) := by decide +kernel
theorem dX8_thereOf_19 : decode cX8_thereOf 19 = .ok (.bipush 40, 2) := by decide +kernel
theorem dX8_thereOf_21 : decode cX8_thereOf 21 = .ok (.invokevirtual 304, 3) := by decide +kernel
theorem dX8_thereOf_24 : decode cX8_thereOf 24 = .ok (.ireturn, 1) := by decide +kernel
theorem dX8_keyFor_0 : decode cX8_keyFor 0 = .ok (.aload_n 0, 1) := by decide +kernel
theorem dX8_keyFor_1 : decode cX8_keyFor 1 = .ok (.getfield 55, 3) := by decide +kernel
theorem dX8_keyFor_4 : decode cX8_keyFor 4 = .ok (.aload_n 0, 1) := by decide +kernel
theorem dX8_keyFor_5 : decode cX8_keyFor 5 = .ok (.getfield 51, 3) := by decide +kernel
theorem dX8_keyFor_8 : decode cX8_keyFor 8 = .ok (.iconst 1, 1) := by decide +kernel
theorem dX8_keyFor_9 : decode cX8_keyFor 9 = .ok (.iload_n 1, 1) := by decide +kernel
theorem dX8_keyFor_10 : decode cX8_keyFor 10 = .ok (.ishl, 1) := by decide +kernel
theorem dX8_keyFor_11 : decode cX8_keyFor 11 = .ok (.invokevirtual 172, 3) := by decide +kernel
theorem dX8_keyFor_14 : decode cX8_keyFor 14 = .ok (.aload_n 0, 1) := by decide +kernel
theorem dX8_keyFor_15 : decode cX8_keyFor 15 = .ok (.getfield 55, 3) := by decide +kernel
theorem dX8_keyFor_18 : decode cX8_keyFor 18 = .ok (.iload_n 1, 1) := by decide +kernel
theorem dX8_keyFor_19 : decode cX8_keyFor 19 = .ok (.bipush 40, 2) := by decide +kernel
theorem dX8_keyFor_21 : decode cX8_keyFor 21 = .ok (.invokevirtual 304, 3) := by decide +kernel
theorem dX8_keyFor_24 : decode cX8_keyFor 24 = .ok (.istore_n 2, 1) := by decide +kernel
theorem dX8_keyFor_25 : decode cX8_keyFor 25 = .ok (.iload_n 2, 1) := by decide +kernel
theorem dX8_keyFor_26 : decode cX8_keyFor 26 = .ok (.ifCond .ge 6, 3) := by decide +kernel
theorem dX8_keyFor_29 : decode cX8_keyFor 29 = .ok (.bipush 41, 2) := by decide +kernel
theorem dX8_keyFor_31 : decode cX8_keyFor 31 = .ok (.istore_n 2, 1) := by decide +kernel
theorem dX8_keyFor_32 : decode cX8_keyFor 32 = .ok (.bipush (-5), 2) := by decide +kernel
theorem dX8_keyFor_34 : decode cX8_keyFor 34 = .ok (.istore_n 3, 1) := by decide +kernel
theorem dX8_keyFor_35 : decode cX8_keyFor 35 = .ok (.iconst 0, 1) := by decide +kernel
theorem dX8_keyFor_36 : decode cX8_keyFor 36 = .ok (.istore 4, 2) := by decide +kernel
theorem dX8_keyFor_38 : decode cX8_keyFor 38 = .ok (.iload 4, 2) := by decide +kernel
theorem dX8_keyFor_40 : decode cX8_keyFor 40 = .ok (.bipush 16, 2) := by decide +kernel
theorem dX8_keyFor_42 : decode cX8_keyFor 42 = .ok (.if_icmp .ge 59, 3) := by decide +kernel
theorem dX8_keyFor_45 : decode cX8_keyFor 45 = .ok (.aload_n 0, 1) := by decide +kernel
theorem dX8_keyFor_46 : decode cX8_keyFor 46 = .ok (.getfield 55, 3) := by decide +kernel
theorem dX8_keyFor_49 : decode cX8_keyFor 49 = .ok (.aload_n 0, 1) := by decide +kernel
theorem dX8_keyFor_50 : decode cX8_keyFor 50 = .ok (.getfield 51, 3) := by decide +kernel
theorem dX8_keyFor_53 : decode cX8_keyFor 53 = .ok (.iconst 1, 1) := by decide +kernel
theorem dX8_keyFor_54 : decode cX8_keyFor 54 = .ok (.iload_n 1, 1) := by decide +kernel
theorem dX8_keyFor_55 : decode cX8_keyFor 55 = .ok (.ishl, 1) := by decide +kernel
theorem dX8_keyFor_56 : decode cX8_keyFor 56 = .ok (.invokevirtual 172, 3) := by decide +kernel
theorem dX8_keyFor_59 : decode cX8_keyFor 59 = .ok (.aload_n 0, 1) := by decide +kernel
theorem dX8_keyFor_60 : decode cX8_keyFor 60 = .ok (.getfield 55, 3) := by decide +kernel
theorem dX8_keyFor_63 : decode cX8_keyFor 63 = .ok (.getfield 122, 3) := by decide +kernel
theorem dX8_keyFor_66 : decode cX8_keyFor 66 = .ok (.iload 4, 2) := by decide +kernel
theorem dX8_keyFor_68 : decode cX8_keyFor 68 = .ok (.bipush 9, 2) := by decide +kernel
theorem dX8_keyFor_70 : decode cX8_keyFor 70 = .ok (.iastore, 1) := by decide +kernel
theorem dX8_keyFor_71 : decode cX8_keyFor 71 = .ok (.aload_n 0, 1) := by decide +kernel
theorem dX8_keyFor_72 : decode cX8_keyFor 72 = .ok (.getfield 55, 3) := by decide +kernel
theorem dX8_keyFor_75 : decode cX8_keyFor 75 = .ok (.iload_n 1, 1) := by decide +kernel
theorem dX8_keyFor_76 : decode cX8_keyFor 76 = .ok (.iload_n 2, 1) := by decide +kernel
theorem dX8_keyFor_77 : decode cX8_keyFor 77 = .ok (.iconst 1, 1) := by decide +kernel
theorem dX8_keyFor_78 : decode cX8_keyFor 78 = .ok (.isub, 1) := by decide +kernel
theorem dX8_keyFor_79 : decode cX8_keyFor 79 = .ok (.invokevirtual 304, 3) := by decide +kernel
theorem dX8_keyFor_82 : decode cX8_keyFor 82 = .ok (.istore 5, 2) := by decide +kernel
theorem dX8_keyFor_84 : decode cX8_keyFor 84 = .ok (.iload 5, 2) := by decide +kernel
theorem dX8_keyFor_86 : decode cX8_keyFor 86 = .ok (.ifCond .lt 9, 3) := by decide +kernel
theorem dX8_keyFor_89 : decode cX8_keyFor 89 = .ok (.iload 5, 2) := by decide +kernel
theorem dX8_keyFor_91 : decode cX8_keyFor 91 = .ok (.istore_n 2, 1) := by decide +kernel
theorem dX8_keyFor_92 : decode cX8_keyFor 92 = .ok (.iload 4, 2) := by decide +kernel
theorem dX8_keyFor_94 : decode cX8_keyFor 94 = .ok (.istore_n 3, 1) := by decide +kernel
theorem dX8_keyFor_95 : decode cX8_keyFor 95 = .ok (.iinc 4 1, 3) := by decide +kernel
theorem dX8_keyFor_98 : decode cX8_keyFor 98 = .ok (.goto (-60), 3) := by decide +kernel
theorem dX8_keyFor_101 : decode cX8_keyFor 101 = .ok (.iload_n 3, 1) := by decide +kernel
theorem dX8_keyFor_102 : decode cX8_keyFor 102 = .ok (.ireturn, 1) := by decide +kernel
theorem dX8_lentFor_0 : decode cX8_lentFor 0 = .ok (.aload_n 0, 1) := by decide +kernel
theorem dX8_lentFor_1 : decode cX8_lentFor 1 = .ok (.getfield 51, 3) := by decide +kernel
theorem dX8_lentFor_4 : decode cX8_lentFor 4 = .ok (.getfield 87, 3) := by decide +kernel
theorem dX8_lentFor_7 : decode cX8_lentFor 7 = .ok (.iload_n 1, 1) := by decide +kernel
theorem dX8_lentFor_8 : decode cX8_lentFor 8 = .ok (.iaload, 1) := by decide +kernel
theorem dX8_lentFor_9 : decode cX8_lentFor 9 = .ok (.istore_n 2, 1) := by decide +kernel
theorem dX8_lentFor_10 : decode cX8_lentFor 10 = .ok (.iload_n 2, 1) := by decide +kernel
theorem dX8_lentFor_11 : decode cX8_lentFor 11 = .ok (.ifCond .ge 6, 3) := by decide +kernel
theorem dX8_lentFor_14 : decode cX8_lentFor 14 = .ok (.bipush (-5), 2) := by decide +kernel
theorem dX8_lentFor_16 : decode cX8_lentFor 16 = .ok (.ireturn, 1) := by decide +kernel
theorem dX8_lentFor_17 : decode cX8_lentFor 17 = .ok (.aload_n 0, 1) := by decide +kernel
theorem dX8_lentFor_18 : decode cX8_lentFor 18 = .ok (.getfield 51, 3) := by decide +kernel
theorem dX8_lentFor_21 : decode cX8_lentFor 21 = .ok (.iload_n 1, 1) := by decide +kernel
theorem dX8_lentFor_22 : decode cX8_lentFor 22 = .ok (.invokevirtual 103, 3) := by decide +kernel
theorem dX8_lentFor_25 : decode cX8_lentFor 25 = .ok (.istore_n 3, 1) := by decide +kernel
theorem dX8_lentFor_26 : decode cX8_lentFor 26 = .ok (.bipush 7, 2) := by decide +kernel
theorem dX8_lentFor_28 : decode cX8_lentFor 28 = .ok (.istore 4, 2) := by decide +kernel
theorem dX8_lentFor_30 : decode cX8_lentFor 30 = .ok (.bipush (-5), 2) := by decide +kernel
theorem dX8_lentFor_32 : decode cX8_lentFor 32 = .ok (.istore 5, 2) := by decide +kernel
theorem dX8_lentFor_34 : decode cX8_lentFor 34 = .ok (.iconst 0, 1) := by decide +kernel
theorem dX8_lentFor_35 : decode cX8_lentFor 35 = .ok (.istore 6, 2) := by decide +kernel
theorem dX8_lentFor_37 : decode cX8_lentFor 37 = .ok (.iload 6, 2) := by decide +kernel
theorem dX8_lentFor_39 : decode cX8_lentFor 39 = .ok (.iconst 1, 1) := by decide +kernel
theorem dX8_lentFor_40 : decode cX8_lentFor 40 = .ok (.aload_n 0, 1) := by decide +kernel
theorem dX8_lentFor_41 : decode cX8_lentFor 41 = .ok (.getfield 51, 3) := by decide +kernel
theorem dX8_lentFor_44 : decode cX8_lentFor 44 = .ok (.getfield 66, 3) := by decide +kernel
theorem dX8_lentFor_47 : decode cX8_lentFor 47 = .ok (.ishl, 1) := by decide +kernel
theorem dX8_lentFor_48 : decode cX8_lentFor 48 = .ok (.if_icmp .ge 80, 3) := by decide +kernel
theorem dX8_lentFor_51 : decode cX8_lentFor 51 = .ok (.iload 6, 2) := by decide +kernel
theorem dX8_lentFor_53 : decode cX8_lentFor 53 = .ok (.invokestatic 202, 3) := by decide +kernel
theorem dX8_lentFor_56 : decode cX8_lentFor 56 = .ok (.istore 7, 2) := by decide +kernel
theorem dX8_lentFor_58 : decode cX8_lentFor 58 = .ok (.iload 6, 2) := by decide +kernel
theorem dX8_lentFor_60 : decode cX8_lentFor 60 = .ok (.iload_n 1, 1) := by decide +kernel
theorem dX8_lentFor_61 : decode cX8_lentFor 61 = .ok (.ishr, 1) := by decide +kernel
theorem dX8_lentFor_62 : decode cX8_lentFor 62 = .ok (.iconst 1, 1) := by decide +kernel
theorem dX8_lentFor_63 : decode cX8_lentFor 63 = .ok (.iand, 1) := by decide +kernel
theorem dX8_lentFor_64 : decode cX8_lentFor 64 = .ok (.ifCond .ne 58, 3) := by decide +kernel
theorem dX8_lentFor_67 : decode cX8_lentFor 67 = .ok (.iload 7, 2) := by decide +kernel
theorem dX8_lentFor_69 : decode cX8_lentFor 69 = .ok (.iload 4, 2) := by decide +kernel
theorem dX8_lentFor_71 : decode cX8_lentFor 71 = .ok (.if_icmp .ge 51, 3) := by decide +kernel
theorem dX8_lentFor_74 : decode cX8_lentFor 74 = .ok (.aload_n 0, 1) := by decide +kernel
theorem dX8_lentFor_75 : decode cX8_lentFor 75 = .ok (.getfield 51, 3) := by decide +kernel
theorem dX8_lentFor_78 : decode cX8_lentFor 78 = .ok (.getfield 94, 3) := by decide +kernel
theorem dX8_lentFor_81 : decode cX8_lentFor 81 = .ok (.iload_n 1, 1) := by decide +kernel
theorem dX8_lentFor_82 : decode cX8_lentFor 82 = .ok (.iaload, 1) := by decide +kernel
theorem dX8_lentFor_83 : decode cX8_lentFor 83 = .ok (.aload_n 0, 1) := by decide +kernel
theorem dX8_lentFor_84 : decode cX8_lentFor 84 = .ok (.getfield 51, 3) := by decide +kernel
theorem dX8_lentFor_87 : decode cX8_lentFor 87 = .ok (.iload 6, 2) := by decide +kernel
theorem dX8_lentFor_89 : decode cX8_lentFor 89 = .ok (.invokevirtual 307, 3) := by decide +kernel
theorem dX8_lentFor_92 : decode cX8_lentFor 92 = .ok (.ior, 1) := by decide +kernel
theorem dX8_lentFor_93 : decode cX8_lentFor 93 = .ok (.istore 8, 2) := by decide +kernel
theorem dX8_lentFor_95 : decode cX8_lentFor 95 = .ok (.aload_n 0, 1) := by decide +kernel
theorem dX8_lentFor_96 : decode cX8_lentFor 96 = .ok (.getfield 51, 3) := by decide +kernel
theorem dX8_lentFor_99 : decode cX8_lentFor 99 = .ok (.getfield 84, 3) := by decide +kernel
theorem dX8_lentFor_102 : decode cX8_lentFor 102 = .ok (.iload_n 1, 1) := by decide +kernel
theorem dX8_lentFor_103 : decode cX8_lentFor 103 = .ok (.iaload, 1) := by decide +kernel
theorem dX8_lentFor_104 : decode cX8_lentFor 104 = .ok (.iload_n 2, 1) := by decide +kernel
theorem dX8_lentFor_105 : decode cX8_lentFor 105 = .ok (.iload 8, 2) := by decide +kernel
theorem dX8_lentFor_107 : decode cX8_lentFor 107 = .ok (.iload_n 3, 1) := by decide +kernel
theorem dX8_lentFor_108 : decode cX8_lentFor 108 = .ok (.invokestatic 310, 3) := by decide +kernel
theorem dX8_lentFor_111 : decode cX8_lentFor 111 = .ok (.ifCond .eq 11, 3) := by decide +kernel
theorem dX8_lentFor_114 : decode cX8_lentFor 114 = .ok (.iload 7, 2) := by decide +kernel
theorem dX8_lentFor_116 : decode cX8_lentFor 116 = .ok (.istore 4, 2) := by decide +kernel
theorem dX8_lentFor_118 : decode cX8_lentFor 118 = .ok (.iload 6, 2) := by decide +kernel
theorem dX8_lentFor_120 : decode cX8_lentFor 120 = .ok (.istore 5, 2) := by decide +kernel
theorem dX8_lentFor_122 : decode cX8_lentFor 122 = .ok (.iinc 6 1, 3) := by decide +kernel
theorem dX8_lentFor_125 : decode cX8_lentFor 125 = .ok (.goto (-88), 3) := by decide +kernel
theorem dX8_lentFor_128 : decode cX8_lentFor 128 = .ok (.iload 5, 2) := by decide +kernel
theorem dX8_lentFor_130 : decode cX8_lentFor 130 = .ok (.ireturn, 1) := by decide +kernel
theorem dX8_fromOf_0 : decode cX8_fromOf 0 = .ok (.aload_n 0, 1) := by decide +kernel
theorem dX8_fromOf_1 : decode cX8_fromOf 1 = .ok (.invokevirtual 314, 3) := by decide +kernel
theorem dX8_fromOf_4 : decode cX8_fromOf 4 = .ok (.istore_n 2, 1) := by decide +kernel
theorem dX8_fromOf_5 : decode cX8_fromOf 5 = .ok (.iconst 0, 1) := by decide +kernel
theorem dX8_fromOf_6 : decode cX8_fromOf 6 = .ok (.istore_n 3, 1) := by decide +kernel
theorem dX8_fromOf_7 : decode cX8_fromOf 7 = .ok (.iconst 0, 1) := by decide +kernel
theorem dX8_fromOf_8 : decode cX8_fromOf 8 = .ok (.istore 4, 2) := by decide +kernel
theorem dX8_fromOf_10 : decode cX8_fromOf 10 = .ok (.iload 4, 2) := by decide +kernel
theorem dX8_fromOf_12 : decode cX8_fromOf 12 = .ok (.bipush 16, 2) := by decide +kernel
theorem dX8_fromOf_14 : decode cX8_fromOf 14 = .ok (.if_icmp .ge 46, 3) := by decide +kernel
theorem dX8_fromOf_17 : decode cX8_fromOf 17 = .ok (.aload_n 0, 1) := by decide +kernel
theorem dX8_fromOf_18 : decode cX8_fromOf 18 = .ok (.getfield 55, 3) := by decide +kernel
theorem dX8_fromOf_21 : decode cX8_fromOf 21 = .ok (.aload_n 0, 1) := by decide +kernel
theorem dX8_fromOf_22 : decode cX8_fromOf 22 = .ok (.getfield 51, 3) := by decide +kernel
theorem dX8_fromOf_25 : decode cX8_fromOf 25 = .ok (.iload_n 2, 1) := by decide +kernel
theorem dX8_fromOf_26 : decode cX8_fromOf 26 = .ok (.invokevirtual 172, 3) := by decide +kernel
theorem dX8_fromOf_29 : decode cX8_fromOf 29 = .ok (.aload_n 0, 1) := by decide +kernel
theorem dX8_fromOf_30 : decode cX8_fromOf 30 = .ok (.getfield 55, 3) := by decide +kernel
theorem dX8_fromOf_33 : decode cX8_fromOf 33 = .ok (.getfield 84, 3) := by decide +kernel
theorem dX8_fromOf_36 : decode cX8_fromOf 36 = .ok (.iload_n 1, 1) := by decide +kernel
theorem dX8_fromOf_37 : decode cX8_fromOf 37 = .ok (.iload 4, 2) := by decide +kernel
theorem dX8_fromOf_39 : decode cX8_fromOf 39 = .ok (.iastore, 1) := by decide +kernel
theorem dX8_fromOf_40 : decode cX8_fromOf 40 = .ok (.aload_n 0, 1) := by decide +kernel
theorem dX8_fromOf_41 : decode cX8_fromOf 41 = .ok (.invokevirtual 317, 3) := by decide +kernel
theorem dX8_fromOf_44 : decode cX8_fromOf 44 = .ok (.ifCond .eq 10, 3) := by decide +kernel
theorem dX8_fromOf_47 : decode cX8_fromOf 47 = .ok (.iload_n 3, 1) := by decide +kernel
theorem dX8_fromOf_48 : decode cX8_fromOf 48 = .ok (.iconst 1, 1) := by decide +kernel
theorem dX8_fromOf_49 : decode cX8_fromOf 49 = .ok (.iload 4, 2) := by decide +kernel
theorem dX8_fromOf_51 : decode cX8_fromOf 51 = .ok (.ishl, 1) := by decide +kernel
theorem dX8_fromOf_52 : decode cX8_fromOf 52 = .ok (.ior, 1) := by decide +kernel
theorem dX8_fromOf_53 : decode cX8_fromOf 53 = .ok (.istore_n 3, 1) := by decide +kernel
theorem dX8_fromOf_54 : decode cX8_fromOf 54 = .ok (.iinc 4 1, 3) := by decide +kernel
theorem dX8_fromOf_57 : decode cX8_fromOf 57 = .ok (.goto (-47), 3) := by decide +kernel
theorem dX8_fromOf_60 : decode cX8_fromOf 60 = .ok (.iload_n 3, 1) := by decide +kernel
theorem dX8_fromOf_61 : decode cX8_fromOf 61 = .ok (.ireturn, 1) := by decide +kernel
theorem dX8_valuesOf_0 : decode cX8_valuesOf 0 = .ok (.aload_n 0, 1) := by decide +kernel
theorem dX8_valuesOf_1 : decode cX8_valuesOf 1 = .ok (.invokevirtual 314, 3) := by decide +kernel
theorem dX8_valuesOf_4 : decode cX8_valuesOf 4 = .ok (.istore_n 2, 1) := by decide +kernel
theorem dX8_valuesOf_5 : decode cX8_valuesOf 5 = .ok (.iconst 0, 1) := by decide +kernel
theorem dX8_valuesOf_6 : decode cX8_valuesOf 6 = .ok (.istore_n 3, 1) := by decide +kernel
theorem dX8_valuesOf_7 : decode cX8_valuesOf 7 = .ok (.iconst 0, 1) := by decide +kernel
theorem dX8_valuesOf_8 : decode cX8_valuesOf 8 = .ok (.istore 4, 2) := by decide +kernel
theorem dX8_valuesOf_10 : decode cX8_valuesOf 10 = .ok (.iload 4, 2) := by decide +kernel
theorem dX8_valuesOf_12 : decode cX8_valuesOf 12 = .ok (.bipush 10, 2) := by decide +kernel
theorem dX8_valuesOf_14 : decode cX8_valuesOf 14 = .ok (.if_icmp .ge 46, 3) := by decide +kernel
theorem dX8_valuesOf_17 : decode cX8_valuesOf 17 = .ok (.aload_n 0, 1) := by decide +kernel
theorem dX8_valuesOf_18 : decode cX8_valuesOf 18 = .ok (.getfield 55, 3) := by decide +kernel
theorem dX8_valuesOf_21 : decode cX8_valuesOf 21 = .ok (.aload_n 0, 1) := by decide +kernel
theorem dX8_valuesOf_22 : decode cX8_valuesOf 22 = .ok (.getfield 51, 3) := by decide +kernel
theorem dX8_valuesOf_25 : decode cX8_valuesOf 25 = .ok (.iload_n 2, 1) := by decide +kernel
theorem dX8_valuesOf_26 : decode cX8_valuesOf 26 = .ok (.invokevirtual 172, 3) := by decide +kernel
theorem dX8_valuesOf_29 : decode cX8_valuesOf 29 = .ok (.aload_n 0, 1) := by decide +kernel
theorem dX8_valuesOf_30 : decode cX8_valuesOf 30 = .ok (.getfield 55, 3) := by decide +kernel
theorem dX8_valuesOf_33 : decode cX8_valuesOf 33 = .ok (.getfield 81, 3) := by decide +kernel
theorem dX8_valuesOf_36 : decode cX8_valuesOf 36 = .ok (.iload_n 1, 1) := by decide +kernel
theorem dX8_valuesOf_37 : decode cX8_valuesOf 37 = .ok (.iload 4, 2) := by decide +kernel
theorem dX8_valuesOf_39 : decode cX8_valuesOf 39 = .ok (.iastore, 1) := by decide +kernel
theorem dX8_valuesOf_40 : decode cX8_valuesOf 40 = .ok (.aload_n 0, 1) := by decide +kernel
theorem dX8_valuesOf_41 : decode cX8_valuesOf 41 = .ok (.invokevirtual 317, 3) := by decide +kernel
theorem dX8_valuesOf_44 : decode cX8_valuesOf 44 = .ok (.ifCond .eq 10, 3) := by decide +kernel
theorem dX8_valuesOf_47 : decode cX8_valuesOf 47 = .ok (.iload_n 3, 1) := by decide +kernel
theorem dX8_valuesOf_48 : decode cX8_valuesOf 48 = .ok (.iconst 1, 1) := by decide +kernel
theorem dX8_valuesOf_49 : decode cX8_valuesOf 49 = .ok (.iload 4, 2) := by decide +kernel
theorem dX8_valuesOf_51 : decode cX8_valuesOf 51 = .ok (.ishl, 1) := by decide +kernel
theorem dX8_valuesOf_52 : decode cX8_valuesOf 52 = .ok (.ior, 1) := by decide +kernel
theorem dX8_valuesOf_53 : decode cX8_valuesOf 53 = .ok (.istore_n 3, 1) := by decide +kernel
theorem dX8_valuesOf_54 : decode cX8_valuesOf 54 = .ok (.iinc 4 1, 3) := by decide +kernel
theorem dX8_valuesOf_57 : decode cX8_valuesOf 57 = .ok (.goto (-47), 3) := by decide +kernel
theorem dX8_valuesOf_60 : decode cX8_valuesOf 60 = .ok (.iload_n 3, 1) := by decide +kernel
theorem dX8_valuesOf_61 : decode cX8_valuesOf 61 = .ok (.ireturn, 1) := by decide +kernel
theorem dX8_seenOnes_0 : decode cX8_seenOnes 0 = .ok (.iconst 0, 1) := by decide +kernel
theorem dX8_seenOnes_1 : decode cX8_seenOnes 1 = .ok (.istore_n 1, 1) := by decide +kernel
theorem dX8_seenOnes_2 : decode cX8_seenOnes 2 = .ok (.iconst 0, 1) := by decide +kernel
theorem dX8_seenOnes_3 : decode cX8_seenOnes 3 = .ok (.istore_n 2, 1) := by decide +kernel
theorem dX8_seenOnes_4 : decode cX8_seenOnes 4 = .ok (.iload_n 2, 1) := by decide +kernel
theorem dX8_seenOnes_5 : decode cX8_seenOnes 5 = .ok (.aload_n 0, 1) := by decide +kernel
theorem dX8_seenOnes_6 : decode cX8_seenOnes 6 = .ok (.getfield 12, 3) := by decide +kernel
theorem dX8_seenOnes_9 : decode cX8_seenOnes 9 = .ok (.getfield 185, 3) := by decide +kernel
theorem dX8_seenOnes_12 : decode cX8_seenOnes 12 = .ok (.getfield 233, 3) := by decide +kernel
theorem dX8_seenOnes_15 : decode cX8_seenOnes 15 = .ok (.if_icmp .ge 25, 3) := by decide +kernel
theorem dX8_seenOnes_18 : decode cX8_seenOnes 18 = .ok (.iload_n 1, 1) := by decide +kernel
theorem dX8_seenOnes_19 : decode cX8_seenOnes 19 = .ok (.iconst 1, 1) := by decide +kernel
theorem dX8_seenOnes_20 : decode cX8_seenOnes 20 = .ok (.aload_n 0, 1) := by decide +kernel
theorem dX8_seenOnes_21 : decode cX8_seenOnes 21 = .ok (.getfield 12, 3) := by decide +kernel
theorem dX8_seenOnes_24 : decode cX8_seenOnes 24 = .ok (.getfield 185, 3) := by decide +kernel
theorem dX8_seenOnes_27 : decode cX8_seenOnes 27 = .ok (.iload_n 2, 1) := by decide +kernel
theorem dX8_seenOnes_28 : decode cX8_seenOnes 28 = .ok (.invokevirtual 235, 3) := by decide +kernel
theorem dX8_seenOnes_31 : decode cX8_seenOnes 31 = .ok (.ishl, 1) := by decide +kernel
theorem dX8_seenOnes_32 : decode cX8_seenOnes 32 = .ok (.ior, 1) := by decide +kernel
theorem dX8_seenOnes_33 : decode cX8_seenOnes 33 = .ok (.istore_n 1, 1) := by decide +kernel
theorem dX8_seenOnes_34 : decode cX8_seenOnes 34 = .ok (.iinc 2 1, 3) := by decide +kernel
theorem dX8_seenOnes_37 : decode cX8_seenOnes 37 = .ok (.goto (-33), 3) := by decide +kernel
theorem dX8_seenOnes_40 : decode cX8_seenOnes 40 = .ok (.iload_n 1, 1) := by decide +kernel
theorem dX8_seenOnes_41 : decode cX8_seenOnes 41 = .ok (.ireturn, 1) := by decide +kernel
theorem dX8_seenHolds_0 : decode cX8_seenHolds 0 = .ok (.iconst 0, 1) := by decide +kernel
theorem dX8_seenHolds_1 : decode cX8_seenHolds 1 = .ok (.istore_n 1, 1) := by decide +kernel
theorem dX8_seenHolds_2 : decode cX8_seenHolds 2 = .ok (.iconst 0, 1) := by decide +kernel
theorem dX8_seenHolds_3 : decode cX8_seenHolds 3 = .ok (.istore_n 2, 1) := by decide +kernel
theorem dX8_seenHolds_4 : decode cX8_seenHolds 4 = .ok (.iload_n 2, 1) := by decide +kernel
theorem dX8_seenHolds_5 : decode cX8_seenHolds 5 = .ok (.aload_n 0, 1) := by decide +kernel
theorem dX8_seenHolds_6 : decode cX8_seenHolds 6 = .ok (.getfield 12, 3) := by decide +kernel
theorem dX8_seenHolds_9 : decode cX8_seenHolds 9 = .ok (.getfield 185, 3) := by decide +kernel
theorem dX8_seenHolds_12 : decode cX8_seenHolds 12 = .ok (.getfield 233, 3) := by decide +kernel
theorem dX8_seenHolds_15 : decode cX8_seenHolds 15 = .ok (.if_icmp .ge 25, 3) := by decide +kernel
theorem dX8_seenHolds_18 : decode cX8_seenHolds 18 = .ok (.iload_n 1, 1) := by decide +kernel
theorem dX8_seenHolds_19 : decode cX8_seenHolds 19 = .ok (.aload_n 0, 1) := by decide +kernel
theorem dX8_seenHolds_20 : decode cX8_seenHolds 20 = .ok (.getfield 12, 3) := by decide +kernel
theorem dX8_seenHolds_23 : decode cX8_seenHolds 23 = .ok (.getfield 185, 3) := by decide +kernel
theorem dX8_seenHolds_26 : decode cX8_seenHolds 26 = .ok (.iload_n 2, 1) := by decide +kernel
theorem dX8_seenHolds_27 : decode cX8_seenHolds 27 = .ok (.invokevirtual 238, 3) := by decide +kernel
theorem dX8_seenHolds_30 : decode cX8_seenHolds 30 = .ok (.invokestatic 320, 3) := by decide +kernel
theorem dX8_seenHolds_33 : decode cX8_seenHolds 33 = .ok (.istore_n 1, 1) := by decide +kernel
theorem dX8_seenHolds_34 : decode cX8_seenHolds 34 = .ok (.iinc 2 1, 3) := by decide +kernel
theorem dX8_seenHolds_37 : decode cX8_seenHolds 37 = .ok (.goto (-33), 3) := by decide +kernel
theorem dX8_seenHolds_40 : decode cX8_seenHolds 40 = .ok (.iconst 0, 1) := by decide +kernel
theorem dX8_seenHolds_41 : decode cX8_seenHolds 41 = .ok (.istore_n 2, 1) := by decide +kernel
theorem dX8_seenHolds_42 : decode cX8_seenHolds 42 = .ok (.iload_n 2, 1) := by decide +kernel
theorem dX8_seenHolds_43 : decode cX8_seenHolds 43 = .ok (.iload_n 1, 1) := by decide +kernel
theorem dX8_seenHolds_44 : decode cX8_seenHolds 44 = .ok (.if_icmp .gt 39, 3) := by decide +kernel
theorem dX8_seenHolds_47 : decode cX8_seenHolds 47 = .ok (.iload_n 2, 1) := by decide +kernel
theorem dX8_seenHolds_48 : decode cX8_seenHolds 48 = .ok (.bipush 12, 2) := by decide +kernel
theorem dX8_seenHolds_50 : decode cX8_seenHolds 50 = .ok (.if_icmp .gt 33, 3) := by decide +kernel
theorem dX8_seenHolds_53 : decode cX8_seenHolds 53 = .ok (.iload_n 2, 1) := by decide +kernel
theorem dX8_seenHolds_54 : decode cX8_seenHolds 54 = .ok (.ifCond .le 13, 3) := by decide +kernel
theorem dX8_seenHolds_57 : decode cX8_seenHolds 57 = .ok (.aload_n 0, 1) := by decide +kernel
theorem dX8_seenHolds_58 : decode cX8_seenHolds 58 = .ok (.getfield 55, 3) := by decide +kernel
theorem dX8_seenHolds_61 : decode cX8_seenHolds 61 = .ok (.iconst 1, 1) := by decide +kernel
theorem dX8_seenHolds_62 : decode cX8_seenHolds 62 = .ok (.ldc 176, 2) := by decide +kernel
theorem dX8_seenHolds_64 : decode cX8_seenHolds 64 = .ok (.invokevirtual 168, 3) := by decide +kernel
theorem dX8_seenHolds_67 : decode cX8_seenHolds 67 = .ok (.aload_n 0, 1) := by decide +kernel
theorem dX8_seenHolds_68 : decode cX8_seenHolds 68 = .ok (.iload_n 2, 1) := by decide +kernel
theorem dX8_seenHolds_69 : decode cX8_seenHolds 69 = .ok (.invokevirtual 325, 3) := by decide +kernel
theorem dX8_seenHolds_72 : decode cX8_seenHolds 72 = .ok (.ifCond .ne 5, 3) := by decide +kernel
theorem dX8_seenHolds_75 : decode cX8_seenHolds 75 = .ok (.iconst 0, 1) := by decide +kernel
theorem dX8_seenHolds_76 : decode cX8_seenHolds 76 = .ok (.ireturn, 1) := by decide +kernel
theorem dX8_seenHolds_77 : decode cX8_seenHolds 77 = .ok (.iinc 2 1, 3) := by decide +kernel
theorem dX8_seenHolds_80 : decode cX8_seenHolds 80 = .ok (.goto (-38), 3) := by decide +kernel
theorem dX8_seenHolds_83 : decode cX8_seenHolds 83 = .ok (.iconst 1, 1) := by decide +kernel
theorem dX8_seenHolds_84 : decode cX8_seenHolds 84 = .ok (.ireturn, 1) := by decide +kernel
theorem dX8_seenHoldsAt_0 : decode cX8_seenHoldsAt 0 = .ok (.iconst 0, 1) := by decide +kernel
theorem dX8_seenHoldsAt_1 : decode cX8_seenHoldsAt 1 = .ok (.istore_n 2, 1) := by decide +kernel
theorem dX8_seenHoldsAt_2 : decode cX8_seenHoldsAt 2 = .ok (.iload_n 2, 1) := by decide +kernel
theorem dX8_seenHoldsAt_3 : decode cX8_seenHoldsAt 3 = .ok (.aload_n 0, 1) := by decide +kernel
theorem dX8_seenHoldsAt_4 : decode cX8_seenHoldsAt 4 = .ok (.getfield 12, 3) := by decide +kernel
theorem dX8_seenHoldsAt_7 : decode cX8_seenHoldsAt 7 = .ok (.getfield 185, 3) := by decide +kernel
theorem dX8_seenHoldsAt_10 : decode cX8_seenHoldsAt 10 = .ok (.getfield 233, 3) := by decide +kernel
theorem dX8_seenHoldsAt_13 : decode cX8_seenHoldsAt 13 = .ok (.if_icmp .ge 69, 3) := by decide +kernel
theorem dX8_seenHoldsAt_16 : decode cX8_seenHoldsAt 16 = .ok (.aload_n 0, 1) := by decide +kernel
theorem dX8_seenHoldsAt_17 : decode cX8_seenHoldsAt 17 = .ok (.getfield 12, 3) := by decide +kernel
theorem dX8_seenHoldsAt_20 : decode cX8_seenHoldsAt 20 = .ok (.getfield 185, 3) := by decide +kernel
theorem dX8_seenHoldsAt_23 : decode cX8_seenHoldsAt 23 = .ok (.iload_n 2, 1) := by decide +kernel
theorem dX8_seenHoldsAt_24 : decode cX8_seenHoldsAt 24 = .ok (.invokevirtual 235, 3) := by decide +kernel
theorem dX8_seenHoldsAt_27 : decode cX8_seenHoldsAt 27 = .ok (.istore_n 3, 1) := by decide +kernel
theorem dX8_seenHoldsAt_28 : decode cX8_seenHoldsAt 28 = .ok (.aload_n 0, 1) := by decide +kernel
theorem dX8_seenHoldsAt_29 : decode cX8_seenHoldsAt 29 = .ok (.getfield 12, 3) := by decide +kernel
theorem dX8_seenHoldsAt_32 : decode cX8_seenHoldsAt 32 = .ok (.getfield 185, 3) := by decide +kernel
theorem dX8_seenHoldsAt_35 : decode cX8_seenHoldsAt 35 = .ok (.iload_n 2, 1) := by decide +kernel
theorem dX8_seenHoldsAt_36 : decode cX8_seenHoldsAt 36 = .ok (.invokevirtual 238, 3) := by decide +kernel
theorem dX8_seenHoldsAt_39 : decode cX8_seenHoldsAt 39 = .ok (.iload_n 1, 1) := by decide +kernel
theorem dX8_seenHoldsAt_40 : decode cX8_seenHoldsAt 40 = .ok (.if_icmp .ne 36, 3) := by decide +kernel
theorem dX8_seenHoldsAt_43 : decode cX8_seenHoldsAt 43 = .ok (.aload_n 0, 1) := by decide +kernel
theorem dX8_seenHoldsAt_44 : decode cX8_seenHoldsAt 44 = .ok (.iload_n 3, 1) := by decide +kernel
theorem dX8_seenHoldsAt_45 : decode cX8_seenHoldsAt 45 = .ok (.invokevirtual 74, 3) := by decide +kernel
theorem dX8_seenHoldsAt_48 : decode cX8_seenHoldsAt 48 = .ok (.ifCond .eq 28, 3) := by decide +kernel
theorem dX8_seenHoldsAt_51 : decode cX8_seenHoldsAt 51 = .ok (.aload_n 0, 1) := by decide +kernel
theorem dX8_seenHoldsAt_52 : decode cX8_seenHoldsAt 52 = .ok (.getfield 55, 3) := by decide +kernel
theorem dX8_seenHoldsAt_55 : decode cX8_seenHoldsAt 55 = .ok (.getfield 84, 3) := by decide +kernel
theorem dX8_seenHoldsAt_58 : decode cX8_seenHoldsAt 58 = .ok (.iload_n 3, 1) := by decide +kernel
theorem dX8_seenHoldsAt_59 : decode cX8_seenHoldsAt 59 = .ok (.iaload, 1) := by decide +kernel
theorem dX8_seenHoldsAt_60 : decode cX8_seenHoldsAt 60 = .ok (.aload_n 0, 1) := by decide +kernel
theorem dX8_seenHoldsAt_61 : decode cX8_seenHoldsAt 61 = .ok (.getfield 12, 3) := by decide +kernel
theorem dX8_seenHoldsAt_64 : decode cX8_seenHoldsAt 64 = .ok (.getfield 185, 3) := by decide +kernel
theorem dX8_seenHoldsAt_67 : decode cX8_seenHoldsAt 67 = .ok (.iload_n 2, 1) := by decide +kernel
theorem dX8_seenHoldsAt_68 : decode cX8_seenHoldsAt 68 = .ok (.invokevirtual 328, 3) := by decide +kernel
theorem dX8_seenHoldsAt_71 : decode cX8_seenHoldsAt 71 = .ok (.if_icmp .eq 5, 3) := by decide +kernel
theorem dX8_seenHoldsAt_74 : decode cX8_seenHoldsAt 74 = .ok (.iconst 0, 1) := by decide +kernel
theorem dX8_seenHoldsAt_75 : decode cX8_seenHoldsAt 75 = .ok (.ireturn, 1) := by decide +kernel
theorem dX8_seenHoldsAt_76 : decode cX8_seenHoldsAt 76 = .ok (.iinc 2 1, 3) := by decide +kernel
theorem dX8_seenHoldsAt_79 : decode cX8_seenHoldsAt 79 = .ok (.goto (-77), 3) := by decide +kernel
theorem dX8_seenHoldsAt_82 : decode cX8_seenHoldsAt 82 = .ok (.iconst 1, 1) := by decide +kernel
theorem dX8_seenHoldsAt_83 : decode cX8_seenHoldsAt 83 = .ok (.ireturn, 1) := by decide +kernel
theorem dX8_lowest_0 : decode cX8_lowest 0 = .ok (.iload_n 1, 1) := by decide +kernel
theorem dX8_lowest_1 : decode cX8_lowest 1 = .ok (.istore_n 3, 1) := by decide +kernel
theorem dX8_lowest_2 : decode cX8_lowest 2 = .ok (.iload_n 0, 1) := by decide +kernel
theorem dX8_lowest_3 : decode cX8_lowest 3 = .ok (.istore 4, 2) := by decide +kernel
theorem dX8_lowest_5 : decode cX8_lowest 5 = .ok (.iconst 0, 1) := by decide +kernel
theorem dX8_lowest_6 : decode cX8_lowest 6 = .ok (.istore 5, 2) := by decide +kernel
theorem dX8_lowest_8 : decode cX8_lowest 8 = .ok (.iload 5, 2) := by decide +kernel
theorem dX8_lowest_10 : decode cX8_lowest 10 = .ok (.bipush 64, 2) := by decide +kernel
theorem dX8_lowest_12 : decode cX8_lowest 12 = .ok (.if_icmp .ge 27, 3) := by decide +kernel
theorem dX8_lowest_15 : decode cX8_lowest 15 = .ok (.iload 4, 2) := by decide +kernel
theorem dX8_lowest_17 : decode cX8_lowest 17 = .ok (.ifCond .eq 22, 3) := by decide +kernel
theorem dX8_lowest_20 : decode cX8_lowest 20 = .ok (.iload_n 3, 1) := by decide +kernel
theorem dX8_lowest_21 : decode cX8_lowest 21 = .ok (.iload 4, 2) := by decide +kernel
theorem dX8_lowest_23 : decode cX8_lowest 23 = .ok (.irem, 1) := by decide +kernel
theorem dX8_lowest_24 : decode cX8_lowest 24 = .ok (.istore 6, 2) := by decide +kernel
theorem dX8_lowest_26 : decode cX8_lowest 26 = .ok (.iload 4, 2) := by decide +kernel
theorem dX8_lowest_28 : decode cX8_lowest 28 = .ok (.istore_n 3, 1) := by decide +kernel
theorem dX8_lowest_29 : decode cX8_lowest 29 = .ok (.iload 6, 2) := by decide +kernel
theorem dX8_lowest_31 : decode cX8_lowest 31 = .ok (.istore 4, 2) := by decide +kernel
theorem dX8_lowest_33 : decode cX8_lowest 33 = .ok (.iinc 5 1, 3) := by decide +kernel
theorem dX8_lowest_36 : decode cX8_lowest 36 = .ok (.goto (-28), 3) := by decide +kernel
theorem dX8_lowest_39 : decode cX8_lowest 39 = .ok (.iload_n 3, 1) := by decide +kernel
theorem dX8_lowest_40 : decode cX8_lowest 40 = .ok (.ifCond .ne 7, 3) := by decide +kernel
theorem dX8_lowest_43 : decode cX8_lowest 43 = .ok (.ldc2_w 210, 3) := by decide +kernel
theorem dX8_lowest_46 : decode cX8_lowest 46 = .ok (.lreturn, 1) := by decide +kernel
theorem dX8_lowest_47 : decode cX8_lowest 47 = .ok (.iload_n 2, 1) := by decide +kernel
theorem dX8_lowest_48 : decode cX8_lowest 48 = .ok (.ifCond .ne 7, 3) := by decide +kernel
theorem dX8_lowest_51 : decode cX8_lowest 51 = .ok (.iload_n 0, 1) := by decide +kernel
theorem dX8_lowest_52 : decode cX8_lowest 52 = .ok (.goto 4, 3) := by decide +kernel
theorem dX8_lowest_55 : decode cX8_lowest 55 = .ok (.iload_n 1, 1) := by decide +kernel
theorem dX8_lowest_56 : decode cX8_lowest 56 = .ok (.iload_n 3, 1) := by decide +kernel
theorem dX8_lowest_57 : decode cX8_lowest 57 = .ok (.idiv, 1) := by decide +kernel
theorem dX8_lowest_58 : decode cX8_lowest 58 = .ok (.i2l, 1) := by decide +kernel
theorem dX8_lowest_59 : decode cX8_lowest 59 = .ok (.lreturn, 1) := by decide +kernel
theorem dJ6_bitCount_0f7a4_0 : decode cJ6_bitCount_0f7a4 0 = .ok (.iload_n 0, 1) := by decide +kernel
theorem dJ6_bitCount_0f7a4_1 : decode cJ6_bitCount_0f7a4 1 = .ok (.iload_n 0, 1) := by decide +kernel
theorem dJ6_bitCount_0f7a4_2 : decode cJ6_bitCount_0f7a4 2 = .ok (.iconst 1, 1) := by decide +kernel
theorem dJ6_bitCount_0f7a4_3 : decode cJ6_bitCount_0f7a4 3 = .ok (.iushr, 1) := by decide +kernel
theorem dJ6_bitCount_0f7a4_4 : decode cJ6_bitCount_0f7a4 4 = .ok (.ldc_w 265, 3) := by decide +kernel
theorem dJ6_bitCount_0f7a4_7 : decode cJ6_bitCount_0f7a4 7 = .ok (.iand, 1) := by decide +kernel
theorem dJ6_bitCount_0f7a4_8 : decode cJ6_bitCount_0f7a4 8 = .ok (.isub, 1) := by decide +kernel
theorem dJ6_bitCount_0f7a4_9 : decode cJ6_bitCount_0f7a4 9 = .ok (.istore_n 0, 1) := by decide +kernel
theorem dJ6_bitCount_0f7a4_10 : decode cJ6_bitCount_0f7a4 10 = .ok (.iload_n 0, 1) := by decide +kernel
theorem dJ6_bitCount_0f7a4_11 : decode cJ6_bitCount_0f7a4 11 = .ok (.ldc_w 266, 3) := by decide +kernel
theorem dJ6_bitCount_0f7a4_14 : decode cJ6_bitCount_0f7a4 14 = .ok (.iand, 1) := by decide +kernel
theorem dJ6_bitCount_0f7a4_15 : decode cJ6_bitCount_0f7a4 15 = .ok (.iload_n 0, 1) := by decide +kernel
theorem dJ6_bitCount_0f7a4_16 : decode cJ6_bitCount_0f7a4 16 = .ok (.iconst 2, 1) := by decide +kernel
theorem dJ6_bitCount_0f7a4_17 : decode cJ6_bitCount_0f7a4 17 = .ok (.iushr, 1) := by decide +kernel
theorem dJ6_bitCount_0f7a4_18 : decode cJ6_bitCount_0f7a4 18 = .ok (.ldc_w 266, 3) := by decide +kernel
theorem dJ6_bitCount_0f7a4_21 : decode cJ6_bitCount_0f7a4 21 = .ok (.iand, 1) := by decide +kernel
theorem dJ6_bitCount_0f7a4_22 : decode cJ6_bitCount_0f7a4 22 = .ok (.iadd, 1) := by decide +kernel
theorem dJ6_bitCount_0f7a4_23 : decode cJ6_bitCount_0f7a4 23 = .ok (.istore_n 0, 1) := by decide +kernel
theorem dJ6_bitCount_0f7a4_24 : decode cJ6_bitCount_0f7a4 24 = .ok (.iload_n 0, 1) := by decide +kernel
theorem dJ6_bitCount_0f7a4_25 : decode cJ6_bitCount_0f7a4 25 = .ok (.iload_n 0, 1) := by decide +kernel
theorem dJ6_bitCount_0f7a4_26 : decode cJ6_bitCount_0f7a4 26 = .ok (.iconst 4, 1) := by decide +kernel
theorem dJ6_bitCount_0f7a4_27 : decode cJ6_bitCount_0f7a4 27 = .ok (.iushr, 1) := by decide +kernel
theorem dJ6_bitCount_0f7a4_28 : decode cJ6_bitCount_0f7a4 28 = .ok (.iadd, 1) := by decide +kernel
theorem dJ6_bitCount_0f7a4_29 : decode cJ6_bitCount_0f7a4 29 = .ok (.ldc_w 267, 3) := by decide +kernel
theorem dJ6_bitCount_0f7a4_32 : decode cJ6_bitCount_0f7a4 32 = .ok (.iand, 1) := by decide +kernel
theorem dJ6_bitCount_0f7a4_33 : decode cJ6_bitCount_0f7a4 33 = .ok (.istore_n 0, 1) := by decide +kernel
theorem dJ6_bitCount_0f7a4_34 : decode cJ6_bitCount_0f7a4 34 = .ok (.iload_n 0, 1) := by decide +kernel
theorem dJ6_bitCount_0f7a4_35 : decode cJ6_bitCount_0f7a4 35 = .ok (.iload_n 0, 1) := by decide +kernel
theorem dJ6_bitCount_0f7a4_36 : decode cJ6_bitCount_0f7a4 36 = .ok (.bipush 8, 2) := by decide +kernel
theorem dJ6_bitCount_0f7a4_38 : decode cJ6_bitCount_0f7a4 38 = .ok (.iushr, 1) := by decide +kernel
theorem dJ6_bitCount_0f7a4_39 : decode cJ6_bitCount_0f7a4 39 = .ok (.iadd, 1) := by decide +kernel
theorem dJ6_bitCount_0f7a4_40 : decode cJ6_bitCount_0f7a4 40 = .ok (.istore_n 0, 1) := by decide +kernel
theorem dJ6_bitCount_0f7a4_41 : decode cJ6_bitCount_0f7a4 41 = .ok (.iload_n 0, 1) := by decide +kernel
theorem dJ6_bitCount_0f7a4_42 : decode cJ6_bitCount_0f7a4 42 = .ok (.iload_n 0, 1) := by decide +kernel
theorem dJ6_bitCount_0f7a4_43 : decode cJ6_bitCount_0f7a4 43 = .ok (.bipush 16, 2) := by decide +kernel
theorem dJ6_bitCount_0f7a4_45 : decode cJ6_bitCount_0f7a4 45 = .ok (.iushr, 1) := by decide +kernel
theorem dJ6_bitCount_0f7a4_46 : decode cJ6_bitCount_0f7a4 46 = .ok (.iadd, 1) := by decide +kernel
theorem dJ6_bitCount_0f7a4_47 : decode cJ6_bitCount_0f7a4 47 = .ok (.istore_n 0, 1) := by decide +kernel
theorem dJ6_bitCount_0f7a4_48 : decode cJ6_bitCount_0f7a4 48 = .ok (.iload_n 0, 1) := by decide +kernel
theorem dJ6_bitCount_0f7a4_49 : decode cJ6_bitCount_0f7a4 49 = .ok (.bipush 63, 2) := by decide +kernel
theorem dJ6_bitCount_0f7a4_51 : decode cJ6_bitCount_0f7a4 51 = .ok (.iand, 1) := by decide +kernel
theorem dJ6_bitCount_0f7a4_52 : decode cJ6_bitCount_0f7a4 52 = .ok (.ireturn, 1) := by decide +kernel
theorem dJ9_max_7cf53_0 : decode cJ9_max_7cf53 0 = .ok (.iload_n 0, 1) := by decide +kernel
theorem dJ9_max_7cf53_1 : decode cJ9_max_7cf53 1 = .ok (.iload_n 1, 1) := by decide +kernel
theorem dJ9_max_7cf53_2 : decode cJ9_max_7cf53 2 = .ok (.if_icmp .lt 7, 3) := by decide +kernel
theorem dJ9_max_7cf53_5 : decode cJ9_max_7cf53 5 = .ok (.iload_n 0, 1) := by decide +kernel
theorem dJ9_max_7cf53_6 : decode cJ9_max_7cf53 6 = .ok (.goto 4, 3) := by decide +kernel
theorem dJ9_max_7cf53_9 : decode cJ9_max_7cf53 9 = .ok (.iload_n 1, 1) := by decide +kernel
theorem dJ9_max_7cf53_10 : decode cJ9_max_7cf53 10 = .ok (.ireturn, 1) := by decide +kernel
theorem dJ9_min_7cf53_0 : decode cJ9_min_7cf53 0 = .ok (.iload_n 0, 1) := by decide +kernel
theorem dJ9_min_7cf53_1 : decode cJ9_min_7cf53 1 = .ok (.iload_n 1, 1) := by decide +kernel
theorem dJ9_min_7cf53_2 : decode cJ9_min_7cf53 2 = .ok (.if_icmp .gt 7, 3) := by decide +kernel
theorem dJ9_min_7cf53_5 : decode cJ9_min_7cf53 5 = .ok (.iload_n 0, 1) := by decide +kernel
theorem dJ9_min_7cf53_6 : decode cJ9_min_7cf53 6 = .ok (.goto 4, 3) := by decide +kernel
theorem dJ9_min_7cf53_9 : decode cJ9_min_7cf53 9 = .ok (.iload_n 1, 1) := by decide +kernel
theorem dJ9_min_7cf53_10 : decode cJ9_min_7cf53 10 = .ok (.ireturn, 1) := by decide +kernel
theorem dJ0_length_8abf5_0 : decode cJ0_length_8abf5 0 = .ok (.aload_n 0, 1) := by decide +kernel
theorem dJ0_length_8abf5_1 : decode cJ0_length_8abf5 1 = .ok (.getfield 9, 3) := by decide +kernel
theorem dJ0_length_8abf5_4 : decode cJ0_length_8abf5 4 = .ok (.arraylength, 1) := by decide +kernel
theorem dJ0_length_8abf5_5 : decode cJ0_length_8abf5 5 = .ok (.aload_n 0, 1) := by decide +kernel
theorem dJ0_length_8abf5_6 : decode cJ0_length_8abf5 6 = .ok (.invokevirtual 335, 3) := by decide +kernel
theorem dJ0_length_8abf5_9 : decode cJ0_length_8abf5 9 = .ok (.ishr, 1) := by decide +kernel
theorem dJ0_length_8abf5_10 : decode cJ0_length_8abf5 10 = .ok (.ireturn, 1) := by decide +kernel
theorem dJ0_charAt_5068e_0 : decode cJ0_charAt_5068e 0 = .ok (.aload_n 0, 1) := by decide +kernel
theorem dJ0_charAt_5068e_1 : decode cJ0_charAt_5068e 1 = .ok (.invokevirtual 492, 3) := by decide +kernel
theorem dJ0_charAt_5068e_4 : decode cJ0_charAt_5068e 4 = .ok (.ifCond .eq 12, 3) := by decide +kernel
theorem dJ0_charAt_5068e_7 : decode cJ0_charAt_5068e 7 = .ok (.aload_n 0, 1) := by decide +kernel
theorem dJ0_charAt_5068e_8 : decode cJ0_charAt_5068e 8 = .ok (.getfield 9, 3) := by decide +kernel
theorem dJ0_charAt_5068e_11 : decode cJ0_charAt_5068e 11 = .ok (.iload_n 1, 1) := by decide +kernel
theorem dJ0_charAt_5068e_12 : decode cJ0_charAt_5068e 12 = .ok (.invokestatic 495, 3) := by decide +kernel
theorem dJ0_charAt_5068e_15 : decode cJ0_charAt_5068e 15 = .ok (.ireturn, 1) := by decide +kernel
theorem dJ0_charAt_5068e_16 : decode cJ0_charAt_5068e 16 = .ok (.aload_n 0, 1) := by decide +kernel
theorem dJ0_charAt_5068e_17 : decode cJ0_charAt_5068e 17 = .ok (.getfield 9, 3) := by decide +kernel
theorem dJ0_charAt_5068e_20 : decode cJ0_charAt_5068e 20 = .ok (.iload_n 1, 1) := by decide +kernel
theorem dJ0_charAt_5068e_21 : decode cJ0_charAt_5068e 21 = .ok (.invokestatic 498, 3) := by decide +kernel
theorem dJ0_charAt_5068e_24 : decode cJ0_charAt_5068e 24 = .ok (.ireturn, 1) := by decide +kernel
theorem dJ0_coder_7d493_0 : decode cJ0_coder_7d493 0 = .ok (.getstatic 38, 3) := by decide +kernel
theorem dJ0_coder_7d493_3 : decode cJ0_coder_7d493 3 = .ok (.ifCond .eq 10, 3) := by decide +kernel
theorem dJ0_coder_7d493_6 : decode cJ0_coder_7d493 6 = .ok (.aload_n 0, 1) := by decide +kernel
theorem dJ0_coder_7d493_7 : decode cJ0_coder_7d493 7 = .ok (.getfield 15, 3) := by decide +kernel
theorem dJ0_coder_7d493_10 : decode cJ0_coder_7d493 10 = .ok (.goto 4, 3) := by decide +kernel
theorem dJ0_coder_7d493_13 : decode cJ0_coder_7d493 13 = .ok (.iconst 1, 1) := by decide +kernel
theorem dJ0_coder_7d493_14 : decode cJ0_coder_7d493 14 = .ok (.ireturn, 1) := by decide +kernel
theorem dJ0_isLatin1_aae02_0 : decode cJ0_isLatin1_aae02 0 = .ok (.getstatic 38, 3) := by decide +kernel
theorem dJ0_isLatin1_aae02_3 : decode cJ0_isLatin1_aae02 3 = .ok (.ifCond .eq 14, 3) := by decide +kernel
theorem dJ0_isLatin1_aae02_6 : decode cJ0_isLatin1_aae02 6 = .ok (.aload_n 0, 1) := by decide +kernel
theorem dJ0_isLatin1_aae02_7 : decode cJ0_isLatin1_aae02 7 = .ok (.getfield 15, 3) := by decide +kernel
theorem dJ0_isLatin1_aae02_10 : decode cJ0_isLatin1_aae02 10 = .ok (.ifCond .ne 7, 3) := by decide +kernel
theorem dJ0_isLatin1_aae02_13 : decode cJ0_isLatin1_aae02 13 = .ok (.iconst 1, 1) := by decide +kernel
theorem dJ0_isLatin1_aae02_14 : decode cJ0_isLatin1_aae02 14 = .ok (.goto 4, 3) := by decide +kernel
theorem dJ0_isLatin1_aae02_17 : decode cJ0_isLatin1_aae02 17 = .ok (.iconst 0, 1) := by decide +kernel
theorem dJ0_isLatin1_aae02_18 : decode cJ0_isLatin1_aae02 18 = .ok (.ireturn, 1) := by decide +kernel
theorem dJ0_checkIndex_df160_0 : decode cJ0_checkIndex_df160 0 = .ok (.iload_n 0, 1) := by decide +kernel
theorem dJ0_checkIndex_df160_1 : decode cJ0_checkIndex_df160 1 = .ok (.iload_n 1, 1) := by decide +kernel
theorem dJ0_checkIndex_df160_2 : decode cJ0_checkIndex_df160 2 = .ok (.getstatic 1053, 3) := by decide +kernel
theorem dJ0_checkIndex_df160_5 : decode cJ0_checkIndex_df160 5 = .ok (.invokestatic 1059, 3) := by decide +kernel
theorem dJ0_checkIndex_df160_8 : decode cJ0_checkIndex_df160 8 = .ok (.pop, 1) := by decide +kernel
theorem dJ0_checkIndex_df160_9 : decode cJ0_checkIndex_df160 9 = .ok (.return_, 1) := by decide +kernel
theorem dJ1_charAt_3b067_0 : decode cJ1_charAt_3b067 0 = .ok (.iload_n 1, 1) := by decide +kernel
theorem dJ1_charAt_3b067_1 : decode cJ1_charAt_3b067 1 = .ok (.aload_n 0, 1) := by decide +kernel
theorem dJ1_charAt_3b067_2 : decode cJ1_charAt_3b067 2 = .ok (.arraylength, 1) := by decide +kernel
theorem dJ1_charAt_3b067_3 : decode cJ1_charAt_3b067 3 = .ok (.invokestatic 9, 3) := by decide +kernel
theorem dJ1_charAt_3b067_6 : decode cJ1_charAt_3b067 6 = .ok (.aload_n 0, 1) := by decide +kernel
theorem dJ1_charAt_3b067_7 : decode cJ1_charAt_3b067 7 = .ok (.iload_n 1, 1) := by decide +kernel
theorem dJ1_charAt_3b067_8 : decode cJ1_charAt_3b067 8 = .ok (.baload, 1) := by decide +kernel
theorem dJ1_charAt_3b067_9 : decode cJ1_charAt_3b067 9 = .ok (.sipush 255, 3) := by decide +kernel
theorem dJ1_charAt_3b067_12 : decode cJ1_charAt_3b067 12 = .ok (.iand, 1) := by decide +kernel
theorem dJ1_charAt_3b067_13 : decode cJ1_charAt_3b067 13 = .ok (.i2c, 1) := by decide +kernel
theorem dJ1_charAt_3b067_14 : decode cJ1_charAt_3b067 14 = .ok (.ireturn, 1) := by decide +kernel
theorem dJ2_getChar_3b067_0 : decode cJ2_getChar_3b067 0 = .ok (.getstatic 44, 3) := by decide +kernel
theorem dJ2_getChar_3b067_3 : decode cJ2_getChar_3b067 3 = .ok (.ifCond .ne 25, 3) := by decide +kernel
theorem dJ2_getChar_3b067_6 : decode cJ2_getChar_3b067 6 = .ok (.iload_n 1, 1) := by decide +kernel
theorem dJ2_getChar_3b067_7 : decode cJ2_getChar_3b067 7 = .ok (.ifCond .lt 11, 3) := by decide +kernel
theorem dJ2_getChar_3b067_10 : decode cJ2_getChar_3b067 10 = .ok (.iload_n 1, 1) := by decide +kernel
theorem dJ2_getChar_3b067_11 : decode cJ2_getChar_3b067 11 = .ok (.aload_n 0, 1) := by decide +kernel
theorem dJ2_getChar_3b067_12 : decode cJ2_getChar_3b067 12 = .ok (.invokestatic 48, 3) := by decide +kernel
theorem dJ2_getChar_3b067_15 : decode cJ2_getChar_3b067 15 = .ok (.if_icmp .lt 13, 3) := by decide +kernel
theorem dJ2_getChar_3b067_18 : decode cJ2_getChar_3b067 18 = .ok (.new 52, 3) := by decide +kernel
theorem dJ2_getChar_3b067_21 : decode cJ2_getChar_3b067 21 = .ok (.dup, 1) := by decide +kernel
theorem dJ2_getChar_3b067_22 : decode cJ2_getChar_3b067 22 = .ok (.ldc 54, 2) := by decide +kernel
theorem dJ2_getChar_3b067_24 : decode cJ2_getChar_3b067 24 = .ok (.invokespecial 56, 3) := by decide +kernel
theorem dJ2_getChar_3b067_27 : decode cJ2_getChar_3b067 27 = .ok (.athrow, 1) := by decide +kernel
theorem dJ2_getChar_3b067_28 : decode cJ2_getChar_3b067 28 = .ok (.iload_n 1, 1) := by decide +kernel
theorem dJ2_getChar_3b067_29 : decode cJ2_getChar_3b067 29 = .ok (.iconst 1, 1) := by decide +kernel
theorem dJ2_getChar_3b067_30 : decode cJ2_getChar_3b067 30 = .ok (.ishl, 1) := by decide +kernel
theorem dJ2_getChar_3b067_31 : decode cJ2_getChar_3b067 31 = .ok (.istore_n 1, 1) := by decide +kernel
theorem dJ2_getChar_3b067_32 : decode cJ2_getChar_3b067 32 = .ok (.aload_n 0, 1) := by decide +kernel
theorem dJ2_getChar_3b067_33 : decode cJ2_getChar_3b067 33 = .ok (.iload_n 1, 1) := by decide +kernel
theorem dJ2_getChar_3b067_34 : decode cJ2_getChar_3b067 34 = .ok (.iinc 1 1, 3) := by decide +kernel
theorem dJ2_getChar_3b067_37 : decode cJ2_getChar_3b067 37 = .ok (.baload, 1) := by decide +kernel
theorem dJ2_getChar_3b067_38 : decode cJ2_getChar_3b067 38 = .ok (.sipush 255, 3) := by decide +kernel
theorem dJ2_getChar_3b067_41 : decode cJ2_getChar_3b067 41 = .ok (.iand, 1) := by decide +kernel
theorem dJ2_getChar_3b067_42 : decode cJ2_getChar_3b067 42 = .ok (.getstatic 59, 3) := by decide +kernel
theorem dJ2_getChar_3b067_45 : decode cJ2_getChar_3b067 45 = .ok (.ishl, 1) := by decide +kernel
theorem dJ2_getChar_3b067_46 : decode cJ2_getChar_3b067 46 = .ok (.aload_n 0, 1) := by decide +kernel
theorem dJ2_getChar_3b067_47 : decode cJ2_getChar_3b067 47 = .ok (.iload_n 1, 1) := by decide +kernel
theorem dJ2_getChar_3b067_48 : decode cJ2_getChar_3b067 48 = .ok (.baload, 1) := by decide +kernel
theorem dJ2_getChar_3b067_49 : decode cJ2_getChar_3b067 49 = .ok (.sipush 255, 3) := by decide +kernel
theorem dJ2_getChar_3b067_52 : decode cJ2_getChar_3b067 52 = .ok (.iand, 1) := by decide +kernel
theorem dJ2_getChar_3b067_53 : decode cJ2_getChar_3b067 53 = .ok (.getstatic 63, 3) := by decide +kernel
theorem dJ2_getChar_3b067_56 : decode cJ2_getChar_3b067 56 = .ok (.ishl, 1) := by decide +kernel
theorem dJ2_getChar_3b067_57 : decode cJ2_getChar_3b067 57 = .ok (.ior, 1) := by decide +kernel
theorem dJ2_getChar_3b067_58 : decode cJ2_getChar_3b067 58 = .ok (.i2c, 1) := by decide +kernel
theorem dJ2_getChar_3b067_59 : decode cJ2_getChar_3b067 59 = .ok (.ireturn, 1) := by decide +kernel
theorem dJ2_length_9d52b_0 : decode cJ2_length_9d52b 0 = .ok (.aload_n 0, 1) := by decide +kernel
theorem dJ2_length_9d52b_1 : decode cJ2_length_9d52b 1 = .ok (.arraylength, 1) := by decide +kernel
theorem dJ2_length_9d52b_2 : decode cJ2_length_9d52b 2 = .ok (.iconst 1, 1) := by decide +kernel
theorem dJ2_length_9d52b_3 : decode cJ2_length_9d52b 3 = .ok (.ishr, 1) := by decide +kernel
theorem dJ2_length_9d52b_4 : decode cJ2_length_9d52b 4 = .ok (.ireturn, 1) := by decide +kernel
theorem dJ2_charAt_3b067_0 : decode cJ2_charAt_3b067 0 = .ok (.iload_n 1, 1) := by decide +kernel
theorem dJ2_charAt_3b067_1 : decode cJ2_charAt_3b067 1 = .ok (.aload_n 0, 1) := by decide +kernel
theorem dJ2_charAt_3b067_2 : decode cJ2_charAt_3b067 2 = .ok (.invokestatic 67, 3) := by decide +kernel
theorem dJ2_charAt_3b067_5 : decode cJ2_charAt_3b067 5 = .ok (.aload_n 0, 1) := by decide +kernel
theorem dJ2_charAt_3b067_6 : decode cJ2_charAt_3b067 6 = .ok (.iload_n 1, 1) := by decide +kernel
theorem dJ2_charAt_3b067_7 : decode cJ2_charAt_3b067 7 = .ok (.invokestatic 71, 3) := by decide +kernel
theorem dJ2_charAt_3b067_10 : decode cJ2_charAt_3b067 10 = .ok (.ireturn, 1) := by decide +kernel
theorem dJ2_checkIndex_2214a_0 : decode cJ2_checkIndex_2214a 0 = .ok (.iload_n 0, 1) := by decide +kernel
theorem dJ2_checkIndex_2214a_1 : decode cJ2_checkIndex_2214a 1 = .ok (.aload_n 1, 1) := by decide +kernel
theorem dJ2_checkIndex_2214a_2 : decode cJ2_checkIndex_2214a 2 = .ok (.invokestatic 48, 3) := by decide +kernel
theorem dJ2_checkIndex_2214a_5 : decode cJ2_checkIndex_2214a 5 = .ok (.invokestatic 414, 3) := by decide +kernel
theorem dJ2_checkIndex_2214a_8 : decode cJ2_checkIndex_2214a 8 = .ok (.return_, 1) := by decide +kernel
theorem dJ3_checkIndex_8e157_0 : decode cJ3_checkIndex_8e157 0 = .ok (.iload_n 0, 1) := by decide +kernel
theorem dJ3_checkIndex_8e157_1 : decode cJ3_checkIndex_8e157 1 = .ok (.ifCond .lt 8, 3) := by decide +kernel
theorem dJ3_checkIndex_8e157_4 : decode cJ3_checkIndex_8e157 4 = .ok (.iload_n 0, 1) := by decide +kernel
theorem dJ3_checkIndex_8e157_5 : decode cJ3_checkIndex_8e157 5 = .ok (.iload_n 1, 1) := by decide +kernel
theorem dJ3_checkIndex_8e157_6 : decode cJ3_checkIndex_8e157 6 = .ok (.if_icmp .lt 10, 3) := by decide +kernel
theorem dJ3_checkIndex_8e157_9 : decode cJ3_checkIndex_8e157 9 = .ok (.aload_n 2, 1) := by decide +kernel
theorem dJ3_checkIndex_8e157_10 : decode cJ3_checkIndex_8e157 10 = .ok (.iload_n 0, 1) := by decide +kernel
theorem dJ3_checkIndex_8e157_11 : decode cJ3_checkIndex_8e157 11 = .ok (.iload_n 1, 1) := by decide +kernel
theorem dJ3_checkIndex_8e157_12 : decode cJ3_checkIndex_8e157 12 = .ok (.invokestatic 95, 3) := by decide +kernel
theorem dJ3_checkIndex_8e157_15 : decode cJ3_checkIndex_8e157 15 = .ok (.athrow, 1) := by decide +kernel
theorem dJ3_checkIndex_8e157_16 : decode cJ3_checkIndex_8e157 16 = .ok (.iload_n 0, 1) := by decide +kernel
theorem dJ3_checkIndex_8e157_17 : decode cJ3_checkIndex_8e157 17 = .ok (.ireturn, 1) := by decide +kernel
theorem dL_law_0 : decode cL_law 0 = .ok (.new 7, 3) := by decide +kernel
theorem dL_law_3 : decode cL_law 3 = .ok (.dup, 1) := by decide +kernel
theorem dL_law_4 : decode cL_law 4 = .ok (.invokespecial 9, 3) := by decide +kernel
theorem dL_law_7 : decode cL_law 7 = .ok (.astore_n 1, 1) := by decide +kernel
theorem dL_law_8 : decode cL_law 8 = .ok (.new 10, 3) := by decide +kernel
theorem dL_law_11 : decode cL_law 11 = .ok (.dup, 1) := by decide +kernel
theorem dL_law_12 : decode cL_law 12 = .ok (.invokespecial 12, 3) := by decide +kernel
theorem dL_law_15 : decode cL_law 15 = .ok (.astore_n 2, 1) := by decide +kernel
theorem dL_law_16 : decode cL_law 16 = .ok (.iconst 0, 1) := by decide +kernel
theorem dL_law_17 : decode cL_law 17 = .ok (.istore_n 3, 1) := by decide +kernel
theorem dL_law_18 : decode cL_law 18 = .ok (.iload_n 3, 1) := by decide +kernel
theorem dL_law_19 : decode cL_law 19 = .ok (.aload_n 0, 1) := by decide +kernel
theorem dL_law_20 : decode cL_law 20 = .ok (.arraylength, 1) := by decide +kernel
theorem dL_law_21 : decode cL_law 21 = .ok (.bipush 6, 2) := by decide +kernel
theorem dL_law_23 : decode cL_law 23 = .ok (.isub, 1) := by decide +kernel
theorem dL_law_24 : decode cL_law 24 = .ok (.if_icmp .gt 1271, 3) := by decide +kernel
theorem dL_law_27 : decode cL_law 27 = .ok (.aload_n 0, 1) := by decide +kernel
theorem dL_law_28 : decode cL_law 28 = .ok (.iload_n 3, 1) := by decide +kernel
theorem dL_law_29 : decode cL_law 29 = .ok (.iaload, 1) := by decide +kernel
theorem dL_law_30 : decode cL_law 30 = .ok (.bipush 63, 2) := by decide +kernel
theorem dL_law_32 : decode cL_law 32 = .ok (.iand, 1) := by decide +kernel
theorem dL_law_33 : decode cL_law 33 = .ok (.tableswitch 1256 0 33 #[151, 194, 227, 260, 293, 326, 359, 392, 435, 458, 471, 494, 517, 550, 593, 626, 669, 702, 736, 760, 793, 816, 849, 862, 895, 908, 921, 964, 987, 1020, 1043, 1086, 1159, 1193], 151) := by decide +kernel
theorem dL_law_184 : decode cL_law 184 = .ok (.aload_n 1, 1) := by decide +kernel
theorem dL_law_185 : decode cL_law 185 = .ok (.aload_n 0, 1) := by decide +kernel
theorem dL_law_186 : decode cL_law 186 = .ok (.iload_n 3, 1) := by decide +kernel
theorem dL_law_187 : decode cL_law 187 = .ok (.iconst 1, 1) := by decide +kernel
theorem dL_law_188 : decode cL_law 188 = .ok (.iadd, 1) := by decide +kernel
theorem dL_law_189 : decode cL_law 189 = .ok (.iaload, 1) := by decide +kernel
theorem dL_law_190 : decode cL_law 190 = .ok (.aload_n 0, 1) := by decide +kernel
theorem dL_law_191 : decode cL_law 191 = .ok (.iload_n 3, 1) := by decide +kernel
theorem dL_law_192 : decode cL_law 192 = .ok (.iconst 2, 1) := by decide +kernel
theorem dL_law_193 : decode cL_law 193 = .ok (.iadd, 1) := by decide +kernel
theorem dL_law_194 : decode cL_law 194 = .ok (.iaload, 1) := by decide +kernel
theorem dL_law_195 : decode cL_law 195 = .ok (.aload_n 0, 1) := by decide +kernel
theorem dL_law_196 : decode cL_law 196 = .ok (.iload_n 3, 1) := by decide +kernel
theorem dL_law_197 : decode cL_law 197 = .ok (.iconst 3, 1) := by decide +kernel
theorem dL_law_198 : decode cL_law 198 = .ok (.iadd, 1) := by decide +kernel
theorem dL_law_199 : decode cL_law 199 = .ok (.iaload, 1) := by decide +kernel
theorem dL_law_200 : decode cL_law 200 = .ok (.invokevirtual 13, 3) := by decide +kernel
theorem dL_law_203 : decode cL_law 203 = .ok (.aload_n 2, 1) := by decide +kernel
theorem dL_law_204 : decode cL_law 204 = .ok (.aload_n 0, 1) := by decide +kernel
theorem dL_law_205 : decode cL_law 205 = .ok (.iload_n 3, 1) := by decide +kernel
theorem dL_law_206 : decode cL_law 206 = .ok (.iconst 1, 1) := by decide +kernel
theorem dL_law_207 : decode cL_law 207 = .ok (.iadd, 1) := by decide +kernel
theorem dL_law_208 : decode cL_law 208 = .ok (.iaload, 1) := by decide +kernel
theorem dL_law_209 : decode cL_law 209 = .ok (.aload_n 0, 1) := by decide +kernel
theorem dL_law_210 : decode cL_law 210 = .ok (.iload_n 3, 1) := by decide +kernel
theorem dL_law_211 : decode cL_law 211 = .ok (.iconst 2, 1) := by decide +kernel
theorem dL_law_212 : decode cL_law 212 = .ok (.iadd, 1) := by decide +kernel
theorem dL_law_213 : decode cL_law 213 = .ok (.iaload, 1) := by decide +kernel
theorem dL_law_214 : decode cL_law 214 = .ok (.aload_n 0, 1) := by decide +kernel
theorem dL_law_215 : decode cL_law 215 = .ok (.iload_n 3, 1) := by decide +kernel
theorem dL_law_216 : decode cL_law 216 = .ok (.iconst 3, 1) := by decide +kernel
theorem dL_law_217 : decode cL_law 217 = .ok (.iadd, 1) := by decide +kernel
theorem dL_law_218 : decode cL_law 218 = .ok (.iaload, 1) := by decide +kernel
theorem dL_law_219 : decode cL_law 219 = .ok (.invokevirtual 17, 3) := by decide +kernel
theorem dL_law_222 : decode cL_law 222 = .ok (.if_icmp .eq 1067, 3) := by decide +kernel
theorem dL_law_225 : decode cL_law 225 = .ok (.iconst 0, 1) := by decide +kernel
theorem dL_law_226 : decode cL_law 226 = .ok (.ireturn, 1) := by decide +kernel
theorem dL_law_227 : decode cL_law 227 = .ok (.aload_n 1, 1) := by decide +kernel
theorem dL_law_228 : decode cL_law 228 = .ok (.aload_n 0, 1) := by decide +kernel
theorem dL_law_229 : decode cL_law 229 = .ok (.iload_n 3, 1) := by decide +kernel
theorem dL_law_230 : decode cL_law 230 = .ok (.iconst 1, 1) := by decide +kernel
theorem dL_law_231 : decode cL_law 231 = .ok (.iadd, 1) := by decide +kernel
theorem dL_law_232 : decode cL_law 232 = .ok (.iaload, 1) := by decide +kernel
theorem dL_law_233 : decode cL_law 233 = .ok (.aload_n 0, 1) := by decide +kernel
theorem dL_law_234 : decode cL_law 234 = .ok (.iload_n 3, 1) := by decide +kernel
theorem dL_law_235 : decode cL_law 235 = .ok (.iconst 2, 1) := by decide +kernel
theorem dL_law_236 : decode cL_law 236 = .ok (.iadd, 1) := by decide +kernel
theorem dL_law_237 : decode cL_law 237 = .ok (.iaload, 1) := by decide +kernel
theorem dL_law_238 : decode cL_law 238 = .ok (.invokevirtual 18, 3) := by decide +kernel
theorem dL_law_241 : decode cL_law 241 = .ok (.aload_n 2, 1) := by decide +kernel
theorem dL_law_242 : decode cL_law 242 = .ok (.aload_n 0, 1) := by decide +kernel
theorem dL_law_243 : decode cL_law 243 = .ok (.iload_n 3, 1) := by decide +kernel
theorem dL_law_244 : decode cL_law 244 = .ok (.iconst 1, 1) := by decide +kernel
theorem dL_law_245 : decode cL_law 245 = .ok (.iadd, 1) := by decide +kernel
theorem dL_law_246 : decode cL_law 246 = .ok (.iaload, 1) := by decide +kernel
theorem dL_law_247 : decode cL_law 247 = .ok (.aload_n 0, 1) := by decide +kernel
theorem dL_law_248 : decode cL_law 248 = .ok (.iload_n 3, 1) := by decide +kernel
theorem dL_law_249 : decode cL_law 249 = .ok (.iconst 2, 1) := by decide +kernel
theorem dL_law_250 : decode cL_law 250 = .ok (.iadd, 1) := by decide +kernel
theorem dL_law_251 : decode cL_law 251 = .ok (.iaload, 1) := by decide +kernel
theorem dL_law_252 : decode cL_law 252 = .ok (.invokevirtual 22, 3) := by decide +kernel
theorem dL_law_255 : decode cL_law 255 = .ok (.if_icmp .eq 1034, 3) := by decide +kernel
theorem dL_law_258 : decode cL_law 258 = .ok (.iconst 0, 1) := by decide +kernel
theorem dL_law_259 : decode cL_law 259 = .ok (.ireturn, 1) := by decide +kernel
theorem dL_law_260 : decode cL_law 260 = .ok (.aload_n 1, 1) := by decide +kernel
theorem dL_law_261 : decode cL_law 261 = .ok (.aload_n 0, 1) := by decide +kernel
theorem dL_law_262 : decode cL_law 262 = .ok (.iload_n 3, 1) := by decide +kernel
theorem dL_law_263 : decode cL_law 263 = .ok (.iconst 1, 1) := by decide +kernel
theorem dL_law_264 : decode cL_law 264 = .ok (.iadd, 1) := by decide +kernel
theorem dL_law_265 : decode cL_law 265 = .ok (.iaload, 1) := by decide +kernel
theorem dL_law_266 : decode cL_law 266 = .ok (.aload_n 0, 1) := by decide +kernel
theorem dL_law_267 : decode cL_law 267 = .ok (.iload_n 3, 1) := by decide +kernel
theorem dL_law_268 : decode cL_law 268 = .ok (.iconst 2, 1) := by decide +kernel
theorem dL_law_269 : decode cL_law 269 = .ok (.iadd, 1) := by decide +kernel
theorem dL_law_270 : decode cL_law 270 = .ok (.iaload, 1) := by decide +kernel
theorem dL_law_271 : decode cL_law 271 = .ok (.invokevirtual 23, 3) := by decide +kernel
theorem dL_law_274 : decode cL_law 274 = .ok (.aload_n 2, 1) := by decide +kernel
theorem dL_law_275 : decode cL_law 275 = .ok (.aload_n 0, 1) := by decide +kernel
theorem dL_law_276 : decode cL_law 276 = .ok (.iload_n 3, 1) := by decide +kernel
theorem dL_law_277 : decode cL_law 277 = .ok (.iconst 1, 1) := by decide +kernel
theorem dL_law_278 : decode cL_law 278 = .ok (.iadd, 1) := by decide +kernel
theorem dL_law_279 : decode cL_law 279 = .ok (.iaload, 1) := by decide +kernel
theorem dL_law_280 : decode cL_law 280 = .ok (.aload_n 0, 1) := by decide +kernel
theorem dL_law_281 : decode cL_law 281 = .ok (.iload_n 3, 1) := by decide +kernel
theorem dL_law_282 : decode cL_law 282 = .ok (.iconst 2, 1) := by decide +kernel
theorem dL_law_283 : decode cL_law 283 = .ok (.iadd, 1) := by decide +kernel
theorem dL_law_284 : decode cL_law 284 = .ok (.iaload, 1) := by decide +kernel
theorem dL_law_285 : decode cL_law 285 = .ok (.invokevirtual 26, 3) := by decide +kernel
theorem dL_law_288 : decode cL_law 288 = .ok (.if_icmp .eq 1001, 3) := by decide +kernel
theorem dL_law_291 : decode cL_law 291 = .ok (.iconst 0, 1) := by decide +kernel
theorem dL_law_292 : decode cL_law 292 = .ok (.ireturn, 1) := by decide +kernel
theorem dL_law_293 : decode cL_law 293 = .ok (.aload_n 1, 1) := by decide +kernel
theorem dL_law_294 : decode cL_law 294 = .ok (.aload_n 0, 1) := by decide +kernel
theorem dL_law_295 : decode cL_law 295 = .ok (.iload_n 3, 1) := by decide +kernel
theorem dL_law_296 : decode cL_law 296 = .ok (.iconst 1, 1) := by decide +kernel
theorem dL_law_297 : decode cL_law 297 = .ok (.iadd, 1) := by decide +kernel
theorem dL_law_298 : decode cL_law 298 = .ok (.iaload, 1) := by decide +kernel
theorem dL_law_299 : decode cL_law 299 = .ok (.aload_n 0, 1) := by decide +kernel
theorem dL_law_300 : decode cL_law 300 = .ok (.iload_n 3, 1) := by decide +kernel
theorem dL_law_301 : decode cL_law 301 = .ok (.iconst 2, 1) := by decide +kernel
theorem dL_law_302 : decode cL_law 302 = .ok (.iadd, 1) := by decide +kernel
theorem dL_law_303 : decode cL_law 303 = .ok (.iaload, 1) := by decide +kernel
theorem dL_law_304 : decode cL_law 304 = .ok (.invokevirtual 27, 3) := by decide +kernel
theorem dL_law_307 : decode cL_law 307 = .ok (.aload_n 2, 1) := by decide +kernel
theorem dL_law_308 : decode cL_law 308 = .ok (.aload_n 0, 1) := by decide +kernel
theorem dL_law_309 : decode cL_law 309 = .ok (.iload_n 3, 1) := by decide +kernel
theorem dL_law_310 : decode cL_law 310 = .ok (.iconst 1, 1) := by decide +kernel
theorem dL_law_311 : decode cL_law 311 = .ok (.iadd, 1) := by decide +kernel
theorem dL_law_312 : decode cL_law 312 = .ok (.iaload, 1) := by decide +kernel
theorem dL_law_313 : decode cL_law 313 = .ok (.aload_n 0, 1) := by decide +kernel
theorem dL_law_314 : decode cL_law 314 = .ok (.iload_n 3, 1) := by decide +kernel
theorem dL_law_315 : decode cL_law 315 = .ok (.iconst 2, 1) := by decide +kernel
theorem dL_law_316 : decode cL_law 316 = .ok (.iadd, 1) := by decide +kernel
theorem dL_law_317 : decode cL_law 317 = .ok (.iaload, 1) := by decide +kernel
theorem dL_law_318 : decode cL_law 318 = .ok (.invokevirtual 30, 3) := by decide +kernel
theorem dL_law_321 : decode cL_law 321 = .ok (.if_icmp .eq 968, 3) := by decide +kernel
theorem dL_law_324 : decode cL_law 324 = .ok (.iconst 0, 1) := by decide +kernel
theorem dL_law_325 : decode cL_law 325 = .ok (.ireturn, 1) := by decide +kernel
theorem dL_law_326 : decode cL_law 326 = .ok (.aload_n 1, 1) := by decide +kernel
theorem dL_law_327 : decode cL_law 327 = .ok (.aload_n 0, 1) := by decide +kernel
theorem dL_law_328 : decode cL_law 328 = .ok (.iload_n 3, 1) := by decide +kernel
theorem dL_law_329 : decode cL_law 329 = .ok (.iconst 1, 1) := by decide +kernel
theorem dL_law_330 : decode cL_law 330 = .ok (.iadd, 1) := by decide +kernel
theorem dL_law_331 : decode cL_law 331 = .ok (.iaload, 1) := by decide +kernel
theorem dL_law_332 : decode cL_law 332 = .ok (.aload_n 0, 1) := by decide +kernel
theorem dL_law_333 : decode cL_law 333 = .ok (.iload_n 3, 1) := by decide +kernel
theorem dL_law_334 : decode cL_law 334 = .ok (.iconst 2, 1) := by decide +kernel
theorem dL_law_335 : decode cL_law 335 = .ok (.iadd, 1) := by decide +kernel
theorem dL_law_336 : decode cL_law 336 = .ok (.iaload, 1) := by decide +kernel
theorem dL_law_337 : decode cL_law 337 = .ok (.invokevirtual 31, 3) := by decide +kernel
theorem dL_law_340 : decode cL_law 340 = .ok (.aload_n 2, 1) := by decide +kernel
theorem dL_law_341 : decode cL_law 341 = .ok (.aload_n 0, 1) := by decide +kernel
theorem dL_law_342 : decode cL_law 342 = .ok (.iload_n 3, 1) := by decide +kernel
theorem dL_law_343 : decode cL_law 343 = .ok (.iconst 1, 1) := by decide +kernel
theorem dL_law_344 : decode cL_law 344 = .ok (.iadd, 1) := by decide +kernel
theorem dL_law_345 : decode cL_law 345 = .ok (.iaload, 1) := by decide +kernel
theorem dL_law_346 : decode cL_law 346 = .ok (.aload_n 0, 1) := by decide +kernel
theorem dL_law_347 : decode cL_law 347 = .ok (.iload_n 3, 1) := by decide +kernel
theorem dL_law_348 : decode cL_law 348 = .ok (.iconst 2, 1) := by decide +kernel
theorem dL_law_349 : decode cL_law 349 = .ok (.iadd, 1) := by decide +kernel
theorem dL_law_350 : decode cL_law 350 = .ok (.iaload, 1) := by decide +kernel
theorem dL_law_351 : decode cL_law 351 = .ok (.invokevirtual 34, 3) := by decide +kernel
theorem dL_law_354 : decode cL_law 354 = .ok (.if_icmp .eq 935, 3) := by decide +kernel
theorem dL_law_357 : decode cL_law 357 = .ok (.iconst 0, 1) := by decide +kernel
theorem dL_law_358 : decode cL_law 358 = .ok (.ireturn, 1) := by decide +kernel
theorem dL_law_359 : decode cL_law 359 = .ok (.aload_n 1, 1) := by decide +kernel
theorem dL_law_360 : decode cL_law 360 = .ok (.aload_n 0, 1) := by decide +kernel
theorem dL_law_361 : decode cL_law 361 = .ok (.iload_n 3, 1) := by decide +kernel
theorem dL_law_362 : decode cL_law 362 = .ok (.iconst 1, 1) := by decide +kernel
theorem dL_law_363 : decode cL_law 363 = .ok (.iadd, 1) := by decide +kernel
theorem dL_law_364 : decode cL_law 364 = .ok (.iaload, 1) := by decide +kernel
theorem dL_law_365 : decode cL_law 365 = .ok (.aload_n 0, 1) := by decide +kernel
theorem dL_law_366 : decode cL_law 366 = .ok (.iload_n 3, 1) := by decide +kernel
theorem dL_law_367 : decode cL_law 367 = .ok (.iconst 2, 1) := by decide +kernel
theorem dL_law_368 : decode cL_law 368 = .ok (.iadd, 1) := by decide +kernel
theorem dL_law_369 : decode cL_law 369 = .ok (.iaload, 1) := by decide +kernel
theorem dL_law_370 : decode cL_law 370 = .ok (.invokevirtual 35, 3) := by decide +kernel
theorem dL_law_373 : decode cL_law 373 = .ok (.aload_n 2, 1) := by decide +kernel
theorem dL_law_374 : decode cL_law 374 = .ok (.aload_n 0, 1) := by decide +kernel
theorem dL_law_375 : decode cL_law 375 = .ok (.iload_n 3, 1) := by decide +kernel
theorem dL_law_376 : decode cL_law 376 = .ok (.iconst 1, 1) := by decide +kernel
theorem dL_law_377 : decode cL_law 377 = .ok (.iadd, 1) := by decide +kernel
theorem dL_law_378 : decode cL_law 378 = .ok (.iaload, 1) := by decide +kernel
theorem dL_law_379 : decode cL_law 379 = .ok (.aload_n 0, 1) := by decide +kernel
theorem dL_law_380 : decode cL_law 380 = .ok (.iload_n 3, 1) := by decide +kernel
theorem dL_law_381 : decode cL_law 381 = .ok (.iconst 2, 1) := by decide +kernel
theorem dL_law_382 : decode cL_law 382 = .ok (.iadd, 1) := by decide +kernel
theorem dL_law_383 : decode cL_law 383 = .ok (.iaload, 1) := by decide +kernel
theorem dL_law_384 : decode cL_law 384 = .ok (.invokevirtual 38, 3) := by decide +kernel
theorem dL_law_387 : decode cL_law 387 = .ok (.if_icmp .eq 902, 3) := by decide +kernel
theorem dL_law_390 : decode cL_law 390 = .ok (.iconst 0, 1) := by decide +kernel
theorem dL_law_391 : decode cL_law 391 = .ok (.ireturn, 1) := by decide +kernel
theorem dL_law_392 : decode cL_law 392 = .ok (.aload_n 1, 1) := by decide +kernel
theorem dL_law_393 : decode cL_law 393 = .ok (.aload_n 0, 1) := by decide +kernel
theorem dL_law_394 : decode cL_law 394 = .ok (.iload_n 3, 1) := by decide +kernel
theorem dL_law_395 : decode cL_law 395 = .ok (.iconst 1, 1) := by decide +kernel
theorem dL_law_396 : decode cL_law 396 = .ok (.iadd, 1) := by decide +kernel
theorem dL_law_397 : decode cL_law 397 = .ok (.iaload, 1) := by decide +kernel
theorem dL_law_398 : decode cL_law 398 = .ok (.aload_n 0, 1) := by decide +kernel
theorem dL_law_399 : decode cL_law 399 = .ok (.iload_n 3, 1) := by decide +kernel
theorem dL_law_400 : decode cL_law 400 = .ok (.iconst 2, 1) := by decide +kernel
theorem dL_law_401 : decode cL_law 401 = .ok (.iadd, 1) := by decide +kernel
theorem dL_law_402 : decode cL_law 402 = .ok (.iaload, 1) := by decide +kernel
theorem dL_law_403 : decode cL_law 403 = .ok (.invokevirtual 39, 3) := by decide +kernel
theorem dL_law_406 : decode cL_law 406 = .ok (.aload_n 2, 1) := by decide +kernel
theorem dL_law_407 : decode cL_law 407 = .ok (.aload_n 0, 1) := by decide +kernel
theorem dL_law_408 : decode cL_law 408 = .ok (.iload_n 3, 1) := by decide +kernel
theorem dL_law_409 : decode cL_law 409 = .ok (.iconst 1, 1) := by decide +kernel
theorem dL_law_410 : decode cL_law 410 = .ok (.iadd, 1) := by decide +kernel
theorem dL_law_411 : decode cL_law 411 = .ok (.iaload, 1) := by decide +kernel
theorem dL_law_412 : decode cL_law 412 = .ok (.aload_n 0, 1) := by decide +kernel
theorem dL_law_413 : decode cL_law 413 = .ok (.iload_n 3, 1) := by decide +kernel
theorem dL_law_414 : decode cL_law 414 = .ok (.iconst 2, 1) := by decide +kernel
theorem dL_law_415 : decode cL_law 415 = .ok (.iadd, 1) := by decide +kernel
theorem dL_law_416 : decode cL_law 416 = .ok (.iaload, 1) := by decide +kernel
theorem dL_law_417 : decode cL_law 417 = .ok (.invokevirtual 42, 3) := by decide +kernel
theorem dL_law_420 : decode cL_law 420 = .ok (.if_icmp .eq 869, 3) := by decide +kernel
theorem dL_law_423 : decode cL_law 423 = .ok (.iconst 0, 1) := by decide +kernel
theorem dL_law_424 : decode cL_law 424 = .ok (.ireturn, 1) := by decide +kernel
theorem dL_law_425 : decode cL_law 425 = .ok (.aload_n 1, 1) := by decide +kernel
theorem dL_law_426 : decode cL_law 426 = .ok (.aload_n 0, 1) := by decide +kernel
theorem dL_law_427 : decode cL_law 427 = .ok (.iload_n 3, 1) := by decide +kernel
theorem dL_law_428 : decode cL_law 428 = .ok (.iconst 1, 1) := by decide +kernel
theorem dL_law_429 : decode cL_law 429 = .ok (.iadd, 1) := by decide +kernel
theorem dL_law_430 : decode cL_law 430 = .ok (.iaload, 1) := by decide +kernel
theorem dL_law_431 : decode cL_law 431 = .ok (.aload_n 0, 1) := by decide +kernel
theorem dL_law_432 : decode cL_law 432 = .ok (.iload_n 3, 1) := by decide +kernel
theorem dL_law_433 : decode cL_law 433 = .ok (.iconst 2, 1) := by decide +kernel
theorem dL_law_434 : decode cL_law 434 = .ok (.iadd, 1) := by decide +kernel
theorem dL_law_435 : decode cL_law 435 = .ok (.iaload, 1) := by decide +kernel
theorem dL_law_436 : decode cL_law 436 = .ok (.aload_n 0, 1) := by decide +kernel
theorem dL_law_437 : decode cL_law 437 = .ok (.iload_n 3, 1) := by decide +kernel
theorem dL_law_438 : decode cL_law 438 = .ok (.iconst 3, 1) := by decide +kernel
theorem dL_law_439 : decode cL_law 439 = .ok (.iadd, 1) := by decide +kernel
theorem dL_law_440 : decode cL_law 440 = .ok (.iaload, 1) := by decide +kernel
theorem dL_law_441 : decode cL_law 441 = .ok (.invokevirtual 43, 3) := by decide +kernel
theorem dL_law_444 : decode cL_law 444 = .ok (.aload_n 2, 1) := by decide +kernel
theorem dL_law_445 : decode cL_law 445 = .ok (.aload_n 0, 1) := by decide +kernel
theorem dL_law_446 : decode cL_law 446 = .ok (.iload_n 3, 1) := by decide +kernel
theorem dL_law_447 : decode cL_law 447 = .ok (.iconst 1, 1) := by decide +kernel
theorem dL_law_448 : decode cL_law 448 = .ok (.iadd, 1) := by decide +kernel
theorem dL_law_449 : decode cL_law 449 = .ok (.iaload, 1) := by decide +kernel
theorem dL_law_450 : decode cL_law 450 = .ok (.aload_n 0, 1) := by decide +kernel
theorem dL_law_451 : decode cL_law 451 = .ok (.iload_n 3, 1) := by decide +kernel
theorem dL_law_452 : decode cL_law 452 = .ok (.iconst 2, 1) := by decide +kernel
theorem dL_law_453 : decode cL_law 453 = .ok (.iadd, 1) := by decide +kernel
theorem dL_law_454 : decode cL_law 454 = .ok (.iaload, 1) := by decide +kernel
theorem dL_law_455 : decode cL_law 455 = .ok (.aload_n 0, 1) := by decide +kernel
theorem dL_law_456 : decode cL_law 456 = .ok (.iload_n 3, 1) := by decide +kernel
theorem dL_law_457 : decode cL_law 457 = .ok (.iconst 3, 1) := by decide +kernel
theorem dL_law_458 : decode cL_law 458 = .ok (.iadd, 1) := by decide +kernel
theorem dL_law_459 : decode cL_law 459 = .ok (.iaload, 1) := by decide +kernel
theorem dL_law_460 : decode cL_law 460 = .ok (.invokevirtual 46, 3) := by decide +kernel
theorem dL_law_463 : decode cL_law 463 = .ok (.if_icmp .eq 826, 3) := by decide +kernel
theorem dL_law_466 : decode cL_law 466 = .ok (.iconst 0, 1) := by decide +kernel
theorem dL_law_467 : decode cL_law 467 = .ok (.ireturn, 1) := by decide +kernel
theorem dL_law_468 : decode cL_law 468 = .ok (.aload_n 1, 1) := by decide +kernel
theorem dL_law_469 : decode cL_law 469 = .ok (.aload_n 0, 1) := by decide +kernel
theorem dL_law_470 : decode cL_law 470 = .ok (.iload_n 3, 1) := by decide +kernel
theorem dL_law_471 : decode cL_law 471 = .ok (.iconst 1, 1) := by decide +kernel
theorem dL_law_472 : decode cL_law 472 = .ok (.iadd, 1) := by decide +kernel
theorem dL_law_473 : decode cL_law 473 = .ok (.iaload, 1) := by decide +kernel
theorem dL_law_474 : decode cL_law 474 = .ok (.invokevirtual 47, 3) := by decide +kernel
theorem dL_law_477 : decode cL_law 477 = .ok (.aload_n 2, 1) := by decide +kernel
theorem dL_law_478 : decode cL_law 478 = .ok (.aload_n 0, 1) := by decide +kernel
theorem dL_law_479 : decode cL_law 479 = .ok (.iload_n 3, 1) := by decide +kernel
theorem dL_law_480 : decode cL_law 480 = .ok (.iconst 1, 1) := by decide +kernel
theorem dL_law_481 : decode cL_law 481 = .ok (.iadd, 1) := by decide +kernel
theorem dL_law_482 : decode cL_law 482 = .ok (.iaload, 1) := by decide +kernel
theorem dL_law_483 : decode cL_law 483 = .ok (.invokevirtual 51, 3) := by decide +kernel
theorem dL_law_486 : decode cL_law 486 = .ok (.if_icmp .eq 803, 3) := by decide +kernel
theorem dL_law_489 : decode cL_law 489 = .ok (.iconst 0, 1) := by decide +kernel
theorem dL_law_490 : decode cL_law 490 = .ok (.ireturn, 1) := by decide +kernel
theorem dL_law_491 : decode cL_law 491 = .ok (.aload_n 1, 1) := by decide +kernel
theorem dL_law_492 : decode cL_law 492 = .ok (.invokevirtual 52, 3) := by decide +kernel
theorem dL_law_495 : decode cL_law 495 = .ok (.aload_n 2, 1) := by decide +kernel
theorem dL_law_496 : decode cL_law 496 = .ok (.invokevirtual 56, 3) := by decide +kernel
theorem dL_law_499 : decode cL_law 499 = .ok (.if_icmp .eq 790, 3) := by decide +kernel
theorem dL_law_502 : decode cL_law 502 = .ok (.iconst 0, 1) := by decide +kernel
theorem dL_law_503 : decode cL_law 503 = .ok (.ireturn, 1) := by decide +kernel
theorem dL_law_504 : decode cL_law 504 = .ok (.aload_n 1, 1) := by decide +kernel
theorem dL_law_505 : decode cL_law 505 = .ok (.aload_n 0, 1) := by decide +kernel
theorem dL_law_506 : decode cL_law 506 = .ok (.iload_n 3, 1) := by decide +kernel
theorem dL_law_507 : decode cL_law 507 = .ok (.iconst 1, 1) := by decide +kernel
theorem dL_law_508 : decode cL_law 508 = .ok (.iadd, 1) := by decide +kernel
theorem dL_law_509 : decode cL_law 509 = .ok (.iaload, 1) := by decide +kernel
theorem dL_law_510 : decode cL_law 510 = .ok (.invokevirtual 57, 3) := by decide +kernel
theorem dL_law_513 : decode cL_law 513 = .ok (.aload_n 2, 1) := by decide +kernel
theorem dL_law_514 : decode cL_law 514 = .ok (.aload_n 0, 1) := by decide +kernel
theorem dL_law_515 : decode cL_law 515 = .ok (.iload_n 3, 1) := by decide +kernel
theorem dL_law_516 : decode cL_law 516 = .ok (.iconst 1, 1) := by decide +kernel
theorem dL_law_517 : decode cL_law 517 = .ok (.iadd, 1) := by decide +kernel
theorem dL_law_518 : decode cL_law 518 = .ok (.iaload, 1) := by decide +kernel
theorem dL_law_519 : decode cL_law 519 = .ok (.invokevirtual 60, 3) := by decide +kernel
theorem dL_law_522 : decode cL_law 522 = .ok (.if_icmp .eq 767, 3) := by decide +kernel
theorem dL_law_525 : decode cL_law 525 = .ok (.iconst 0, 1) := by decide +kernel
theorem dL_law_526 : decode cL_law 526 = .ok (.ireturn, 1) := by decide +kernel
theorem dL_law_527 : decode cL_law 527 = .ok (.aload_n 1, 1) := by decide +kernel
theorem dL_law_528 : decode cL_law 528 = .ok (.aload_n 0, 1) := by decide +kernel
theorem dL_law_529 : decode cL_law 529 = .ok (.iload_n 3, 1) := by decide +kernel
theorem dL_law_530 : decode cL_law 530 = .ok (.iconst 1, 1) := by decide +kernel
theorem dL_law_531 : decode cL_law 531 = .ok (.iadd, 1) := by decide +kernel
theorem dL_law_532 : decode cL_law 532 = .ok (.iaload, 1) := by decide +kernel
theorem dL_law_533 : decode cL_law 533 = .ok (.invokevirtual 61, 3) := by decide +kernel
theorem dL_law_536 : decode cL_law 536 = .ok (.aload_n 2, 1) := by decide +kernel
theorem dL_law_537 : decode cL_law 537 = .ok (.aload_n 0, 1) := by decide +kernel
theorem dL_law_538 : decode cL_law 538 = .ok (.iload_n 3, 1) := by decide +kernel
theorem dL_law_539 : decode cL_law 539 = .ok (.iconst 1, 1) := by decide +kernel
theorem dL_law_540 : decode cL_law 540 = .ok (.iadd, 1) := by decide +kernel
theorem dL_law_541 : decode cL_law 541 = .ok (.iaload, 1) := by decide +kernel
theorem dL_law_542 : decode cL_law 542 = .ok (.invokevirtual 64, 3) := by decide +kernel
theorem dL_law_545 : decode cL_law 545 = .ok (.if_icmp .eq 744, 3) := by decide +kernel
theorem dL_law_548 : decode cL_law 548 = .ok (.iconst 0, 1) := by decide +kernel
theorem dL_law_549 : decode cL_law 549 = .ok (.ireturn, 1) := by decide +kernel
theorem dL_law_550 : decode cL_law 550 = .ok (.aload_n 1, 1) := by decide +kernel
theorem dL_law_551 : decode cL_law 551 = .ok (.aload_n 0, 1) := by decide +kernel
theorem dL_law_552 : decode cL_law 552 = .ok (.iload_n 3, 1) := by decide +kernel
theorem dL_law_553 : decode cL_law 553 = .ok (.iconst 1, 1) := by decide +kernel
theorem dL_law_554 : decode cL_law 554 = .ok (.iadd, 1) := by decide +kernel
theorem dL_law_555 : decode cL_law 555 = .ok (.iaload, 1) := by decide +kernel
theorem dL_law_556 : decode cL_law 556 = .ok (.aload_n 0, 1) := by decide +kernel
theorem dL_law_557 : decode cL_law 557 = .ok (.iload_n 3, 1) := by decide +kernel
theorem dL_law_558 : decode cL_law 558 = .ok (.iconst 2, 1) := by decide +kernel
theorem dL_law_559 : decode cL_law 559 = .ok (.iadd, 1) := by decide +kernel
theorem dL_law_560 : decode cL_law 560 = .ok (.iaload, 1) := by decide +kernel
theorem dL_law_561 : decode cL_law 561 = .ok (.invokevirtual 65, 3) := by decide +kernel
theorem dL_law_564 : decode cL_law 564 = .ok (.aload_n 2, 1) := by decide +kernel
theorem dL_law_565 : decode cL_law 565 = .ok (.aload_n 0, 1) := by decide +kernel
theorem dL_law_566 : decode cL_law 566 = .ok (.iload_n 3, 1) := by decide +kernel
theorem dL_law_567 : decode cL_law 567 = .ok (.iconst 1, 1) := by decide +kernel
theorem dL_law_568 : decode cL_law 568 = .ok (.iadd, 1) := by decide +kernel
theorem dL_law_569 : decode cL_law 569 = .ok (.iaload, 1) := by decide +kernel
theorem dL_law_570 : decode cL_law 570 = .ok (.aload_n 0, 1) := by decide +kernel
theorem dL_law_571 : decode cL_law 571 = .ok (.iload_n 3, 1) := by decide +kernel
theorem dL_law_572 : decode cL_law 572 = .ok (.iconst 2, 1) := by decide +kernel
theorem dL_law_573 : decode cL_law 573 = .ok (.iadd, 1) := by decide +kernel
theorem dL_law_574 : decode cL_law 574 = .ok (.iaload, 1) := by decide +kernel
theorem dL_law_575 : decode cL_law 575 = .ok (.invokevirtual 68, 3) := by decide +kernel
theorem dL_law_578 : decode cL_law 578 = .ok (.if_icmp .eq 711, 3) := by decide +kernel
theorem dL_law_581 : decode cL_law 581 = .ok (.iconst 0, 1) := by decide +kernel
theorem dL_law_582 : decode cL_law 582 = .ok (.ireturn, 1) := by decide +kernel
theorem dL_law_583 : decode cL_law 583 = .ok (.aload_n 1, 1) := by decide +kernel
theorem dL_law_584 : decode cL_law 584 = .ok (.aload_n 0, 1) := by decide +kernel
theorem dL_law_585 : decode cL_law 585 = .ok (.iload_n 3, 1) := by decide +kernel
theorem dL_law_586 : decode cL_law 586 = .ok (.iconst 1, 1) := by decide +kernel
theorem dL_law_587 : decode cL_law 587 = .ok (.iadd, 1) := by decide +kernel
theorem dL_law_588 : decode cL_law 588 = .ok (.iaload, 1) := by decide +kernel
theorem dL_law_589 : decode cL_law 589 = .ok (.aload_n 0, 1) := by decide +kernel
theorem dL_law_590 : decode cL_law 590 = .ok (.iload_n 3, 1) := by decide +kernel
theorem dL_law_591 : decode cL_law 591 = .ok (.iconst 2, 1) := by decide +kernel
theorem dL_law_592 : decode cL_law 592 = .ok (.iadd, 1) := by decide +kernel
theorem dL_law_593 : decode cL_law 593 = .ok (.iaload, 1) := by decide +kernel
theorem dL_law_594 : decode cL_law 594 = .ok (.aload_n 0, 1) := by decide +kernel
theorem dL_law_595 : decode cL_law 595 = .ok (.iload_n 3, 1) := by decide +kernel
theorem dL_law_596 : decode cL_law 596 = .ok (.iconst 3, 1) := by decide +kernel
theorem dL_law_597 : decode cL_law 597 = .ok (.iadd, 1) := by decide +kernel
theorem dL_law_598 : decode cL_law 598 = .ok (.iaload, 1) := by decide +kernel
theorem dL_law_599 : decode cL_law 599 = .ok (.invokevirtual 69, 3) := by decide +kernel
theorem dL_law_602 : decode cL_law 602 = .ok (.aload_n 2, 1) := by decide +kernel
theorem dL_law_603 : decode cL_law 603 = .ok (.aload_n 0, 1) := by decide +kernel
theorem dL_law_604 : decode cL_law 604 = .ok (.iload_n 3, 1) := by decide +kernel
theorem dL_law_605 : decode cL_law 605 = .ok (.iconst 1, 1) := by decide +kernel
theorem dL_law_606 : decode cL_law 606 = .ok (.iadd, 1) := by decide +kernel
theorem dL_law_607 : decode cL_law 607 = .ok (.iaload, 1) := by decide +kernel
theorem dL_law_608 : decode cL_law 608 = .ok (.aload_n 0, 1) := by decide +kernel
theorem dL_law_609 : decode cL_law 609 = .ok (.iload_n 3, 1) := by decide +kernel
theorem dL_law_610 : decode cL_law 610 = .ok (.iconst 2, 1) := by decide +kernel
theorem dL_law_611 : decode cL_law 611 = .ok (.iadd, 1) := by decide +kernel
theorem dL_law_612 : decode cL_law 612 = .ok (.iaload, 1) := by decide +kernel
theorem dL_law_613 : decode cL_law 613 = .ok (.aload_n 0, 1) := by decide +kernel
theorem dL_law_614 : decode cL_law 614 = .ok (.iload_n 3, 1) := by decide +kernel
theorem dL_law_615 : decode cL_law 615 = .ok (.iconst 3, 1) := by decide +kernel
theorem dL_law_616 : decode cL_law 616 = .ok (.iadd, 1) := by decide +kernel
theorem dL_law_617 : decode cL_law 617 = .ok (.iaload, 1) := by decide +kernel
theorem dL_law_618 : decode cL_law 618 = .ok (.invokevirtual 72, 3) := by decide +kernel
theorem dL_law_621 : decode cL_law 621 = .ok (.if_icmp .eq 668, 3) := by decide +kernel
theorem dL_law_624 : decode cL_law 624 = .ok (.iconst 0, 1) := by decide +kernel
theorem dL_law_625 : decode cL_law 625 = .ok (.ireturn, 1) := by decide +kernel
theorem dL_law_626 : decode cL_law 626 = .ok (.aload_n 1, 1) := by decide +kernel
theorem dL_law_627 : decode cL_law 627 = .ok (.aload_n 0, 1) := by decide +kernel
theorem dL_law_628 : decode cL_law 628 = .ok (.iload_n 3, 1) := by decide +kernel
theorem dL_law_629 : decode cL_law 629 = .ok (.iconst 1, 1) := by decide +kernel
theorem dL_law_630 : decode cL_law 630 = .ok (.iadd, 1) := by decide +kernel
theorem dL_law_631 : decode cL_law 631 = .ok (.iaload, 1) := by decide +kernel
theorem dL_law_632 : decode cL_law 632 = .ok (.aload_n 0, 1) := by decide +kernel
theorem dL_law_633 : decode cL_law 633 = .ok (.iload_n 3, 1) := by decide +kernel
theorem dL_law_634 : decode cL_law 634 = .ok (.iconst 2, 1) := by decide +kernel
theorem dL_law_635 : decode cL_law 635 = .ok (.iadd, 1) := by decide +kernel
theorem dL_law_636 : decode cL_law 636 = .ok (.iaload, 1) := by decide +kernel
theorem dL_law_637 : decode cL_law 637 = .ok (.invokevirtual 73, 3) := by decide +kernel
theorem dL_law_640 : decode cL_law 640 = .ok (.aload_n 2, 1) := by decide +kernel
theorem dL_law_641 : decode cL_law 641 = .ok (.aload_n 0, 1) := by decide +kernel
theorem dL_law_642 : decode cL_law 642 = .ok (.iload_n 3, 1) := by decide +kernel
theorem dL_law_643 : decode cL_law 643 = .ok (.iconst 1, 1) := by decide +kernel
theorem dL_law_644 : decode cL_law 644 = .ok (.iadd, 1) := by decide +kernel
theorem dL_law_645 : decode cL_law 645 = .ok (.iaload, 1) := by decide +kernel
theorem dL_law_646 : decode cL_law 646 = .ok (.aload_n 0, 1) := by decide +kernel
theorem dL_law_647 : decode cL_law 647 = .ok (.iload_n 3, 1) := by decide +kernel
theorem dL_law_648 : decode cL_law 648 = .ok (.iconst 2, 1) := by decide +kernel
theorem dL_law_649 : decode cL_law 649 = .ok (.iadd, 1) := by decide +kernel
theorem dL_law_650 : decode cL_law 650 = .ok (.iaload, 1) := by decide +kernel
theorem dL_law_651 : decode cL_law 651 = .ok (.invokevirtual 76, 3) := by decide +kernel
theorem dL_law_654 : decode cL_law 654 = .ok (.if_icmp .eq 635, 3) := by decide +kernel
theorem dL_law_657 : decode cL_law 657 = .ok (.iconst 0, 1) := by decide +kernel
theorem dL_law_658 : decode cL_law 658 = .ok (.ireturn, 1) := by decide +kernel
theorem dL_law_659 : decode cL_law 659 = .ok (.aload_n 1, 1) := by decide +kernel
theorem dL_law_660 : decode cL_law 660 = .ok (.aload_n 0, 1) := by decide +kernel
theorem dL_law_661 : decode cL_law 661 = .ok (.iload_n 3, 1) := by decide +kernel
theorem dL_law_662 : decode cL_law 662 = .ok (.iconst 1, 1) := by decide +kernel
theorem dL_law_663 : decode cL_law 663 = .ok (.iadd, 1) := by decide +kernel
theorem dL_law_664 : decode cL_law 664 = .ok (.iaload, 1) := by decide +kernel
theorem dL_law_665 : decode cL_law 665 = .ok (.aload_n 0, 1) := by decide +kernel
theorem dL_law_666 : decode cL_law 666 = .ok (.iload_n 3, 1) := by decide +kernel
theorem dL_law_667 : decode cL_law 667 = .ok (.iconst 2, 1) := by decide +kernel
theorem dL_law_668 : decode cL_law 668 = .ok (.iadd, 1) := by decide +kernel
theorem dL_law_669 : decode cL_law 669 = .ok (.iaload, 1) := by decide +kernel
theorem dL_law_670 : decode cL_law 670 = .ok (.aload_n 0, 1) := by decide +kernel
theorem dL_law_671 : decode cL_law 671 = .ok (.iload_n 3, 1) := by decide +kernel
theorem dL_law_672 : decode cL_law 672 = .ok (.iconst 3, 1) := by decide +kernel
theorem dL_law_673 : decode cL_law 673 = .ok (.iadd, 1) := by decide +kernel
theorem dL_law_674 : decode cL_law 674 = .ok (.iaload, 1) := by decide +kernel
theorem dL_law_675 : decode cL_law 675 = .ok (.invokevirtual 77, 3) := by decide +kernel
theorem dL_law_678 : decode cL_law 678 = .ok (.aload_n 2, 1) := by decide +kernel
theorem dL_law_679 : decode cL_law 679 = .ok (.aload_n 0, 1) := by decide +kernel
theorem dL_law_680 : decode cL_law 680 = .ok (.iload_n 3, 1) := by decide +kernel
theorem dL_law_681 : decode cL_law 681 = .ok (.iconst 1, 1) := by decide +kernel
theorem dL_law_682 : decode cL_law 682 = .ok (.iadd, 1) := by decide +kernel
theorem dL_law_683 : decode cL_law 683 = .ok (.iaload, 1) := by decide +kernel
theorem dL_law_684 : decode cL_law 684 = .ok (.aload_n 0, 1) := by decide +kernel
theorem dL_law_685 : decode cL_law 685 = .ok (.iload_n 3, 1) := by decide +kernel
theorem dL_law_686 : decode cL_law 686 = .ok (.iconst 2, 1) := by decide +kernel
theorem dL_law_687 : decode cL_law 687 = .ok (.iadd, 1) := by decide +kernel
theorem dL_law_688 : decode cL_law 688 = .ok (.iaload, 1) := by decide +kernel
theorem dL_law_689 : decode cL_law 689 = .ok (.aload_n 0, 1) := by decide +kernel
theorem dL_law_690 : decode cL_law 690 = .ok (.iload_n 3, 1) := by decide +kernel
theorem dL_law_691 : decode cL_law 691 = .ok (.iconst 3, 1) := by decide +kernel
theorem dL_law_692 : decode cL_law 692 = .ok (.iadd, 1) := by decide +kernel
theorem dL_law_693 : decode cL_law 693 = .ok (.iaload, 1) := by decide +kernel
theorem dL_law_694 : decode cL_law 694 = .ok (.invokevirtual 80, 3) := by decide +kernel
theorem dL_law_697 : decode cL_law 697 = .ok (.if_icmp .eq 592, 3) := by decide +kernel
theorem dL_law_700 : decode cL_law 700 = .ok (.iconst 0, 1) := by decide +kernel
theorem dL_law_701 : decode cL_law 701 = .ok (.ireturn, 1) := by decide +kernel
theorem dL_law_702 : decode cL_law 702 = .ok (.aload_n 1, 1) := by decide +kernel
theorem dL_law_703 : decode cL_law 703 = .ok (.aload_n 0, 1) := by decide +kernel
theorem dL_law_704 : decode cL_law 704 = .ok (.iload_n 3, 1) := by decide +kernel
theorem dL_law_705 : decode cL_law 705 = .ok (.iconst 1, 1) := by decide +kernel
theorem dL_law_706 : decode cL_law 706 = .ok (.iadd, 1) := by decide +kernel
theorem dL_law_707 : decode cL_law 707 = .ok (.iaload, 1) := by decide +kernel
theorem dL_law_708 : decode cL_law 708 = .ok (.aload_n 0, 1) := by decide +kernel
theorem dL_law_709 : decode cL_law 709 = .ok (.iload_n 3, 1) := by decide +kernel
theorem dL_law_710 : decode cL_law 710 = .ok (.iconst 2, 1) := by decide +kernel
theorem dL_law_711 : decode cL_law 711 = .ok (.iadd, 1) := by decide +kernel
theorem dL_law_712 : decode cL_law 712 = .ok (.iaload, 1) := by decide +kernel
theorem dL_law_713 : decode cL_law 713 = .ok (.invokevirtual 81, 3) := by decide +kernel
theorem dL_law_716 : decode cL_law 716 = .ok (.aload_n 2, 1) := by decide +kernel
theorem dL_law_717 : decode cL_law 717 = .ok (.aload_n 0, 1) := by decide +kernel
theorem dL_law_718 : decode cL_law 718 = .ok (.iload_n 3, 1) := by decide +kernel
theorem dL_law_719 : decode cL_law 719 = .ok (.iconst 1, 1) := by decide +kernel
theorem dL_law_720 : decode cL_law 720 = .ok (.iadd, 1) := by decide +kernel
theorem dL_law_721 : decode cL_law 721 = .ok (.iaload, 1) := by decide +kernel
theorem dL_law_722 : decode cL_law 722 = .ok (.aload_n 0, 1) := by decide +kernel
theorem dL_law_723 : decode cL_law 723 = .ok (.iload_n 3, 1) := by decide +kernel
theorem dL_law_724 : decode cL_law 724 = .ok (.iconst 2, 1) := by decide +kernel
theorem dL_law_725 : decode cL_law 725 = .ok (.iadd, 1) := by decide +kernel
theorem dL_law_726 : decode cL_law 726 = .ok (.iaload, 1) := by decide +kernel
theorem dL_law_727 : decode cL_law 727 = .ok (.invokevirtual 84, 3) := by decide +kernel
theorem dL_law_730 : decode cL_law 730 = .ok (.if_icmp .eq 559, 3) := by decide +kernel
theorem dL_law_733 : decode cL_law 733 = .ok (.iconst 0, 1) := by decide +kernel
theorem dL_law_734 : decode cL_law 734 = .ok (.ireturn, 1) := by decide +kernel
theorem dL_law_735 : decode cL_law 735 = .ok (.aload_n 1, 1) := by decide +kernel
theorem dL_law_736 : decode cL_law 736 = .ok (.aload_n 0, 1) := by decide +kernel
theorem dL_law_737 : decode cL_law 737 = .ok (.iload_n 3, 1) := by decide +kernel
theorem dL_law_738 : decode cL_law 738 = .ok (.iconst 1, 1) := by decide +kernel
theorem dL_law_739 : decode cL_law 739 = .ok (.iadd, 1) := by decide +kernel
theorem dL_law_740 : decode cL_law 740 = .ok (.iaload, 1) := by decide +kernel
theorem dL_law_741 : decode cL_law 741 = .ok (.aload_n 0, 1) := by decide +kernel
theorem dL_law_742 : decode cL_law 742 = .ok (.iload_n 3, 1) := by decide +kernel
theorem dL_law_743 : decode cL_law 743 = .ok (.iconst 2, 1) := by decide +kernel
theorem dL_law_744 : decode cL_law 744 = .ok (.iadd, 1) := by decide +kernel
theorem dL_law_745 : decode cL_law 745 = .ok (.iaload, 1) := by decide +kernel
theorem dL_law_746 : decode cL_law 746 = .ok (.invokevirtual 85, 3) := by decide +kernel
theorem dL_law_749 : decode cL_law 749 = .ok (.aload_n 2, 1) := by decide +kernel
theorem dL_law_750 : decode cL_law 750 = .ok (.aload_n 0, 1) := by decide +kernel
theorem dL_law_751 : decode cL_law 751 = .ok (.iload_n 3, 1) := by decide +kernel
theorem dL_law_752 : decode cL_law 752 = .ok (.iconst 1, 1) := by decide +kernel
theorem dL_law_753 : decode cL_law 753 = .ok (.iadd, 1) := by decide +kernel
theorem dL_law_754 : decode cL_law 754 = .ok (.iaload, 1) := by decide +kernel
theorem dL_law_755 : decode cL_law 755 = .ok (.aload_n 0, 1) := by decide +kernel
theorem dL_law_756 : decode cL_law 756 = .ok (.iload_n 3, 1) := by decide +kernel
theorem dL_law_757 : decode cL_law 757 = .ok (.iconst 2, 1) := by decide +kernel
theorem dL_law_758 : decode cL_law 758 = .ok (.iadd, 1) := by decide +kernel
theorem dL_law_759 : decode cL_law 759 = .ok (.iaload, 1) := by decide +kernel
theorem dL_law_760 : decode cL_law 760 = .ok (.invokevirtual 89, 3) := by decide +kernel
theorem dL_law_763 : decode cL_law 763 = .ok (.lcmp, 1) := by decide +kernel
theorem dL_law_764 : decode cL_law 764 = .ok (.ifCond .eq 525, 3) := by decide +kernel
theorem dL_law_767 : decode cL_law 767 = .ok (.iconst 0, 1) := by decide +kernel
theorem dL_law_768 : decode cL_law 768 = .ok (.ireturn, 1) := by decide +kernel
theorem dL_law_769 : decode cL_law 769 = .ok (.aload_n 1, 1) := by decide +kernel
theorem dL_law_770 : decode cL_law 770 = .ok (.aload_n 0, 1) := by decide +kernel
theorem dL_law_771 : decode cL_law 771 = .ok (.iload_n 3, 1) := by decide +kernel
theorem dL_law_772 : decode cL_law 772 = .ok (.iconst 1, 1) := by decide +kernel
theorem dL_law_773 : decode cL_law 773 = .ok (.iadd, 1) := by decide +kernel
theorem dL_law_774 : decode cL_law 774 = .ok (.iaload, 1) := by decide +kernel
theorem dL_law_775 : decode cL_law 775 = .ok (.invokevirtual 90, 3) := by decide +kernel
theorem dL_law_778 : decode cL_law 778 = .ok (.aload_n 2, 1) := by decide +kernel
theorem dL_law_779 : decode cL_law 779 = .ok (.aload_n 0, 1) := by decide +kernel
theorem dL_law_780 : decode cL_law 780 = .ok (.iload_n 3, 1) := by decide +kernel
theorem dL_law_781 : decode cL_law 781 = .ok (.iconst 1, 1) := by decide +kernel
theorem dL_law_782 : decode cL_law 782 = .ok (.iadd, 1) := by decide +kernel
theorem dL_law_783 : decode cL_law 783 = .ok (.iaload, 1) := by decide +kernel
theorem dL_law_784 : decode cL_law 784 = .ok (.invokevirtual 94, 3) := by decide +kernel
theorem dL_law_787 : decode cL_law 787 = .ok (.lcmp, 1) := by decide +kernel
theorem dL_law_788 : decode cL_law 788 = .ok (.ifCond .eq 501, 3) := by decide +kernel
theorem dL_law_791 : decode cL_law 791 = .ok (.iconst 0, 1) := by decide +kernel
theorem dL_law_792 : decode cL_law 792 = .ok (.ireturn, 1) := by decide +kernel
theorem dL_law_793 : decode cL_law 793 = .ok (.aload_n 1, 1) := by decide +kernel
theorem dL_law_794 : decode cL_law 794 = .ok (.aload_n 0, 1) := by decide +kernel
theorem dL_law_795 : decode cL_law 795 = .ok (.iload_n 3, 1) := by decide +kernel
theorem dL_law_796 : decode cL_law 796 = .ok (.iconst 1, 1) := by decide +kernel
theorem dL_law_797 : decode cL_law 797 = .ok (.iadd, 1) := by decide +kernel
theorem dL_law_798 : decode cL_law 798 = .ok (.iaload, 1) := by decide +kernel
theorem dL_law_799 : decode cL_law 799 = .ok (.aload_n 0, 1) := by decide +kernel
theorem dL_law_800 : decode cL_law 800 = .ok (.iload_n 3, 1) := by decide +kernel
theorem dL_law_801 : decode cL_law 801 = .ok (.iconst 2, 1) := by decide +kernel
theorem dL_law_802 : decode cL_law 802 = .ok (.iadd, 1) := by decide +kernel
theorem dL_law_803 : decode cL_law 803 = .ok (.iaload, 1) := by decide +kernel
theorem dL_law_804 : decode cL_law 804 = .ok (.invokevirtual 95, 3) := by decide +kernel
theorem dL_law_807 : decode cL_law 807 = .ok (.aload_n 2, 1) := by decide +kernel
theorem dL_law_808 : decode cL_law 808 = .ok (.aload_n 0, 1) := by decide +kernel
theorem dL_law_809 : decode cL_law 809 = .ok (.iload_n 3, 1) := by decide +kernel
theorem dL_law_810 : decode cL_law 810 = .ok (.iconst 1, 1) := by decide +kernel
theorem dL_law_811 : decode cL_law 811 = .ok (.iadd, 1) := by decide +kernel
theorem dL_law_812 : decode cL_law 812 = .ok (.iaload, 1) := by decide +kernel
theorem dL_law_813 : decode cL_law 813 = .ok (.aload_n 0, 1) := by decide +kernel
theorem dL_law_814 : decode cL_law 814 = .ok (.iload_n 3, 1) := by decide +kernel
theorem dL_law_815 : decode cL_law 815 = .ok (.iconst 2, 1) := by decide +kernel
theorem dL_law_816 : decode cL_law 816 = .ok (.iadd, 1) := by decide +kernel
theorem dL_law_817 : decode cL_law 817 = .ok (.iaload, 1) := by decide +kernel
theorem dL_law_818 : decode cL_law 818 = .ok (.invokevirtual 98, 3) := by decide +kernel
theorem dL_law_821 : decode cL_law 821 = .ok (.if_icmp .eq 468, 3) := by decide +kernel
theorem dL_law_824 : decode cL_law 824 = .ok (.iconst 0, 1) := by decide +kernel
theorem dL_law_825 : decode cL_law 825 = .ok (.ireturn, 1) := by decide +kernel
theorem dL_law_826 : decode cL_law 826 = .ok (.aload_n 1, 1) := by decide +kernel
theorem dL_law_827 : decode cL_law 827 = .ok (.aload_n 0, 1) := by decide +kernel
theorem dL_law_828 : decode cL_law 828 = .ok (.iload_n 3, 1) := by decide +kernel
theorem dL_law_829 : decode cL_law 829 = .ok (.iconst 1, 1) := by decide +kernel
theorem dL_law_830 : decode cL_law 830 = .ok (.iadd, 1) := by decide +kernel
theorem dL_law_831 : decode cL_law 831 = .ok (.iaload, 1) := by decide +kernel
theorem dL_law_832 : decode cL_law 832 = .ok (.invokevirtual 99, 3) := by decide +kernel
theorem dL_law_835 : decode cL_law 835 = .ok (.aload_n 2, 1) := by decide +kernel
theorem dL_law_836 : decode cL_law 836 = .ok (.aload_n 0, 1) := by decide +kernel
theorem dL_law_837 : decode cL_law 837 = .ok (.iload_n 3, 1) := by decide +kernel
theorem dL_law_838 : decode cL_law 838 = .ok (.iconst 1, 1) := by decide +kernel
theorem dL_law_839 : decode cL_law 839 = .ok (.iadd, 1) := by decide +kernel
theorem dL_law_840 : decode cL_law 840 = .ok (.iaload, 1) := by decide +kernel
theorem dL_law_841 : decode cL_law 841 = .ok (.invokevirtual 102, 3) := by decide +kernel
theorem dL_law_844 : decode cL_law 844 = .ok (.if_icmp .eq 445, 3) := by decide +kernel
theorem dL_law_847 : decode cL_law 847 = .ok (.iconst 0, 1) := by decide +kernel
theorem dL_law_848 : decode cL_law 848 = .ok (.ireturn, 1) := by decide +kernel
theorem dL_law_849 : decode cL_law 849 = .ok (.aload_n 1, 1) := by decide +kernel
theorem dL_law_850 : decode cL_law 850 = .ok (.aload_n 0, 1) := by decide +kernel
theorem dL_law_851 : decode cL_law 851 = .ok (.iload_n 3, 1) := by decide +kernel
theorem dL_law_852 : decode cL_law 852 = .ok (.iconst 1, 1) := by decide +kernel
theorem dL_law_853 : decode cL_law 853 = .ok (.iadd, 1) := by decide +kernel
theorem dL_law_854 : decode cL_law 854 = .ok (.iaload, 1) := by decide +kernel
theorem dL_law_855 : decode cL_law 855 = .ok (.aload_n 0, 1) := by decide +kernel
theorem dL_law_856 : decode cL_law 856 = .ok (.iload_n 3, 1) := by decide +kernel
theorem dL_law_857 : decode cL_law 857 = .ok (.iconst 2, 1) := by decide +kernel
theorem dL_law_858 : decode cL_law 858 = .ok (.iadd, 1) := by decide +kernel
theorem dL_law_859 : decode cL_law 859 = .ok (.iaload, 1) := by decide +kernel
theorem dL_law_860 : decode cL_law 860 = .ok (.invokevirtual 103, 3) := by decide +kernel
theorem dL_law_863 : decode cL_law 863 = .ok (.aload_n 2, 1) := by decide +kernel
theorem dL_law_864 : decode cL_law 864 = .ok (.aload_n 0, 1) := by decide +kernel
theorem dL_law_865 : decode cL_law 865 = .ok (.iload_n 3, 1) := by decide +kernel
theorem dL_law_866 : decode cL_law 866 = .ok (.iconst 1, 1) := by decide +kernel
theorem dL_law_867 : decode cL_law 867 = .ok (.iadd, 1) := by decide +kernel
theorem dL_law_868 : decode cL_law 868 = .ok (.iaload, 1) := by decide +kernel
theorem dL_law_869 : decode cL_law 869 = .ok (.aload_n 0, 1) := by decide +kernel
theorem dL_law_870 : decode cL_law 870 = .ok (.iload_n 3, 1) := by decide +kernel
theorem dL_law_871 : decode cL_law 871 = .ok (.iconst 2, 1) := by decide +kernel
theorem dL_law_872 : decode cL_law 872 = .ok (.iadd, 1) := by decide +kernel
theorem dL_law_873 : decode cL_law 873 = .ok (.iaload, 1) := by decide +kernel
theorem dL_law_874 : decode cL_law 874 = .ok (.invokevirtual 106, 3) := by decide +kernel
theorem dL_law_877 : decode cL_law 877 = .ok (.if_icmp .eq 412, 3) := by decide +kernel
theorem dL_law_880 : decode cL_law 880 = .ok (.iconst 0, 1) := by decide +kernel
theorem dL_law_881 : decode cL_law 881 = .ok (.ireturn, 1) := by decide +kernel
theorem dL_law_882 : decode cL_law 882 = .ok (.aload_n 1, 1) := by decide +kernel
theorem dL_law_883 : decode cL_law 883 = .ok (.invokevirtual 107, 3) := by decide +kernel
theorem dL_law_886 : decode cL_law 886 = .ok (.aload_n 2, 1) := by decide +kernel
theorem dL_law_887 : decode cL_law 887 = .ok (.invokevirtual 110, 3) := by decide +kernel
theorem dL_law_890 : decode cL_law 890 = .ok (.if_icmp .eq 399, 3) := by decide +kernel
theorem dL_law_893 : decode cL_law 893 = .ok (.iconst 0, 1) := by decide +kernel
theorem dL_law_894 : decode cL_law 894 = .ok (.ireturn, 1) := by decide +kernel
theorem dL_law_895 : decode cL_law 895 = .ok (.aload_n 1, 1) := by decide +kernel
theorem dL_law_896 : decode cL_law 896 = .ok (.aload_n 0, 1) := by decide +kernel
theorem dL_law_897 : decode cL_law 897 = .ok (.iload_n 3, 1) := by decide +kernel
theorem dL_law_898 : decode cL_law 898 = .ok (.iconst 1, 1) := by decide +kernel
theorem dL_law_899 : decode cL_law 899 = .ok (.iadd, 1) := by decide +kernel
theorem dL_law_900 : decode cL_law 900 = .ok (.iaload, 1) := by decide +kernel
theorem dL_law_901 : decode cL_law 901 = .ok (.aload_n 0, 1) := by decide +kernel
theorem dL_law_902 : decode cL_law 902 = .ok (.iload_n 3, 1) := by decide +kernel
theorem dL_law_903 : decode cL_law 903 = .ok (.iconst 2, 1) := by decide +kernel
theorem dL_law_904 : decode cL_law 904 = .ok (.iadd, 1) := by decide +kernel
theorem dL_law_905 : decode cL_law 905 = .ok (.iaload, 1) := by decide +kernel
theorem dL_law_906 : decode cL_law 906 = .ok (.invokevirtual 111, 3) := by decide +kernel
theorem dL_law_909 : decode cL_law 909 = .ok (.aload_n 2, 1) := by decide +kernel
theorem dL_law_910 : decode cL_law 910 = .ok (.aload_n 0, 1) := by decide +kernel
theorem dL_law_911 : decode cL_law 911 = .ok (.iload_n 3, 1) := by decide +kernel
theorem dL_law_912 : decode cL_law 912 = .ok (.iconst 1, 1) := by decide +kernel
theorem dL_law_913 : decode cL_law 913 = .ok (.iadd, 1) := by decide +kernel
theorem dL_law_914 : decode cL_law 914 = .ok (.iaload, 1) := by decide +kernel
theorem dL_law_915 : decode cL_law 915 = .ok (.aload_n 0, 1) := by decide +kernel
theorem dL_law_916 : decode cL_law 916 = .ok (.iload_n 3, 1) := by decide +kernel
theorem dL_law_917 : decode cL_law 917 = .ok (.iconst 2, 1) := by decide +kernel
theorem dL_law_918 : decode cL_law 918 = .ok (.iadd, 1) := by decide +kernel
theorem dL_law_919 : decode cL_law 919 = .ok (.iaload, 1) := by decide +kernel
theorem dL_law_920 : decode cL_law 920 = .ok (.invokevirtual 114, 3) := by decide +kernel
theorem dL_law_923 : decode cL_law 923 = .ok (.if_icmp .eq 366, 3) := by decide +kernel
theorem dL_law_926 : decode cL_law 926 = .ok (.iconst 0, 1) := by decide +kernel
theorem dL_law_927 : decode cL_law 927 = .ok (.ireturn, 1) := by decide +kernel
theorem dL_law_928 : decode cL_law 928 = .ok (.aload_n 1, 1) := by decide +kernel
theorem dL_law_929 : decode cL_law 929 = .ok (.invokevirtual 115, 3) := by decide +kernel
theorem dL_law_932 : decode cL_law 932 = .ok (.aload_n 2, 1) := by decide +kernel
theorem dL_law_933 : decode cL_law 933 = .ok (.invokevirtual 118, 3) := by decide +kernel
theorem dL_law_936 : decode cL_law 936 = .ok (.if_icmp .eq 353, 3) := by decide +kernel
theorem dL_law_939 : decode cL_law 939 = .ok (.iconst 0, 1) := by decide +kernel
theorem dL_law_940 : decode cL_law 940 = .ok (.ireturn, 1) := by decide +kernel
theorem dL_law_941 : decode cL_law 941 = .ok (.aload_n 1, 1) := by decide +kernel
theorem dL_law_942 : decode cL_law 942 = .ok (.invokevirtual 119, 3) := by decide +kernel
theorem dL_law_945 : decode cL_law 945 = .ok (.aload_n 2, 1) := by decide +kernel
theorem dL_law_946 : decode cL_law 946 = .ok (.invokevirtual 122, 3) := by decide +kernel
theorem dL_law_949 : decode cL_law 949 = .ok (.if_icmp .eq 340, 3) := by decide +kernel
theorem dL_law_952 : decode cL_law 952 = .ok (.iconst 0, 1) := by decide +kernel
theorem dL_law_953 : decode cL_law 953 = .ok (.ireturn, 1) := by decide +kernel
theorem dL_law_954 : decode cL_law 954 = .ok (.aload_n 1, 1) := by decide +kernel
theorem dL_law_955 : decode cL_law 955 = .ok (.aload_n 0, 1) := by decide +kernel
theorem dL_law_956 : decode cL_law 956 = .ok (.iload_n 3, 1) := by decide +kernel
theorem dL_law_957 : decode cL_law 957 = .ok (.iconst 1, 1) := by decide +kernel
theorem dL_law_958 : decode cL_law 958 = .ok (.iadd, 1) := by decide +kernel
theorem dL_law_959 : decode cL_law 959 = .ok (.iaload, 1) := by decide +kernel
theorem dL_law_960 : decode cL_law 960 = .ok (.aload_n 0, 1) := by decide +kernel
theorem dL_law_961 : decode cL_law 961 = .ok (.iload_n 3, 1) := by decide +kernel
theorem dL_law_962 : decode cL_law 962 = .ok (.iconst 2, 1) := by decide +kernel
theorem dL_law_963 : decode cL_law 963 = .ok (.iadd, 1) := by decide +kernel
theorem dL_law_964 : decode cL_law 964 = .ok (.iaload, 1) := by decide +kernel
theorem dL_law_965 : decode cL_law 965 = .ok (.aload_n 0, 1) := by decide +kernel
theorem dL_law_966 : decode cL_law 966 = .ok (.iload_n 3, 1) := by decide +kernel
theorem dL_law_967 : decode cL_law 967 = .ok (.iconst 3, 1) := by decide +kernel
theorem dL_law_968 : decode cL_law 968 = .ok (.iadd, 1) := by decide +kernel
theorem dL_law_969 : decode cL_law 969 = .ok (.iaload, 1) := by decide +kernel
theorem dL_law_970 : decode cL_law 970 = .ok (.invokevirtual 123, 3) := by decide +kernel
theorem dL_law_973 : decode cL_law 973 = .ok (.aload_n 2, 1) := by decide +kernel
theorem dL_law_974 : decode cL_law 974 = .ok (.aload_n 0, 1) := by decide +kernel
theorem dL_law_975 : decode cL_law 975 = .ok (.iload_n 3, 1) := by decide +kernel
theorem dL_law_976 : decode cL_law 976 = .ok (.iconst 1, 1) := by decide +kernel
theorem dL_law_977 : decode cL_law 977 = .ok (.iadd, 1) := by decide +kernel
theorem dL_law_978 : decode cL_law 978 = .ok (.iaload, 1) := by decide +kernel
theorem dL_law_979 : decode cL_law 979 = .ok (.aload_n 0, 1) := by decide +kernel
theorem dL_law_980 : decode cL_law 980 = .ok (.iload_n 3, 1) := by decide +kernel
theorem dL_law_981 : decode cL_law 981 = .ok (.iconst 2, 1) := by decide +kernel
theorem dL_law_982 : decode cL_law 982 = .ok (.iadd, 1) := by decide +kernel
theorem dL_law_983 : decode cL_law 983 = .ok (.iaload, 1) := by decide +kernel
theorem dL_law_984 : decode cL_law 984 = .ok (.aload_n 0, 1) := by decide +kernel
theorem dL_law_985 : decode cL_law 985 = .ok (.iload_n 3, 1) := by decide +kernel
theorem dL_law_986 : decode cL_law 986 = .ok (.iconst 3, 1) := by decide +kernel
theorem dL_law_987 : decode cL_law 987 = .ok (.iadd, 1) := by decide +kernel
theorem dL_law_988 : decode cL_law 988 = .ok (.iaload, 1) := by decide +kernel
theorem dL_law_989 : decode cL_law 989 = .ok (.invokevirtual 126, 3) := by decide +kernel
theorem dL_law_992 : decode cL_law 992 = .ok (.if_icmp .eq 297, 3) := by decide +kernel
theorem dL_law_995 : decode cL_law 995 = .ok (.iconst 0, 1) := by decide +kernel
theorem dL_law_996 : decode cL_law 996 = .ok (.ireturn, 1) := by decide +kernel
theorem dL_law_997 : decode cL_law 997 = .ok (.aload_n 1, 1) := by decide +kernel
theorem dL_law_998 : decode cL_law 998 = .ok (.aload_n 0, 1) := by decide +kernel
theorem dL_law_999 : decode cL_law 999 = .ok (.iload_n 3, 1) := by decide +kernel
theorem dL_law_1000 : decode cL_law 1000 = .ok (.iconst 1, 1) := by decide +kernel
theorem dL_law_1001 : decode cL_law 1001 = .ok (.iadd, 1) := by decide +kernel
theorem dL_law_1002 : decode cL_law 1002 = .ok (.iaload, 1) := by decide +kernel
theorem dL_law_1003 : decode cL_law 1003 = .ok (.invokevirtual 127, 3) := by decide +kernel
theorem dL_law_1006 : decode cL_law 1006 = .ok (.aload_n 2, 1) := by decide +kernel
theorem dL_law_1007 : decode cL_law 1007 = .ok (.aload_n 0, 1) := by decide +kernel
theorem dL_law_1008 : decode cL_law 1008 = .ok (.iload_n 3, 1) := by decide +kernel
theorem dL_law_1009 : decode cL_law 1009 = .ok (.iconst 1, 1) := by decide +kernel
theorem dL_law_1010 : decode cL_law 1010 = .ok (.iadd, 1) := by decide +kernel
theorem dL_law_1011 : decode cL_law 1011 = .ok (.iaload, 1) := by decide +kernel
theorem dL_law_1012 : decode cL_law 1012 = .ok (.invokevirtual 130, 3) := by decide +kernel
theorem dL_law_1015 : decode cL_law 1015 = .ok (.if_icmp .eq 274, 3) := by decide +kernel
theorem dL_law_1018 : decode cL_law 1018 = .ok (.iconst 0, 1) := by decide +kernel
theorem dL_law_1019 : decode cL_law 1019 = .ok (.ireturn, 1) := by decide +kernel
theorem dL_law_1020 : decode cL_law 1020 = .ok (.aload_n 1, 1) := by decide +kernel
theorem dL_law_1021 : decode cL_law 1021 = .ok (.aload_n 0, 1) := by decide +kernel
theorem dL_law_1022 : decode cL_law 1022 = .ok (.iload_n 3, 1) := by decide +kernel
theorem dL_law_1023 : decode cL_law 1023 = .ok (.iconst 1, 1) := by decide +kernel
theorem dL_law_1024 : decode cL_law 1024 = .ok (.iadd, 1) := by decide +kernel
theorem dL_law_1025 : decode cL_law 1025 = .ok (.iaload, 1) := by decide +kernel
theorem dL_law_1026 : decode cL_law 1026 = .ok (.aload_n 0, 1) := by decide +kernel
theorem dL_law_1027 : decode cL_law 1027 = .ok (.iload_n 3, 1) := by decide +kernel
theorem dL_law_1028 : decode cL_law 1028 = .ok (.iconst 2, 1) := by decide +kernel
theorem dL_law_1029 : decode cL_law 1029 = .ok (.iadd, 1) := by decide +kernel
theorem dL_law_1030 : decode cL_law 1030 = .ok (.iaload, 1) := by decide +kernel
theorem dL_law_1031 : decode cL_law 1031 = .ok (.invokevirtual 131, 3) := by decide +kernel
theorem dL_law_1034 : decode cL_law 1034 = .ok (.aload_n 2, 1) := by decide +kernel
theorem dL_law_1035 : decode cL_law 1035 = .ok (.aload_n 0, 1) := by decide +kernel
theorem dL_law_1036 : decode cL_law 1036 = .ok (.iload_n 3, 1) := by decide +kernel
theorem dL_law_1037 : decode cL_law 1037 = .ok (.iconst 1, 1) := by decide +kernel
theorem dL_law_1038 : decode cL_law 1038 = .ok (.iadd, 1) := by decide +kernel
theorem dL_law_1039 : decode cL_law 1039 = .ok (.iaload, 1) := by decide +kernel
theorem dL_law_1040 : decode cL_law 1040 = .ok (.aload_n 0, 1) := by decide +kernel
theorem dL_law_1041 : decode cL_law 1041 = .ok (.iload_n 3, 1) := by decide +kernel
theorem dL_law_1042 : decode cL_law 1042 = .ok (.iconst 2, 1) := by decide +kernel
theorem dL_law_1043 : decode cL_law 1043 = .ok (.iadd, 1) := by decide +kernel
theorem dL_law_1044 : decode cL_law 1044 = .ok (.iaload, 1) := by decide +kernel
theorem dL_law_1045 : decode cL_law 1045 = .ok (.invokevirtual 134, 3) := by decide +kernel
theorem dL_law_1048 : decode cL_law 1048 = .ok (.if_icmp .eq 241, 3) := by decide +kernel
theorem dL_law_1051 : decode cL_law 1051 = .ok (.iconst 0, 1) := by decide +kernel
theorem dL_law_1052 : decode cL_law 1052 = .ok (.ireturn, 1) := by decide +kernel
theorem dL_law_1053 : decode cL_law 1053 = .ok (.aload_n 1, 1) := by decide +kernel
theorem dL_law_1054 : decode cL_law 1054 = .ok (.aload_n 0, 1) := by decide +kernel
theorem dL_law_1055 : decode cL_law 1055 = .ok (.iload_n 3, 1) := by decide +kernel
theorem dL_law_1056 : decode cL_law 1056 = .ok (.iconst 1, 1) := by decide +kernel
theorem dL_law_1057 : decode cL_law 1057 = .ok (.iadd, 1) := by decide +kernel
theorem dL_law_1058 : decode cL_law 1058 = .ok (.iaload, 1) := by decide +kernel
theorem dL_law_1059 : decode cL_law 1059 = .ok (.invokevirtual 135, 3) := by decide +kernel
theorem dL_law_1062 : decode cL_law 1062 = .ok (.aload_n 2, 1) := by decide +kernel
theorem dL_law_1063 : decode cL_law 1063 = .ok (.aload_n 0, 1) := by decide +kernel
theorem dL_law_1064 : decode cL_law 1064 = .ok (.iload_n 3, 1) := by decide +kernel
theorem dL_law_1065 : decode cL_law 1065 = .ok (.iconst 1, 1) := by decide +kernel
theorem dL_law_1066 : decode cL_law 1066 = .ok (.iadd, 1) := by decide +kernel
theorem dL_law_1067 : decode cL_law 1067 = .ok (.iaload, 1) := by decide +kernel
theorem dL_law_1068 : decode cL_law 1068 = .ok (.invokevirtual 138, 3) := by decide +kernel
theorem dL_law_1071 : decode cL_law 1071 = .ok (.if_icmp .eq 218, 3) := by decide +kernel
theorem dL_law_1074 : decode cL_law 1074 = .ok (.iconst 0, 1) := by decide +kernel
theorem dL_law_1075 : decode cL_law 1075 = .ok (.ireturn, 1) := by decide +kernel
theorem dL_law_1076 : decode cL_law 1076 = .ok (.aload_n 1, 1) := by decide +kernel
theorem dL_law_1077 : decode cL_law 1077 = .ok (.aload_n 0, 1) := by decide +kernel
theorem dL_law_1078 : decode cL_law 1078 = .ok (.iload_n 3, 1) := by decide +kernel
theorem dL_law_1079 : decode cL_law 1079 = .ok (.iconst 1, 1) := by decide +kernel
theorem dL_law_1080 : decode cL_law 1080 = .ok (.iadd, 1) := by decide +kernel
theorem dL_law_1081 : decode cL_law 1081 = .ok (.iaload, 1) := by decide +kernel
theorem dL_law_1082 : decode cL_law 1082 = .ok (.aload_n 0, 1) := by decide +kernel
theorem dL_law_1083 : decode cL_law 1083 = .ok (.iload_n 3, 1) := by decide +kernel
theorem dL_law_1084 : decode cL_law 1084 = .ok (.iconst 2, 1) := by decide +kernel
theorem dL_law_1085 : decode cL_law 1085 = .ok (.iadd, 1) := by decide +kernel
theorem dL_law_1086 : decode cL_law 1086 = .ok (.iaload, 1) := by decide +kernel
theorem dL_law_1087 : decode cL_law 1087 = .ok (.aload_n 0, 1) := by decide +kernel
theorem dL_law_1088 : decode cL_law 1088 = .ok (.iload_n 3, 1) := by decide +kernel
theorem dL_law_1089 : decode cL_law 1089 = .ok (.iconst 3, 1) := by decide +kernel
theorem dL_law_1090 : decode cL_law 1090 = .ok (.iadd, 1) := by decide +kernel
theorem dL_law_1091 : decode cL_law 1091 = .ok (.iaload, 1) := by decide +kernel
theorem dL_law_1092 : decode cL_law 1092 = .ok (.invokevirtual 139, 3) := by decide +kernel
theorem dL_law_1095 : decode cL_law 1095 = .ok (.aload_n 2, 1) := by decide +kernel
theorem dL_law_1096 : decode cL_law 1096 = .ok (.aload_n 0, 1) := by decide +kernel
theorem dL_law_1097 : decode cL_law 1097 = .ok (.iload_n 3, 1) := by decide +kernel
theorem dL_law_1098 : decode cL_law 1098 = .ok (.iconst 1, 1) := by decide +kernel
theorem dL_law_1099 : decode cL_law 1099 = .ok (.iadd, 1) := by decide +kernel
theorem dL_law_1100 : decode cL_law 1100 = .ok (.iaload, 1) := by decide +kernel
theorem dL_law_1101 : decode cL_law 1101 = .ok (.aload_n 0, 1) := by decide +kernel
theorem dL_law_1102 : decode cL_law 1102 = .ok (.iload_n 3, 1) := by decide +kernel
theorem dL_law_1103 : decode cL_law 1103 = .ok (.iconst 2, 1) := by decide +kernel
theorem dL_law_1104 : decode cL_law 1104 = .ok (.iadd, 1) := by decide +kernel
theorem dL_law_1105 : decode cL_law 1105 = .ok (.iaload, 1) := by decide +kernel
theorem dL_law_1106 : decode cL_law 1106 = .ok (.aload_n 0, 1) := by decide +kernel
theorem dL_law_1107 : decode cL_law 1107 = .ok (.iload_n 3, 1) := by decide +kernel
theorem dL_law_1108 : decode cL_law 1108 = .ok (.iconst 3, 1) := by decide +kernel
theorem dL_law_1109 : decode cL_law 1109 = .ok (.iadd, 1) := by decide +kernel
theorem dL_law_1110 : decode cL_law 1110 = .ok (.iaload, 1) := by decide +kernel
theorem dL_law_1111 : decode cL_law 1111 = .ok (.invokevirtual 142, 3) := by decide +kernel
theorem dL_law_1114 : decode cL_law 1114 = .ok (.if_icmp .eq 175, 3) := by decide +kernel
theorem dL_law_1117 : decode cL_law 1117 = .ok (.iconst 0, 1) := by decide +kernel
theorem dL_law_1118 : decode cL_law 1118 = .ok (.ireturn, 1) := by decide +kernel
theorem dL_law_1119 : decode cL_law 1119 = .ok (.aload_n 1, 1) := by decide +kernel
theorem dL_law_1120 : decode cL_law 1120 = .ok (.aload_n 0, 1) := by decide +kernel
theorem dL_law_1121 : decode cL_law 1121 = .ok (.iload_n 3, 1) := by decide +kernel
theorem dL_law_1122 : decode cL_law 1122 = .ok (.iconst 1, 1) := by decide +kernel
theorem dL_law_1123 : decode cL_law 1123 = .ok (.iadd, 1) := by decide +kernel
theorem dL_law_1124 : decode cL_law 1124 = .ok (.iaload, 1) := by decide +kernel
theorem dL_law_1125 : decode cL_law 1125 = .ok (.aload_n 0, 1) := by decide +kernel
theorem dL_law_1126 : decode cL_law 1126 = .ok (.iload_n 3, 1) := by decide +kernel
theorem dL_law_1127 : decode cL_law 1127 = .ok (.iconst 2, 1) := by decide +kernel
theorem dL_law_1128 : decode cL_law 1128 = .ok (.iadd, 1) := by decide +kernel
theorem dL_law_1129 : decode cL_law 1129 = .ok (.iaload, 1) := by decide +kernel
theorem dL_law_1130 : decode cL_law 1130 = .ok (.aload_n 0, 1) := by decide +kernel
theorem dL_law_1131 : decode cL_law 1131 = .ok (.iload_n 3, 1) := by decide +kernel
theorem dL_law_1132 : decode cL_law 1132 = .ok (.iconst 3, 1) := by decide +kernel
theorem dL_law_1133 : decode cL_law 1133 = .ok (.iadd, 1) := by decide +kernel
theorem dL_law_1134 : decode cL_law 1134 = .ok (.iaload, 1) := by decide +kernel
theorem dL_law_1135 : decode cL_law 1135 = .ok (.i2l, 1) := by decide +kernel
theorem dL_law_1136 : decode cL_law 1136 = .ok (.bipush 32, 2) := by decide +kernel
theorem dL_law_1138 : decode cL_law 1138 = .ok (.lshl, 1) := by decide +kernel
theorem dL_law_1139 : decode cL_law 1139 = .ok (.aload_n 0, 1) := by decide +kernel
theorem dL_law_1140 : decode cL_law 1140 = .ok (.iload_n 3, 1) := by decide +kernel
theorem dL_law_1141 : decode cL_law 1141 = .ok (.iconst 4, 1) := by decide +kernel
theorem dL_law_1142 : decode cL_law 1142 = .ok (.iadd, 1) := by decide +kernel
theorem dL_law_1143 : decode cL_law 1143 = .ok (.iaload, 1) := by decide +kernel
theorem dL_law_1144 : decode cL_law 1144 = .ok (.i2l, 1) := by decide +kernel
theorem dL_law_1145 : decode cL_law 1145 = .ok (.ldc2_w 143, 3) := by decide +kernel
theorem dL_law_1148 : decode cL_law 1148 = .ok (.land, 1) := by decide +kernel
theorem dL_law_1149 : decode cL_law 1149 = .ok (.lor, 1) := by decide +kernel
theorem dL_law_1150 : decode cL_law 1150 = .ok (.invokevirtual 145, 3) := by decide +kernel
theorem dL_law_1153 : decode cL_law 1153 = .ok (.aload_n 2, 1) := by decide +kernel
theorem dL_law_1154 : decode cL_law 1154 = .ok (.aload_n 0, 1) := by decide +kernel
theorem dL_law_1155 : decode cL_law 1155 = .ok (.iload_n 3, 1) := by decide +kernel
theorem dL_law_1156 : decode cL_law 1156 = .ok (.iconst 1, 1) := by decide +kernel
theorem dL_law_1157 : decode cL_law 1157 = .ok (.iadd, 1) := by decide +kernel
theorem dL_law_1158 : decode cL_law 1158 = .ok (.iaload, 1) := by decide +kernel
theorem dL_law_1159 : decode cL_law 1159 = .ok (.aload_n 0, 1) := by decide +kernel
theorem dL_law_1160 : decode cL_law 1160 = .ok (.iload_n 3, 1) := by decide +kernel
theorem dL_law_1161 : decode cL_law 1161 = .ok (.iconst 2, 1) := by decide +kernel
theorem dL_law_1162 : decode cL_law 1162 = .ok (.iadd, 1) := by decide +kernel
theorem dL_law_1163 : decode cL_law 1163 = .ok (.iaload, 1) := by decide +kernel
theorem dL_law_1164 : decode cL_law 1164 = .ok (.aload_n 0, 1) := by decide +kernel
theorem dL_law_1165 : decode cL_law 1165 = .ok (.iload_n 3, 1) := by decide +kernel
theorem dL_law_1166 : decode cL_law 1166 = .ok (.iconst 3, 1) := by decide +kernel
theorem dL_law_1167 : decode cL_law 1167 = .ok (.iadd, 1) := by decide +kernel
theorem dL_law_1168 : decode cL_law 1168 = .ok (.iaload, 1) := by decide +kernel
theorem dL_law_1169 : decode cL_law 1169 = .ok (.i2l, 1) := by decide +kernel
theorem dL_law_1170 : decode cL_law 1170 = .ok (.bipush 32, 2) := by decide +kernel
theorem dL_law_1172 : decode cL_law 1172 = .ok (.lshl, 1) := by decide +kernel
theorem dL_law_1173 : decode cL_law 1173 = .ok (.aload_n 0, 1) := by decide +kernel
theorem dL_law_1174 : decode cL_law 1174 = .ok (.iload_n 3, 1) := by decide +kernel
theorem dL_law_1175 : decode cL_law 1175 = .ok (.iconst 4, 1) := by decide +kernel
theorem dL_law_1176 : decode cL_law 1176 = .ok (.iadd, 1) := by decide +kernel
theorem dL_law_1177 : decode cL_law 1177 = .ok (.iaload, 1) := by decide +kernel
theorem dL_law_1178 : decode cL_law 1178 = .ok (.i2l, 1) := by decide +kernel
theorem dL_law_1179 : decode cL_law 1179 = .ok (.ldc2_w 143, 3) := by decide +kernel
theorem dL_law_1182 : decode cL_law 1182 = .ok (.land, 1) := by decide +kernel
theorem dL_law_1183 : decode cL_law 1183 = .ok (.lor, 1) := by decide +kernel
theorem dL_law_1184 : decode cL_law 1184 = .ok (.invokevirtual 149, 3) := by decide +kernel
theorem dL_law_1187 : decode cL_law 1187 = .ok (.if_icmp .eq 102, 3) := by decide +kernel
theorem dL_law_1190 : decode cL_law 1190 = .ok (.iconst 0, 1) := by decide +kernel
theorem dL_law_1191 : decode cL_law 1191 = .ok (.ireturn, 1) := by decide +kernel
theorem dL_law_1192 : decode cL_law 1192 = .ok (.aload_n 1, 1) := by decide +kernel
theorem dL_law_1193 : decode cL_law 1193 = .ok (.aload_n 0, 1) := by decide +kernel
theorem dL_law_1194 : decode cL_law 1194 = .ok (.iload_n 3, 1) := by decide +kernel
theorem dL_law_1195 : decode cL_law 1195 = .ok (.iconst 1, 1) := by decide +kernel
theorem dL_law_1196 : decode cL_law 1196 = .ok (.iadd, 1) := by decide +kernel
theorem dL_law_1197 : decode cL_law 1197 = .ok (.iaload, 1) := by decide +kernel
theorem dL_law_1198 : decode cL_law 1198 = .ok (.aload_n 0, 1) := by decide +kernel
theorem dL_law_1199 : decode cL_law 1199 = .ok (.iload_n 3, 1) := by decide +kernel
theorem dL_law_1200 : decode cL_law 1200 = .ok (.iconst 2, 1) := by decide +kernel
theorem dL_law_1201 : decode cL_law 1201 = .ok (.iadd, 1) := by decide +kernel
theorem dL_law_1202 : decode cL_law 1202 = .ok (.iaload, 1) := by decide +kernel
theorem dL_law_1203 : decode cL_law 1203 = .ok (.invokevirtual 150, 3) := by decide +kernel
theorem dL_law_1206 : decode cL_law 1206 = .ok (.aload_n 2, 1) := by decide +kernel
theorem dL_law_1207 : decode cL_law 1207 = .ok (.aload_n 0, 1) := by decide +kernel
theorem dL_law_1208 : decode cL_law 1208 = .ok (.iload_n 3, 1) := by decide +kernel
theorem dL_law_1209 : decode cL_law 1209 = .ok (.iconst 1, 1) := by decide +kernel
theorem dL_law_1210 : decode cL_law 1210 = .ok (.iadd, 1) := by decide +kernel
theorem dL_law_1211 : decode cL_law 1211 = .ok (.iaload, 1) := by decide +kernel
theorem dL_law_1212 : decode cL_law 1212 = .ok (.aload_n 0, 1) := by decide +kernel
theorem dL_law_1213 : decode cL_law 1213 = .ok (.iload_n 3, 1) := by decide +kernel
theorem dL_law_1214 : decode cL_law 1214 = .ok (.iconst 2, 1) := by decide +kernel
theorem dL_law_1215 : decode cL_law 1215 = .ok (.iadd, 1) := by decide +kernel
theorem dL_law_1216 : decode cL_law 1216 = .ok (.iaload, 1) := by decide +kernel
theorem dL_law_1217 : decode cL_law 1217 = .ok (.invokevirtual 153, 3) := by decide +kernel
theorem dL_law_1220 : decode cL_law 1220 = .ok (.lcmp, 1) := by decide +kernel
theorem dL_law_1221 : decode cL_law 1221 = .ok (.ifCond .eq 68, 3) := by decide +kernel
theorem dL_law_1224 : decode cL_law 1224 = .ok (.iconst 0, 1) := by decide +kernel
theorem dL_law_1225 : decode cL_law 1225 = .ok (.ireturn, 1) := by decide +kernel
theorem dL_law_1226 : decode cL_law 1226 = .ok (.aload_n 1, 1) := by decide +kernel
theorem dL_law_1227 : decode cL_law 1227 = .ok (.aload_n 0, 1) := by decide +kernel
theorem dL_law_1228 : decode cL_law 1228 = .ok (.iload_n 3, 1) := by decide +kernel
theorem dL_law_1229 : decode cL_law 1229 = .ok (.iconst 1, 1) := by decide +kernel
theorem dL_law_1230 : decode cL_law 1230 = .ok (.iadd, 1) := by decide +kernel
theorem dL_law_1231 : decode cL_law 1231 = .ok (.iaload, 1) := by decide +kernel
theorem dL_law_1232 : decode cL_law 1232 = .ok (.aload_n 0, 1) := by decide +kernel
theorem dL_law_1233 : decode cL_law 1233 = .ok (.iload_n 3, 1) := by decide +kernel
theorem dL_law_1234 : decode cL_law 1234 = .ok (.iconst 2, 1) := by decide +kernel
theorem dL_law_1235 : decode cL_law 1235 = .ok (.iadd, 1) := by decide +kernel
theorem dL_law_1236 : decode cL_law 1236 = .ok (.iaload, 1) := by decide +kernel
theorem dL_law_1237 : decode cL_law 1237 = .ok (.aload_n 0, 1) := by decide +kernel
theorem dL_law_1238 : decode cL_law 1238 = .ok (.iload_n 3, 1) := by decide +kernel
theorem dL_law_1239 : decode cL_law 1239 = .ok (.iconst 3, 1) := by decide +kernel
theorem dL_law_1240 : decode cL_law 1240 = .ok (.iadd, 1) := by decide +kernel
theorem dL_law_1241 : decode cL_law 1241 = .ok (.iaload, 1) := by decide +kernel
theorem dL_law_1242 : decode cL_law 1242 = .ok (.aload_n 0, 1) := by decide +kernel
theorem dL_law_1243 : decode cL_law 1243 = .ok (.iload_n 3, 1) := by decide +kernel
theorem dL_law_1244 : decode cL_law 1244 = .ok (.iconst 4, 1) := by decide +kernel
theorem dL_law_1245 : decode cL_law 1245 = .ok (.iadd, 1) := by decide +kernel
theorem dL_law_1246 : decode cL_law 1246 = .ok (.iaload, 1) := by decide +kernel
theorem dL_law_1247 : decode cL_law 1247 = .ok (.aload_n 0, 1) := by decide +kernel
theorem dL_law_1248 : decode cL_law 1248 = .ok (.iload_n 3, 1) := by decide +kernel
theorem dL_law_1249 : decode cL_law 1249 = .ok (.iconst 5, 1) := by decide +kernel
theorem dL_law_1250 : decode cL_law 1250 = .ok (.iadd, 1) := by decide +kernel
theorem dL_law_1251 : decode cL_law 1251 = .ok (.iaload, 1) := by decide +kernel
theorem dL_law_1252 : decode cL_law 1252 = .ok (.invokevirtual 154, 3) := by decide +kernel
theorem dL_law_1255 : decode cL_law 1255 = .ok (.aload_n 2, 1) := by decide +kernel
theorem dL_law_1256 : decode cL_law 1256 = .ok (.aload_n 0, 1) := by decide +kernel
theorem dL_law_1257 : decode cL_law 1257 = .ok (.iload_n 3, 1) := by decide +kernel
theorem dL_law_1258 : decode cL_law 1258 = .ok (.iconst 1, 1) := by decide +kernel
theorem dL_law_1259 : decode cL_law 1259 = .ok (.iadd, 1) := by decide +kernel
theorem dL_law_1260 : decode cL_law 1260 = .ok (.iaload, 1) := by decide +kernel
theorem dL_law_1261 : decode cL_law 1261 = .ok (.aload_n 0, 1) := by decide +kernel
theorem dL_law_1262 : decode cL_law 1262 = .ok (.iload_n 3, 1) := by decide +kernel
theorem dL_law_1263 : decode cL_law 1263 = .ok (.iconst 2, 1) := by decide +kernel
theorem dL_law_1264 : decode cL_law 1264 = .ok (.iadd, 1) := by decide +kernel
theorem dL_law_1265 : decode cL_law 1265 = .ok (.iaload, 1) := by decide +kernel
theorem dL_law_1266 : decode cL_law 1266 = .ok (.aload_n 0, 1) := by decide +kernel
theorem dL_law_1267 : decode cL_law 1267 = .ok (.iload_n 3, 1) := by decide +kernel
theorem dL_law_1268 : decode cL_law 1268 = .ok (.iconst 3, 1) := by decide +kernel
theorem dL_law_1269 : decode cL_law 1269 = .ok (.iadd, 1) := by decide +kernel
theorem dL_law_1270 : decode cL_law 1270 = .ok (.iaload, 1) := by decide +kernel
theorem dL_law_1271 : decode cL_law 1271 = .ok (.aload_n 0, 1) := by decide +kernel
theorem dL_law_1272 : decode cL_law 1272 = .ok (.iload_n 3, 1) := by decide +kernel
theorem dL_law_1273 : decode cL_law 1273 = .ok (.iconst 4, 1) := by decide +kernel
theorem dL_law_1274 : decode cL_law 1274 = .ok (.iadd, 1) := by decide +kernel
theorem dL_law_1275 : decode cL_law 1275 = .ok (.iaload, 1) := by decide +kernel
theorem dL_law_1276 : decode cL_law 1276 = .ok (.aload_n 0, 1) := by decide +kernel
theorem dL_law_1277 : decode cL_law 1277 = .ok (.iload_n 3, 1) := by decide +kernel
theorem dL_law_1278 : decode cL_law 1278 = .ok (.iconst 5, 1) := by decide +kernel
theorem dL_law_1279 : decode cL_law 1279 = .ok (.iadd, 1) := by decide +kernel
theorem dL_law_1280 : decode cL_law 1280 = .ok (.iaload, 1) := by decide +kernel
theorem dL_law_1281 : decode cL_law 1281 = .ok (.invokevirtual 158, 3) := by decide +kernel
theorem dL_law_1284 : decode cL_law 1284 = .ok (.if_icmp .eq 5, 3) := by decide +kernel
theorem dL_law_1287 : decode cL_law 1287 = .ok (.iconst 0, 1) := by decide +kernel
theorem dL_law_1288 : decode cL_law 1288 = .ok (.ireturn, 1) := by decide +kernel
theorem dL_law_1289 : decode cL_law 1289 = .ok (.iinc 3 6, 3) := by decide +kernel
theorem dL_law_1292 : decode cL_law 1292 = .ok (.goto (-1274), 3) := by decide +kernel
theorem dL_law_1295 : decode cL_law 1295 = .ok (.iconst 1, 1) := by decide +kernel
theorem dL_law_1296 : decode cL_law 1296 = .ok (.ireturn, 1) := by decide +kernel
