theorem dX12_goOn_0 : decode cX12_goOn 0 = .ok (.aload_n 0, 1) := by decide +kernel
theorem dX12_goOn_1 : decode cX12_goOn 1 = .ok (.aload_n 0, 1) := by decide +kernel
theorem dX12_goOn_2 : decode cX12_goOn 2 = .ok (.getfield 187, 3) := by decide +kernel
theorem dX12_goOn_5 : decode cX12_goOn 5 = .ok (.putfield 190, 3) := by decide +kernel
theorem dX12_goOn_8 : decode cX12_goOn 8 = .ok (.aload_n 0, 1) := by decide +kernel
theorem dX12_goOn_9 : decode cX12_goOn 9 = .ok (.getfield 190, 3) := by decide +kernel
theorem dX12_goOn_12 : decode cX12_goOn 12 = .ok (.aload_n 0, 1) := by decide +kernel
theorem dX12_goOn_13 : decode cX12_goOn 13 = .ok (.getfield 143, 3) := by decide +kernel
theorem dX12_goOn_16 : decode cX12_goOn 16 = .ok (.if_icmp .ge 42, 3) := by decide +kernel
theorem dX12_goOn_19 : decode cX12_goOn 19 = .ok (.aload_n 0, 1) := by decide +kernel
theorem dX12_goOn_20 : decode cX12_goOn 20 = .ok (.aload_n 0, 1) := by decide +kernel
theorem dX12_goOn_21 : decode cX12_goOn 21 = .ok (.getfield 190, 3) := by decide +kernel
theorem dX12_goOn_24 : decode cX12_goOn 24 = .ok (.invokevirtual 193, 3) := by decide +kernel
theorem dX12_goOn_27 : decode cX12_goOn 27 = .ok (.bipush 32, 2) := by decide +kernel
theorem dX12_goOn_29 : decode cX12_goOn 29 = .ok (.if_icmp .eq 16, 3) := by decide +kernel
theorem dX12_goOn_32 : decode cX12_goOn 32 = .ok (.aload_n 0, 1) := by decide +kernel
theorem dX12_goOn_33 : decode cX12_goOn 33 = .ok (.aload_n 0, 1) := by decide +kernel
theorem dX12_goOn_34 : decode cX12_goOn 34 = .ok (.getfield 190, 3) := by decide +kernel
theorem dX12_goOn_37 : decode cX12_goOn 37 = .ok (.invokevirtual 193, 3) := by decide +kernel
theorem dX12_goOn_40 : decode cX12_goOn 40 = .ok (.bipush 10, 2) := by decide +kernel
theorem dX12_goOn_42 : decode cX12_goOn 42 = .ok (.if_icmp .ne 16, 3) := by decide +kernel
theorem dX12_goOn_45 : decode cX12_goOn 45 = .ok (.aload_n 0, 1) := by decide +kernel
theorem dX12_goOn_46 : decode cX12_goOn 46 = .ok (.dup, 1) := by decide +kernel
theorem dX12_goOn_47 : decode cX12_goOn 47 = .ok (.getfield 190, 3) := by decide +kernel
theorem dX12_goOn_50 : decode cX12_goOn 50 = .ok (.iconst 1, 1) := by decide +kernel
theorem dX12_goOn_51 : decode cX12_goOn 51 = .ok (.iadd, 1) := by decide +kernel
theorem dX12_goOn_52 : decode cX12_goOn 52 = .ok (.putfield 190, 3) := by decide +kernel
theorem dX12_goOn_55 : decode cX12_goOn 55 = .ok (.goto (-47), 3) := by decide +kernel
theorem dX12_goOn_58 : decode cX12_goOn 58 = .ok (.aload_n 0, 1) := by decide +kernel
theorem dX12_goOn_59 : decode cX12_goOn 59 = .ok (.aload_n 0, 1) := by decide +kernel
theorem dX12_goOn_60 : decode cX12_goOn 60 = .ok (.getfield 190, 3) := by decide +kernel
theorem dX12_goOn_63 : decode cX12_goOn 63 = .ok (.invokevirtual 193, 3) := by decide +kernel
theorem dX12_goOn_66 : decode cX12_goOn 66 = .ok (.istore_n 1, 1) := by decide +kernel
theorem dX12_goOn_67 : decode cX12_goOn 67 = .ok (.aload_n 0, 1) := by decide +kernel
theorem dX12_goOn_68 : decode cX12_goOn 68 = .ok (.aload_n 0, 1) := by decide +kernel
theorem dX12_goOn_69 : decode cX12_goOn 69 = .ok (.getfield 190, 3) := by decide +kernel
theorem dX12_goOn_72 : decode cX12_goOn 72 = .ok (.iconst 1, 1) := by decide +kernel
theorem dX12_goOn_73 : decode cX12_goOn 73 = .ok (.iadd, 1) := by decide +kernel
theorem dX12_goOn_74 : decode cX12_goOn 74 = .ok (.putfield 187, 3) := by decide +kernel
theorem dX12_goOn_77 : decode cX12_goOn 77 = .ok (.aload_n 0, 1) := by decide +kernel
theorem dX12_goOn_78 : decode cX12_goOn 78 = .ok (.getfield 190, 3) := by decide +kernel
theorem dX12_goOn_81 : decode cX12_goOn 81 = .ok (.aload_n 0, 1) := by decide +kernel
theorem dX12_goOn_82 : decode cX12_goOn 82 = .ok (.getfield 143, 3) := by decide +kernel
theorem dX12_goOn_85 : decode cX12_goOn 85 = .ok (.if_icmp .lt 27, 3) := by decide +kernel
theorem dX12_goOn_88 : decode cX12_goOn 88 = .ok (.aload_n 0, 1) := by decide +kernel
theorem dX12_goOn_89 : decode cX12_goOn 89 = .ok (.iconst 0, 1) := by decide +kernel
theorem dX12_goOn_90 : decode cX12_goOn 90 = .ok (.putfield 197, 3) := by decide +kernel
theorem dX12_goOn_93 : decode cX12_goOn 93 = .ok (.aload_n 0, 1) := by decide +kernel
theorem dX12_goOn_94 : decode cX12_goOn 94 = .ok (.aload_n 0, 1) := by decide +kernel
theorem dX12_goOn_95 : decode cX12_goOn 95 = .ok (.getfield 143, 3) := by decide +kernel
theorem dX12_goOn_98 : decode cX12_goOn 98 = .ok (.putfield 190, 3) := by decide +kernel
theorem dX12_goOn_101 : decode cX12_goOn 101 = .ok (.aload_n 0, 1) := by decide +kernel
theorem dX12_goOn_102 : decode cX12_goOn 102 = .ok (.aload_n 0, 1) := by decide +kernel
theorem dX12_goOn_103 : decode cX12_goOn 103 = .ok (.getfield 143, 3) := by decide +kernel
theorem dX12_goOn_106 : decode cX12_goOn 106 = .ok (.putfield 187, 3) := by decide +kernel
theorem dX12_goOn_109 : decode cX12_goOn 109 = .ok (.goto 268, 3) := by decide +kernel
theorem dX12_goOn_112 : decode cX12_goOn 112 = .ok (.iload_n 1, 1) := by decide +kernel
theorem dX12_goOn_113 : decode cX12_goOn 113 = .ok (.invokestatic 200, 3) := by decide +kernel
theorem dX12_goOn_116 : decode cX12_goOn 116 = .ok (.ifCond .eq 123, 3) := by decide +kernel
theorem dX12_goOn_119 : decode cX12_goOn 119 = .ok (.aload_n 0, 1) := by decide +kernel
theorem dX12_goOn_120 : decode cX12_goOn 120 = .ok (.aload_n 0, 1) := by decide +kernel
theorem dX12_goOn_121 : decode cX12_goOn 121 = .ok (.getfield 187, 3) := by decide +kernel
theorem dX12_goOn_124 : decode cX12_goOn 124 = .ok (.invokevirtual 193, 3) := by decide +kernel
theorem dX12_goOn_127 : decode cX12_goOn 127 = .ok (.invokestatic 200, 3) := by decide +kernel
theorem dX12_goOn_130 : decode cX12_goOn 130 = .ok (.ifCond .eq 16, 3) := by decide +kernel
theorem dX12_goOn_133 : decode cX12_goOn 133 = .ok (.aload_n 0, 1) := by decide +kernel
theorem dX12_goOn_134 : decode cX12_goOn 134 = .ok (.dup, 1) := by decide +kernel
theorem dX12_goOn_135 : decode cX12_goOn 135 = .ok (.getfield 187, 3) := by decide +kernel
theorem dX12_goOn_138 : decode cX12_goOn 138 = .ok (.iconst 1, 1) := by decide +kernel
theorem dX12_goOn_139 : decode cX12_goOn 139 = .ok (.iadd, 1) := by decide +kernel
theorem dX12_goOn_140 : decode cX12_goOn 140 = .ok (.putfield 187, 3) := by decide +kernel
theorem dX12_goOn_143 : decode cX12_goOn 143 = .ok (.goto (-24), 3) := by decide +kernel
theorem dX12_goOn_146 : decode cX12_goOn 146 = .ok (.aload_n 0, 1) := by decide +kernel
theorem dX12_goOn_147 : decode cX12_goOn 147 = .ok (.lconst 0, 1) := by decide +kernel
theorem dX12_goOn_148 : decode cX12_goOn 148 = .ok (.putfield 204, 3) := by decide +kernel
theorem dX12_goOn_151 : decode cX12_goOn 151 = .ok (.aload_n 0, 1) := by decide +kernel
theorem dX12_goOn_152 : decode cX12_goOn 152 = .ok (.getfield 190, 3) := by decide +kernel
theorem dX12_goOn_155 : decode cX12_goOn 155 = .ok (.istore_n 2, 1) := by decide +kernel
theorem dX12_goOn_156 : decode cX12_goOn 156 = .ok (.iload_n 2, 1) := by decide +kernel
theorem dX12_goOn_157 : decode cX12_goOn 157 = .ok (.aload_n 0, 1) := by decide +kernel
theorem dX12_goOn_158 : decode cX12_goOn 158 = .ok (.getfield 187, 3) := by decide +kernel
theorem dX12_goOn_161 : decode cX12_goOn 161 = .ok (.if_icmp .ge 38, 3) := by decide +kernel
theorem dX12_goOn_164 : decode cX12_goOn 164 = .ok (.iload_n 2, 1) := by decide +kernel
theorem dX12_goOn_165 : decode cX12_goOn 165 = .ok (.aload_n 0, 1) := by decide +kernel
theorem dX12_goOn_166 : decode cX12_goOn 166 = .ok (.getfield 190, 3) := by decide +kernel
theorem dX12_goOn_169 : decode cX12_goOn 169 = .ok (.bipush 8, 2) := by decide +kernel
theorem dX12_goOn_171 : decode cX12_goOn 171 = .ok (.iadd, 1) := by decide +kernel
theorem dX12_goOn_172 : decode cX12_goOn 172 = .ok (.if_icmp .ge 27, 3) := by decide +kernel
theorem dX12_goOn_175 : decode cX12_goOn 175 = .ok (.aload_n 0, 1) := by decide +kernel
theorem dX12_goOn_176 : decode cX12_goOn 176 = .ok (.aload_n 0, 1) := by decide +kernel
theorem dX12_goOn_177 : decode cX12_goOn 177 = .ok (.getfield 204, 3) := by decide +kernel
theorem dX12_goOn_180 : decode cX12_goOn 180 = .ok (.bipush 8, 2) := by decide +kernel
theorem dX12_goOn_182 : decode cX12_goOn 182 = .ok (.lshl, 1) := by decide +kernel
theorem dX12_goOn_183 : decode cX12_goOn 183 = .ok (.aload_n 0, 1) := by decide +kernel
theorem dX12_goOn_184 : decode cX12_goOn 184 = .ok (.iload_n 2, 1) := by decide +kernel
theorem dX12_goOn_185 : decode cX12_goOn 185 = .ok (.invokevirtual 193, 3) := by decide +kernel
theorem dX12_goOn_188 : decode cX12_goOn 188 = .ok (.i2l, 1) := by decide +kernel
theorem dX12_goOn_189 : decode cX12_goOn 189 = .ok (.lor, 1) := by decide +kernel
theorem dX12_goOn_190 : decode cX12_goOn 190 = .ok (.putfield 204, 3) := by decide +kernel
theorem dX12_goOn_193 : decode cX12_goOn 193 = .ok (.iinc 2 1, 3) := by decide +kernel
theorem dX12_goOn_196 : decode cX12_goOn 196 = .ok (.goto (-40), 3) := by decide +kernel
theorem dX12_goOn_199 : decode cX12_goOn 199 = .ok (.aload_n 0, 1) := by decide +kernel
theorem dX12_goOn_200 : decode cX12_goOn 200 = .ok (.aload_n 0, 1) := by decide +kernel
theorem dX12_goOn_201 : decode cX12_goOn 201 = .ok (.getfield 187, 3) := by decide +kernel
theorem dX12_goOn_204 : decode cX12_goOn 204 = .ok (.aload_n 0, 1) := by decide +kernel
theorem dX12_goOn_205 : decode cX12_goOn 205 = .ok (.getfield 190, 3) := by decide +kernel
theorem dX12_goOn_208 : decode cX12_goOn 208 = .ok (.isub, 1) := by decide +kernel
theorem dX12_goOn_209 : decode cX12_goOn 209 = .ok (.bipush 8, 2) := by decide +kernel
theorem dX12_goOn_211 : decode cX12_goOn 211 = .ok (.if_icmp .le 7, 3) := by decide +kernel
theorem dX12_goOn_214 : decode cX12_goOn 214 = .ok (.iconst 1, 1) := by decide +kernel
theorem dX12_goOn_215 : decode cX12_goOn 215 = .ok (.goto 18, 3) := by decide +kernel
theorem dX12_goOn_218 : decode cX12_goOn 218 = .ok (.aload_n 0, 1) := by decide +kernel
theorem dX12_goOn_219 : decode cX12_goOn 219 = .ok (.getfield 204, 3) := by decide +kernel
theorem dX12_goOn_222 : decode cX12_goOn 222 = .ok (.invokestatic 208, 3) := by decide +kernel
theorem dX12_goOn_225 : decode cX12_goOn 225 = .ok (.ifCond .eq 7, 3) := by decide +kernel
theorem dX12_goOn_228 : decode cX12_goOn 228 = .ok (.iconst 3, 1) := by decide +kernel
theorem dX12_goOn_229 : decode cX12_goOn 229 = .ok (.goto 4, 3) := by decide +kernel
theorem dX12_goOn_232 : decode cX12_goOn 232 = .ok (.iconst 2, 1) := by decide +kernel
theorem dX12_goOn_233 : decode cX12_goOn 233 = .ok (.putfield 197, 3) := by decide +kernel
theorem dX12_goOn_236 : decode cX12_goOn 236 = .ok (.goto 141, 3) := by decide +kernel
theorem dX12_goOn_239 : decode cX12_goOn 239 = .ok (.iload_n 1, 1) := by decide +kernel
theorem dX12_goOn_240 : decode cX12_goOn 240 = .ok (.invokestatic 212, 3) := by decide +kernel
theorem dX12_goOn_243 : decode cX12_goOn 243 = .ok (.ifCond .eq 118, 3) := by decide +kernel
theorem dX12_goOn_246 : decode cX12_goOn 246 = .ok (.aload_n 0, 1) := by decide +kernel
theorem dX12_goOn_247 : decode cX12_goOn 247 = .ok (.iconst 0, 1) := by decide +kernel
theorem dX12_goOn_248 : decode cX12_goOn 248 = .ok (.putfield 215, 3) := by decide +kernel
theorem dX12_goOn_251 : decode cX12_goOn 251 = .ok (.aload_n 0, 1) := by decide +kernel
theorem dX12_goOn_252 : decode cX12_goOn 252 = .ok (.aload_n 0, 1) := by decide +kernel
theorem dX12_goOn_253 : decode cX12_goOn 253 = .ok (.getfield 190, 3) := by decide +kernel
theorem dX12_goOn_256 : decode cX12_goOn 256 = .ok (.putfield 187, 3) := by decide +kernel
theorem dX12_goOn_259 : decode cX12_goOn 259 = .ok (.aload_n 0, 1) := by decide +kernel
theorem dX12_goOn_260 : decode cX12_goOn 260 = .ok (.aload_n 0, 1) := by decide +kernel
theorem dX12_goOn_261 : decode cX12_goOn 261 = .ok (.getfield 187, 3) := by decide +kernel
theorem dX12_goOn_264 : decode cX12_goOn 264 = .ok (.invokevirtual 193, 3) := by decide +kernel
theorem dX12_goOn_267 : decode cX12_goOn 267 = .ok (.invokestatic 212, 3) := by decide +kernel
theorem dX12_goOn_270 : decode cX12_goOn 270 = .ok (.ifCond .eq 52, 3) := by decide +kernel
theorem dX12_goOn_273 : decode cX12_goOn 273 = .ok (.aload_n 0, 1) := by decide +kernel
theorem dX12_goOn_274 : decode cX12_goOn 274 = .ok (.getfield 187, 3) := by decide +kernel
theorem dX12_goOn_277 : decode cX12_goOn 277 = .ok (.aload_n 0, 1) := by decide +kernel
theorem dX12_goOn_278 : decode cX12_goOn 278 = .ok (.getfield 190, 3) := by decide +kernel
theorem dX12_goOn_281 : decode cX12_goOn 281 = .ok (.isub, 1) := by decide +kernel
theorem dX12_goOn_282 : decode cX12_goOn 282 = .ok (.iconst 4, 1) := by decide +kernel
theorem dX12_goOn_283 : decode cX12_goOn 283 = .ok (.if_icmp .ge 26, 3) := by decide +kernel
theorem dX12_goOn_286 : decode cX12_goOn 286 = .ok (.aload_n 0, 1) := by decide +kernel
theorem dX12_goOn_287 : decode cX12_goOn 287 = .ok (.bipush 10, 2) := by decide +kernel
theorem dX12_goOn_289 : decode cX12_goOn 289 = .ok (.aload_n 0, 1) := by decide +kernel
theorem dX12_goOn_290 : decode cX12_goOn 290 = .ok (.getfield 215, 3) := by decide +kernel
theorem dX12_goOn_293 : decode cX12_goOn 293 = .ok (.imul, 1) := by decide +kernel
theorem dX12_goOn_294 : decode cX12_goOn 294 = .ok (.aload_n 0, 1) := by decide +kernel
theorem dX12_goOn_295 : decode cX12_goOn 295 = .ok (.aload_n 0, 1) := by decide +kernel
theorem dX12_goOn_296 : decode cX12_goOn 296 = .ok (.getfield 187, 3) := by decide +kernel
theorem dX12_goOn_299 : decode cX12_goOn 299 = .ok (.invokevirtual 193, 3) := by decide +kernel
theorem dX12_goOn_302 : decode cX12_goOn 302 = .ok (.iadd, 1) := by decide +kernel
theorem dX12_goOn_303 : decode cX12_goOn 303 = .ok (.bipush 48, 2) := by decide +kernel
theorem dX12_goOn_305 : decode cX12_goOn 305 = .ok (.isub, 1) := by decide +kernel
theorem dX12_goOn_306 : decode cX12_goOn 306 = .ok (.putfield 215, 3) := by decide +kernel
theorem dX12_goOn_309 : decode cX12_goOn 309 = .ok (.aload_n 0, 1) := by decide +kernel
theorem dX12_goOn_310 : decode cX12_goOn 310 = .ok (.dup, 1) := by decide +kernel
theorem dX12_goOn_311 : decode cX12_goOn 311 = .ok (.getfield 187, 3) := by decide +kernel
theorem dX12_goOn_314 : decode cX12_goOn 314 = .ok (.iconst 1, 1) := by decide +kernel
theorem dX12_goOn_315 : decode cX12_goOn 315 = .ok (.iadd, 1) := by decide +kernel
theorem dX12_goOn_316 : decode cX12_goOn 316 = .ok (.putfield 187, 3) := by decide +kernel
theorem dX12_goOn_319 : decode cX12_goOn 319 = .ok (.goto (-60), 3) := by decide +kernel
theorem dX12_goOn_322 : decode cX12_goOn 322 = .ok (.aload_n 0, 1) := by decide +kernel
theorem dX12_goOn_323 : decode cX12_goOn 323 = .ok (.aload_n 0, 1) := by decide +kernel
theorem dX12_goOn_324 : decode cX12_goOn 324 = .ok (.getfield 187, 3) := by decide +kernel
theorem dX12_goOn_327 : decode cX12_goOn 327 = .ok (.aload_n 0, 1) := by decide +kernel
theorem dX12_goOn_328 : decode cX12_goOn 328 = .ok (.getfield 190, 3) := by decide +kernel
theorem dX12_goOn_331 : decode cX12_goOn 331 = .ok (.isub, 1) := by decide +kernel
theorem dX12_goOn_332 : decode cX12_goOn 332 = .ok (.iconst 4, 1) := by decide +kernel
theorem dX12_goOn_333 : decode cX12_goOn 333 = .ok (.if_icmp .gt 17, 3) := by decide +kernel
theorem dX12_goOn_336 : decode cX12_goOn 336 = .ok (.aload_n 0, 1) := by decide +kernel
theorem dX12_goOn_337 : decode cX12_goOn 337 = .ok (.aload_n 0, 1) := by decide +kernel
theorem dX12_goOn_338 : decode cX12_goOn 338 = .ok (.getfield 187, 3) := by decide +kernel
theorem dX12_goOn_341 : decode cX12_goOn 341 = .ok (.invokevirtual 193, 3) := by decide +kernel
theorem dX12_goOn_344 : decode cX12_goOn 344 = .ok (.invokestatic 200, 3) := by decide +kernel
theorem dX12_goOn_347 : decode cX12_goOn 347 = .ok (.ifCond .eq 7, 3) := by decide +kernel
theorem dX12_goOn_350 : decode cX12_goOn 350 = .ok (.iconst 1, 1) := by decide +kernel
theorem dX12_goOn_351 : decode cX12_goOn 351 = .ok (.goto 4, 3) := by decide +kernel
theorem dX12_goOn_354 : decode cX12_goOn 354 = .ok (.iconst 4, 1) := by decide +kernel
theorem dX12_goOn_355 : decode cX12_goOn 355 = .ok (.putfield 197, 3) := by decide +kernel
theorem dX12_goOn_358 : decode cX12_goOn 358 = .ok (.goto 19, 3) := by decide +kernel
theorem dX12_goOn_361 : decode cX12_goOn 361 = .ok (.aload_n 0, 1) := by decide +kernel
theorem dX12_goOn_362 : decode cX12_goOn 362 = .ok (.iload_n 1, 1) := by decide +kernel
theorem dX12_goOn_363 : decode cX12_goOn 363 = .ok (.invokestatic 218, 3) := by decide +kernel
theorem dX12_goOn_366 : decode cX12_goOn 366 = .ok (.ifCond .eq 7, 3) := by decide +kernel
theorem dX12_goOn_369 : decode cX12_goOn 369 = .ok (.iconst 5, 1) := by decide +kernel
theorem dX12_goOn_370 : decode cX12_goOn 370 = .ok (.goto 4, 3) := by decide +kernel
theorem dX12_goOn_373 : decode cX12_goOn 373 = .ok (.iconst 1, 1) := by decide +kernel
theorem dX12_goOn_374 : decode cX12_goOn 374 = .ok (.putfield 197, 3) := by decide +kernel
theorem dX12_goOn_377 : decode cX12_goOn 377 = .ok (.return_, 1) := by decide +kernel
def kX12_goOn_377 (n : Nat) : mK := i_rV
set_option maxRecDepth 20000 in
theorem okX12_goOn_377 {E : mE} {X : State → Heap → Prop} {l : Launch} (hX : mXok E X) (n : Nat) : Sd E X l yX12_goOn cX12_goOn 3 none 2 0 0 0 0 377 (kX12_goOn_377 n) := s_rV dX12_goOn_377 (Nat.le_of_ble_eq_true rfl) (Nat.le_of_ble_eq_true rfl)
def kX12_goOn_102 (n : Nat) : mK := i_ldA 0 (i_gI 12 3 (i_pI 12 7 ((kX12_goOn_377 n))))
set_option maxRecDepth 20000 in
theorem okX12_goOn_102 {E : mE} {X : State → Heap → Prop} {l : Launch} (hX : mXok E X) (n : Nat) : Sd E X l yX12_goOn cX12_goOn 3 none 2 0 0 0 0 102 (kX12_goOn_102 n) := s_aload_n dX12_goOn_102 rfl (s_gI dX12_goOn_103 lFX12_143 (by decide) (s_pI dX12_goOn_106 lFX12_187 (s_goto dX12_goOn_109 (by decide) (okX12_goOn_377 hX n))))
def kX12_goOn_233 (n : Nat) : mK := i_pI 12 8 ((kX12_goOn_377 n))
set_option maxRecDepth 20000 in
theorem okX12_goOn_233 {E : mE} {X : State → Heap → Prop} {l : Launch} (hX : mXok E X) (n : Nat) : Sd E X l yX12_goOn cX12_goOn 3 none 2 0 0 0 0 233 (kX12_goOn_233 n) := s_pI dX12_goOn_233 lFX12_197 (s_goto dX12_goOn_236 (by decide) (okX12_goOn_377 hX n))
def kX12_goOn_199 (n : Nat) : mK := i_ldA 0 (i_ldA 0 (i_gI 12 7 (i_ldA 0 (i_gI 12 6 (i_bin (fun x y => x - y) (i_cst (.int (8)) (i_c2 (fun x y => decide (x ≤ y)) (i_ldA 0 (i_gJ 12 10 (i_cS 1 (FX12_isKept n) (i_c0 (fun x => decide (x = 0)) (i_cst (.int (2)) (kX12_goOn_233 n)) (i_cst (.int (3)) ((kX12_goOn_233 n))))))) (i_cst (.int (1)) ((kX12_goOn_233 n))))))))))
set_option maxRecDepth 20000 in
theorem okX12_goOn_199 {E : mE} {X : State → Heap → Prop} {l : Launch} (hX : mXok E X) (n : Nat) : Sd E X l yX12_goOn cX12_goOn 3 none 2 0 0 0 0 199 (kX12_goOn_199 n) := s_aload_n dX12_goOn_199 rfl (s_aload_n dX12_goOn_200 rfl (s_gI dX12_goOn_201 lFX12_187 (by decide) (s_aload_n dX12_goOn_204 rfl (s_gI dX12_goOn_205 lFX12_190 (by decide) (s_isub dX12_goOn_208 (s_bipush dX12_goOn_209 (by decide) (s_icle dX12_goOn_211 (by decide) (s_aload_n dX12_goOn_218 rfl (s_gJ dX12_goOn_219 lFX12_204 (s_cS dX12_goOn_222 lMX12_208 bSX12_isKept (CtX12_isKept hX n) (Nat.le_of_ble_eq_true rfl) (s_ifeq dX12_goOn_225 (by decide) (s_iconst dX12_goOn_232 (by decide) (okX12_goOn_233 hX n)) (s_iconst dX12_goOn_228 (by decide) (s_goto dX12_goOn_229 (by decide) (okX12_goOn_233 hX n)))) (Nat.le_of_ble_eq_true rfl) (Nat.le_of_ble_eq_true rfl)))) (s_iconst dX12_goOn_214 (by decide) (s_goto dX12_goOn_215 (by decide) (okX12_goOn_233 hX n))))))))))
def kX12_goOn_156 (n : Nat) (r156 : mK) : mK := i_ldI 2 (i_ldA 0 (i_gI 12 7 (i_c2 (fun x y => decide (y ≤ x)) (kX12_goOn_199 n) (i_ldI 2 (i_ldA 0 (i_gI 12 6 (i_cst (.int (8)) (i_bin (fun x y => x + y) (i_c2 (fun x y => decide (y ≤ x)) (kX12_goOn_199 n) (i_ldA 0 (i_ldA 0 (i_gJ 12 10 (i_cst (.int (8)) (i_lshl (i_ldA 0 (i_ldI 2 (i_cV 12 1 (FX12_sign n) (i_i2l (i_bnJ (fun x y => x ||| y) (i_pJ 12 10 (i_inc 2 (1) (r156))))))))))))))))))))))
set_option maxRecDepth 20000 in
theorem okX12_goOn_156 {E : mE} {X : State → Heap → Prop} {l : Launch} (hX : mXok E X) (n : Nat) {r156 : mK} (h156 : Sd E X l yX12_goOn cX12_goOn 3 none 2 0 0 0 0 156 r156) : Sd E X l yX12_goOn cX12_goOn 3 none 2 0 0 0 0 156 (kX12_goOn_156 n r156) := s_iload_n dX12_goOn_156 rfl (s_aload_n dX12_goOn_157 rfl (s_gI dX12_goOn_158 lFX12_187 (by decide) (s_icge dX12_goOn_161 (by decide) (okX12_goOn_199 hX n) (s_iload_n dX12_goOn_164 rfl (s_aload_n dX12_goOn_165 rfl (s_gI dX12_goOn_166 lFX12_190 (by decide) (s_bipush dX12_goOn_169 (by decide) (s_iadd dX12_goOn_171 (s_icge dX12_goOn_172 (by decide) (okX12_goOn_199 hX n) (s_aload_n dX12_goOn_175 rfl (s_aload_n dX12_goOn_176 rfl (s_gJ dX12_goOn_177 lFX12_204 (s_bipush dX12_goOn_180 (by decide) (s_lshl dX12_goOn_182 (s_aload_n dX12_goOn_183 rfl (s_iload_n dX12_goOn_184 rfl (s_cV dX12_goOn_185 lMX12_193 bVX12_sign rfl (CtX12_sign hX n) (Nat.le_of_ble_eq_true rfl) (s_i2l dX12_goOn_188 (s_lor dX12_goOn_189 (s_pJ dX12_goOn_190 lFX12_204 (s_iinc dX12_goOn_193 (by decide) (s_goto dX12_goOn_196 (by decide) h156))))) (Nat.le_of_ble_eq_true rfl) (Nat.le_of_ble_eq_true rfl))))))))))))))))))
def kX12_goOn_119 (n : Nat) (r119 : mK) : mK := i_ldA 0 (i_ldA 0 (i_gI 12 7 (i_cV 12 1 (FX12_sign n) (i_cS 1 (FX12_isLetter n) (i_c0 (fun x => decide (x = 0)) (i_ldA 0 (i_cst (.long (0)) (i_pJ 12 10 (i_ldA 0 (i_gI 12 6 (i_stI 2 (mit (kX12_goOn_156 n ) n))))))) (i_ldA 0 (i_dup (i_gI 12 7 (i_cst (.int (1)) (i_bin (fun x y => x + y) (i_pI 12 7 (r119))))))))))))
set_option maxRecDepth 20000 in
theorem okX12_goOn_119 {E : mE} {X : State → Heap → Prop} {l : Launch} (hX : mXok E X) (n : Nat) {r119 : mK} (h119 : Sd E X l yX12_goOn cX12_goOn 3 none 2 0 0 0 0 119 r119) : Sd E X l yX12_goOn cX12_goOn 3 none 2 0 0 0 0 119 (kX12_goOn_119 n r119) := s_aload_n dX12_goOn_119 rfl (s_aload_n dX12_goOn_120 rfl (s_gI dX12_goOn_121 lFX12_187 (by decide) (s_cV dX12_goOn_124 lMX12_193 bVX12_sign rfl (CtX12_sign hX n) (Nat.le_of_ble_eq_true rfl) (s_cS dX12_goOn_127 lMX12_200 bSX12_isLetter (CtX12_isLetter hX n) (Nat.le_of_ble_eq_true rfl) (s_ifeq dX12_goOn_130 (by decide) (s_aload_n dX12_goOn_146 rfl (s_lconst dX12_goOn_147 (by decide) (s_pJ dX12_goOn_148 lFX12_204 (s_aload_n dX12_goOn_151 rfl (s_gI dX12_goOn_152 lFX12_190 (by decide) (s_istore_n dX12_goOn_155 rfl (s_mit (fun _ hk => okX12_goOn_156 hX n hk) n))))))) (s_aload_n dX12_goOn_133 rfl (s_dup dX12_goOn_134 (s_gI dX12_goOn_135 lFX12_187 (by decide) (s_iconst dX12_goOn_138 (by decide) (s_iadd dX12_goOn_139 (s_pI dX12_goOn_140 lFX12_187 (s_goto dX12_goOn_143 (by decide) h119)))))))) (Nat.le_of_ble_eq_true rfl) (Nat.le_of_ble_eq_true rfl)) (Nat.le_of_ble_eq_true rfl) (Nat.le_of_ble_eq_true rfl))))
def kX12_goOn_309 (n : Nat) (r259 : mK) : mK := i_ldA 0 (i_dup (i_gI 12 7 (i_cst (.int (1)) (i_bin (fun x y => x + y) (i_pI 12 7 (r259))))))
set_option maxRecDepth 20000 in
theorem okX12_goOn_309 {E : mE} {X : State → Heap → Prop} {l : Launch} (hX : mXok E X) (n : Nat) {r259 : mK} (h259 : Sd E X l yX12_goOn cX12_goOn 3 none 2 0 0 0 0 259 r259) : Sd E X l yX12_goOn cX12_goOn 3 none 2 0 0 0 0 309 (kX12_goOn_309 n r259) := s_aload_n dX12_goOn_309 rfl (s_dup dX12_goOn_310 (s_gI dX12_goOn_311 lFX12_187 (by decide) (s_iconst dX12_goOn_314 (by decide) (s_iadd dX12_goOn_315 (s_pI dX12_goOn_316 lFX12_187 (s_goto dX12_goOn_319 (by decide) h259))))))
def kX12_goOn_305 (n : Nat) (r259 : mK) : mK := i_bin (fun x y => x - y) (i_pI 12 9 (kX12_goOn_309 n r259))
set_option maxRecDepth 20000 in
theorem okX12_goOn_305 {E : mE} {X : State → Heap → Prop} {l : Launch} (hX : mXok E X) (n : Nat) {r259 : mK} (h259 : Sd E X l yX12_goOn cX12_goOn 3 none 2 0 0 0 0 259 r259) : Sd E X l yX12_goOn cX12_goOn 3 none 2 0 0 0 0 305 (kX12_goOn_305 n r259) := s_isub dX12_goOn_305 (s_pI dX12_goOn_306 lFX12_215 (okX12_goOn_309 hX n h259))
def kX12_goOn_355 (n : Nat) : mK := i_pI 12 8 ((kX12_goOn_377 n))
set_option maxRecDepth 20000 in
theorem okX12_goOn_355 {E : mE} {X : State → Heap → Prop} {l : Launch} (hX : mXok E X) (n : Nat) : Sd E X l yX12_goOn cX12_goOn 3 none 2 0 0 0 0 355 (kX12_goOn_355 n) := s_pI dX12_goOn_355 lFX12_197 (s_goto dX12_goOn_358 (by decide) (okX12_goOn_377 hX n))
def kX12_goOn_350 (n : Nat) : mK := i_cst (.int (1)) ((kX12_goOn_355 n))
set_option maxRecDepth 20000 in
theorem okX12_goOn_350 {E : mE} {X : State → Heap → Prop} {l : Launch} (hX : mXok E X) (n : Nat) : Sd E X l yX12_goOn cX12_goOn 3 none 2 0 0 0 0 350 (kX12_goOn_350 n) := s_iconst dX12_goOn_350 (by decide) (s_goto dX12_goOn_351 (by decide) (okX12_goOn_355 hX n))
def kX12_goOn_259 (n : Nat) (r259 : mK) : mK := i_ldA 0 (i_ldA 0 (i_gI 12 7 (i_cV 12 1 (FX12_sign n) (i_cS 1 (FX12_isDigit n) (i_c0 (fun x => decide (x = 0)) (i_ldA 0 (i_ldA 0 (i_gI 12 7 (i_ldA 0 (i_gI 12 6 (i_bin (fun x y => x - y) (i_cst (.int (4)) (i_c2 (fun x y => decide (y < x)) (kX12_goOn_350 n) (i_ldA 0 (i_ldA 0 (i_gI 12 7 (i_cV 12 1 (FX12_sign n) (i_cS 1 (FX12_isLetter n) (i_c0 (fun x => decide (x = 0)) (i_cst (.int (4)) (kX12_goOn_355 n)) (kX12_goOn_350 n))))))))))))))) (i_ldA 0 (i_gI 12 7 (i_ldA 0 (i_gI 12 6 (i_bin (fun x y => x - y) (i_cst (.int (4)) (i_c2 (fun x y => decide (y ≤ x)) (kX12_goOn_309 n r259) (i_ldA 0 (i_cst (.int (10)) (i_ldA 0 (i_gI 12 9 (i_bin (fun x y => x * y) (i_ldA 0 (i_ldA 0 (i_gI 12 7 (i_cV 12 1 (FX12_sign n) (i_bin (fun x y => x + y) (i_cst (.int (48)) (kX12_goOn_305 n r259))))))))))))))))))))))))
set_option maxRecDepth 20000 in
theorem okX12_goOn_259 {E : mE} {X : State → Heap → Prop} {l : Launch} (hX : mXok E X) (n : Nat) {r259 : mK} (h259 : Sd E X l yX12_goOn cX12_goOn 3 none 2 0 0 0 0 259 r259) : Sd E X l yX12_goOn cX12_goOn 3 none 2 0 0 0 0 259 (kX12_goOn_259 n r259) := s_aload_n dX12_goOn_259 rfl (s_aload_n dX12_goOn_260 rfl (s_gI dX12_goOn_261 lFX12_187 (by decide) (s_cV dX12_goOn_264 lMX12_193 bVX12_sign rfl (CtX12_sign hX n) (Nat.le_of_ble_eq_true rfl) (s_cS dX12_goOn_267 lMX12_212 bSX12_isDigit (CtX12_isDigit hX n) (Nat.le_of_ble_eq_true rfl) (s_ifeq dX12_goOn_270 (by decide) (s_aload_n dX12_goOn_322 rfl (s_aload_n dX12_goOn_323 rfl (s_gI dX12_goOn_324 lFX12_187 (by decide) (s_aload_n dX12_goOn_327 rfl (s_gI dX12_goOn_328 lFX12_190 (by decide) (s_isub dX12_goOn_331 (s_iconst dX12_goOn_332 (by decide) (s_icgt dX12_goOn_333 (by decide) (okX12_goOn_350 hX n) (s_aload_n dX12_goOn_336 rfl (s_aload_n dX12_goOn_337 rfl (s_gI dX12_goOn_338 lFX12_187 (by decide) (s_cV dX12_goOn_341 lMX12_193 bVX12_sign rfl (CtX12_sign hX n) (Nat.le_of_ble_eq_true rfl) (s_cS dX12_goOn_344 lMX12_200 bSX12_isLetter (CtX12_isLetter hX n) (Nat.le_of_ble_eq_true rfl) (s_ifeq dX12_goOn_347 (by decide) (s_iconst dX12_goOn_354 (by decide) (okX12_goOn_355 hX n)) (okX12_goOn_350 hX n)) (Nat.le_of_ble_eq_true rfl) (Nat.le_of_ble_eq_true rfl)) (Nat.le_of_ble_eq_true rfl) (Nat.le_of_ble_eq_true rfl))))))))))))) (s_aload_n dX12_goOn_273 rfl (s_gI dX12_goOn_274 lFX12_187 (by decide) (s_aload_n dX12_goOn_277 rfl (s_gI dX12_goOn_278 lFX12_190 (by decide) (s_isub dX12_goOn_281 (s_iconst dX12_goOn_282 (by decide) (s_icge dX12_goOn_283 (by decide) (okX12_goOn_309 hX n h259) (s_aload_n dX12_goOn_286 rfl (s_bipush dX12_goOn_287 (by decide) (s_aload_n dX12_goOn_289 rfl (s_gI dX12_goOn_290 lFX12_215 (by decide) (s_imul dX12_goOn_293 (s_aload_n dX12_goOn_294 rfl (s_aload_n dX12_goOn_295 rfl (s_gI dX12_goOn_296 lFX12_187 (by decide) (s_cV dX12_goOn_299 lMX12_193 bVX12_sign rfl (CtX12_sign hX n) (Nat.le_of_ble_eq_true rfl) (s_iadd dX12_goOn_302 (s_bipush dX12_goOn_303 (by decide) (okX12_goOn_305 hX n h259))) (Nat.le_of_ble_eq_true rfl) (Nat.le_of_ble_eq_true rfl)))))))))))))))))) (Nat.le_of_ble_eq_true rfl) (Nat.le_of_ble_eq_true rfl)) (Nat.le_of_ble_eq_true rfl) (Nat.le_of_ble_eq_true rfl))))
def kX12_goOn_248 (n : Nat) : mK := i_pI 12 9 (i_ldA 0 (i_ldA 0 (i_gI 12 6 (i_pI 12 7 (mit (kX12_goOn_259 n ) n)))))
set_option maxRecDepth 20000 in
theorem okX12_goOn_248 {E : mE} {X : State → Heap → Prop} {l : Launch} (hX : mXok E X) (n : Nat) : Sd E X l yX12_goOn cX12_goOn 3 none 2 0 0 0 0 248 (kX12_goOn_248 n) := s_pI dX12_goOn_248 lFX12_215 (s_aload_n dX12_goOn_251 rfl (s_aload_n dX12_goOn_252 rfl (s_gI dX12_goOn_253 lFX12_190 (by decide) (s_pI dX12_goOn_256 lFX12_187 (s_mit (fun _ hk => okX12_goOn_259 hX n hk) n)))))
def kX12_goOn_374 (n : Nat) : mK := i_pI 12 8 (kX12_goOn_377 n)
set_option maxRecDepth 20000 in
theorem okX12_goOn_374 {E : mE} {X : State → Heap → Prop} {l : Launch} (hX : mXok E X) (n : Nat) : Sd E X l yX12_goOn cX12_goOn 3 none 2 0 0 0 0 374 (kX12_goOn_374 n) := s_pI dX12_goOn_374 lFX12_197 (okX12_goOn_377 hX n)
def kX12_goOn_363 (n : Nat) : mK := i_cS 1 (FX12_isSign n) (i_c0 (fun x => decide (x = 0)) (i_cst (.int (1)) (kX12_goOn_374 n)) (i_cst (.int (5)) ((kX12_goOn_374 n))))
set_option maxRecDepth 20000 in
theorem okX12_goOn_363 {E : mE} {X : State → Heap → Prop} {l : Launch} (hX : mXok E X) (n : Nat) : Sd E X l yX12_goOn cX12_goOn 3 none 2 0 0 0 0 363 (kX12_goOn_363 n) := s_cS dX12_goOn_363 lMX12_218 bSX12_isSign (CtX12_isSign hX n) (Nat.le_of_ble_eq_true rfl) (s_ifeq dX12_goOn_366 (by decide) (s_iconst dX12_goOn_373 (by decide) (okX12_goOn_374 hX n)) (s_iconst dX12_goOn_369 (by decide) (s_goto dX12_goOn_370 (by decide) (okX12_goOn_374 hX n)))) (Nat.le_of_ble_eq_true rfl) (Nat.le_of_ble_eq_true rfl)
def kX12_goOn_58 (n : Nat) : mK := i_ldA 0 (i_ldA 0 (i_gI 12 6 (i_cV 12 1 (FX12_sign n) (i_stI 1 (i_ldA 0 (i_ldA 0 (i_gI 12 6 (i_cst (.int (1)) (i_bin (fun x y => x + y) (i_pI 12 7 (i_ldA 0 (i_gI 12 6 (i_ldA 0 (i_gI 12 3 (i_c2 (fun x y => decide (x < y)) (i_ldI 1 (i_cS 1 (FX12_isLetter n) (i_c0 (fun x => decide (x = 0)) (i_ldI 1 (i_cS 1 (FX12_isDigit n) (i_c0 (fun x => decide (x = 0)) (i_ldA 0 (i_ldI 1 (kX12_goOn_363 n))) (i_ldA 0 (i_cst (.int (0)) (kX12_goOn_248 n)))))) (mit (kX12_goOn_119 n ) n)))) (i_ldA 0 (i_cst (.int (0)) (i_pI 12 8 (i_ldA 0 (i_ldA 0 (i_gI 12 3 (i_pI 12 6 (i_ldA 0 (kX12_goOn_102 n))))))))))))))))))))))))
set_option maxRecDepth 20000 in
theorem okX12_goOn_58 {E : mE} {X : State → Heap → Prop} {l : Launch} (hX : mXok E X) (n : Nat) : Sd E X l yX12_goOn cX12_goOn 3 none 2 0 0 0 0 58 (kX12_goOn_58 n) := s_aload_n dX12_goOn_58 rfl (s_aload_n dX12_goOn_59 rfl (s_gI dX12_goOn_60 lFX12_190 (by decide) (s_cV dX12_goOn_63 lMX12_193 bVX12_sign rfl (CtX12_sign hX n) (Nat.le_of_ble_eq_true rfl) (s_istore_n dX12_goOn_66 rfl (s_aload_n dX12_goOn_67 rfl (s_aload_n dX12_goOn_68 rfl (s_gI dX12_goOn_69 lFX12_190 (by decide) (s_iconst dX12_goOn_72 (by decide) (s_iadd dX12_goOn_73 (s_pI dX12_goOn_74 lFX12_187 (s_aload_n dX12_goOn_77 rfl (s_gI dX12_goOn_78 lFX12_190 (by decide) (s_aload_n dX12_goOn_81 rfl (s_gI dX12_goOn_82 lFX12_143 (by decide) (s_iclt dX12_goOn_85 (by decide) (s_iload_n dX12_goOn_112 rfl (s_cS dX12_goOn_113 lMX12_200 bSX12_isLetter (CtX12_isLetter hX n) (Nat.le_of_ble_eq_true rfl) (s_ifeq dX12_goOn_116 (by decide) (s_iload_n dX12_goOn_239 rfl (s_cS dX12_goOn_240 lMX12_212 bSX12_isDigit (CtX12_isDigit hX n) (Nat.le_of_ble_eq_true rfl) (s_ifeq dX12_goOn_243 (by decide) (s_aload_n dX12_goOn_361 rfl (s_iload_n dX12_goOn_362 rfl (okX12_goOn_363 hX n))) (s_aload_n dX12_goOn_246 rfl (s_iconst dX12_goOn_247 (by decide) (okX12_goOn_248 hX n)))) (Nat.le_of_ble_eq_true rfl) (Nat.le_of_ble_eq_true rfl))) (s_mit (fun _ hk => okX12_goOn_119 hX n hk) n)) (Nat.le_of_ble_eq_true rfl) (Nat.le_of_ble_eq_true rfl))) (s_aload_n dX12_goOn_88 rfl (s_iconst dX12_goOn_89 (by decide) (s_pI dX12_goOn_90 lFX12_197 (s_aload_n dX12_goOn_93 rfl (s_aload_n dX12_goOn_94 rfl (s_gI dX12_goOn_95 lFX12_143 (by decide) (s_pI dX12_goOn_98 lFX12_190 (s_aload_n dX12_goOn_101 rfl (okX12_goOn_102 hX n))))))))))))))))))))) (Nat.le_of_ble_eq_true rfl) (Nat.le_of_ble_eq_true rfl))))
def kX12_goOn_45 (n : Nat) (r8 : mK) : mK := i_ldA 0 (i_dup (i_gI 12 6 (i_cst (.int (1)) (i_bin (fun x y => x + y) (i_pI 12 6 (r8))))))
set_option maxRecDepth 20000 in
theorem okX12_goOn_45 {E : mE} {X : State → Heap → Prop} {l : Launch} (hX : mXok E X) (n : Nat) {r8 : mK} (h8 : Sd E X l yX12_goOn cX12_goOn 3 none 2 0 0 0 0 8 r8) : Sd E X l yX12_goOn cX12_goOn 3 none 2 0 0 0 0 45 (kX12_goOn_45 n r8) := s_aload_n dX12_goOn_45 rfl (s_dup dX12_goOn_46 (s_gI dX12_goOn_47 lFX12_190 (by decide) (s_iconst dX12_goOn_50 (by decide) (s_iadd dX12_goOn_51 (s_pI dX12_goOn_52 lFX12_190 (s_goto dX12_goOn_55 (by decide) h8))))))
def kX12_goOn_8 (n : Nat) (r8 : mK) : mK := i_ldA 0 (i_gI 12 6 (i_ldA 0 (i_gI 12 3 (i_c2 (fun x y => decide (y ≤ x)) (kX12_goOn_58 n) (i_ldA 0 (i_ldA 0 (i_gI 12 6 (i_cV 12 1 (FX12_sign n) (i_cst (.int (32)) (i_c2 (fun x y => decide (x = y)) (kX12_goOn_45 n r8) (i_ldA 0 (i_ldA 0 (i_gI 12 6 (i_cV 12 1 (FX12_sign n) (i_cst (.int (10)) (i_c2 (fun x y => decide (¬ x = y)) (kX12_goOn_58 n) (kX12_goOn_45 n r8)))))))))))))))))
set_option maxRecDepth 20000 in
theorem okX12_goOn_8 {E : mE} {X : State → Heap → Prop} {l : Launch} (hX : mXok E X) (n : Nat) {r8 : mK} (h8 : Sd E X l yX12_goOn cX12_goOn 3 none 2 0 0 0 0 8 r8) : Sd E X l yX12_goOn cX12_goOn 3 none 2 0 0 0 0 8 (kX12_goOn_8 n r8) := s_aload_n dX12_goOn_8 rfl (s_gI dX12_goOn_9 lFX12_190 (by decide) (s_aload_n dX12_goOn_12 rfl (s_gI dX12_goOn_13 lFX12_143 (by decide) (s_icge dX12_goOn_16 (by decide) (okX12_goOn_58 hX n) (s_aload_n dX12_goOn_19 rfl (s_aload_n dX12_goOn_20 rfl (s_gI dX12_goOn_21 lFX12_190 (by decide) (s_cV dX12_goOn_24 lMX12_193 bVX12_sign rfl (CtX12_sign hX n) (Nat.le_of_ble_eq_true rfl) (s_bipush dX12_goOn_27 (by decide) (s_iceq dX12_goOn_29 (by decide) (okX12_goOn_45 hX n h8) (s_aload_n dX12_goOn_32 rfl (s_aload_n dX12_goOn_33 rfl (s_gI dX12_goOn_34 lFX12_190 (by decide) (s_cV dX12_goOn_37 lMX12_193 bVX12_sign rfl (CtX12_sign hX n) (Nat.le_of_ble_eq_true rfl) (s_bipush dX12_goOn_40 (by decide) (s_icne dX12_goOn_42 (by decide) (okX12_goOn_58 hX n) (okX12_goOn_45 hX n h8))) (Nat.le_of_ble_eq_true rfl) (Nat.le_of_ble_eq_true rfl))))))) (Nat.le_of_ble_eq_true rfl) (Nat.le_of_ble_eq_true rfl)))))))))
def kX12_goOn_0 (n : Nat) : mK := i_ldA 0 (i_ldA 0 (i_gI 12 7 (i_pI 12 6 (mit (kX12_goOn_8 n ) n))))
set_option maxRecDepth 20000 in
theorem okX12_goOn_0 {E : mE} {X : State → Heap → Prop} {l : Launch} (hX : mXok E X) (n : Nat) : Sd E X l yX12_goOn cX12_goOn 3 none 2 0 0 0 0 0 (kX12_goOn_0 n) := s_aload_n dX12_goOn_0 rfl (s_aload_n dX12_goOn_1 rfl (s_gI dX12_goOn_2 lFX12_187 (by decide) (s_pI dX12_goOn_5 lFX12_190 (s_mit (fun _ hk => okX12_goOn_8 hX n hk) n))))
def FX12_goOn (n : Nat) : List Value → mM → Option mR := mfn 3 (kX12_goOn_0 n)
theorem CtX12_goOn {E : mE} {X : State → Heap → Prop} {l : Launch} (hX : mXok E X) (n : Nat) : Ct E X l yX12_goOn cX12_goOn 3 none 2 0 0 (FX12_goOn n) := Ct_of (by decide) hX (okX12_goOn_0 hX n)
theorem dX12_heard_0 : decode cX12_heard 0 = .ok (.iload_n 1, 1) := by decide +kernel
theorem dX12_heard_1 : decode cX12_heard 1 = .ok (.iconst 0, 1) := by decide +kernel
theorem dX12_heard_2 : decode cX12_heard 2 = .ok (.bipush 20, 2) := by decide +kernel
theorem dX12_heard_4 : decode cX12_heard 4 = .ok (.invokestatic 344, 3) := by decide +kernel
theorem dX12_heard_7 : decode cX12_heard 7 = .ok (.ifCond .eq 32, 3) := by decide +kernel
theorem dX12_heard_10 : decode cX12_heard 10 = .ok (.iload_n 2, 1) := by decide +kernel
theorem dX12_heard_11 : decode cX12_heard 11 = .ok (.sipush (-9999), 3) := by decide +kernel
theorem dX12_heard_14 : decode cX12_heard 14 = .ok (.sipush 9999, 3) := by decide +kernel
theorem dX12_heard_17 : decode cX12_heard 17 = .ok (.invokestatic 344, 3) := by decide +kernel
theorem dX12_heard_20 : decode cX12_heard 20 = .ok (.ifCond .eq 19, 3) := by decide +kernel
theorem dX12_heard_23 : decode cX12_heard 23 = .ok (.aload_n 0, 1) := by decide +kernel
theorem dX12_heard_24 : decode cX12_heard 24 = .ok (.getfield 363, 3) := by decide +kernel
theorem dX12_heard_27 : decode cX12_heard 27 = .ok (.bipush 30, 2) := by decide +kernel
theorem dX12_heard_29 : decode cX12_heard 29 = .ok (.if_icmp .eq 10, 3) := by decide +kernel
theorem dX12_heard_32 : decode cX12_heard 32 = .ok (.aload_n 0, 1) := by decide +kernel
theorem dX12_heard_33 : decode cX12_heard 33 = .ok (.invokevirtual 341, 3) := by decide +kernel
theorem dX12_heard_36 : decode cX12_heard 36 = .ok (.ifCond .ne 5, 3) := by decide +kernel
theorem dX12_heard_39 : decode cX12_heard 39 = .ok (.iconst (-1), 1) := by decide +kernel
theorem dX12_heard_40 : decode cX12_heard 40 = .ok (.ireturn, 1) := by decide +kernel
theorem dX12_heard_41 : decode cX12_heard 41 = .ok (.aload_n 0, 1) := by decide +kernel
theorem dX12_heard_42 : decode cX12_heard 42 = .ok (.getfield 112, 3) := by decide +kernel
theorem dX12_heard_45 : decode cX12_heard 45 = .ok (.aload_n 0, 1) := by decide +kernel
theorem dX12_heard_46 : decode cX12_heard 46 = .ok (.getfield 363, 3) := by decide +kernel
theorem dX12_heard_49 : decode cX12_heard 49 = .ok (.iload_n 1, 1) := by decide +kernel
theorem dX12_heard_50 : decode cX12_heard 50 = .ok (.iastore, 1) := by decide +kernel
theorem dX12_heard_51 : decode cX12_heard 51 = .ok (.aload_n 0, 1) := by decide +kernel
theorem dX12_heard_52 : decode cX12_heard 52 = .ok (.getfield 115, 3) := by decide +kernel
theorem dX12_heard_55 : decode cX12_heard 55 = .ok (.aload_n 0, 1) := by decide +kernel
theorem dX12_heard_56 : decode cX12_heard 56 = .ok (.getfield 363, 3) := by decide +kernel
theorem dX12_heard_59 : decode cX12_heard 59 = .ok (.iload_n 2, 1) := by decide +kernel
theorem dX12_heard_60 : decode cX12_heard 60 = .ok (.iastore, 1) := by decide +kernel
theorem dX12_heard_61 : decode cX12_heard 61 = .ok (.aload_n 0, 1) := by decide +kernel
theorem dX12_heard_62 : decode cX12_heard 62 = .ok (.getfield 118, 3) := by decide +kernel
theorem dX12_heard_65 : decode cX12_heard 65 = .ok (.aload_n 0, 1) := by decide +kernel
theorem dX12_heard_66 : decode cX12_heard 66 = .ok (.getfield 363, 3) := by decide +kernel
theorem dX12_heard_69 : decode cX12_heard 69 = .ok (.iload_n 3, 1) := by decide +kernel
theorem dX12_heard_70 : decode cX12_heard 70 = .ok (.ifCond .eq 7, 3) := by decide +kernel
theorem dX12_heard_73 : decode cX12_heard 73 = .ok (.iconst 1, 1) := by decide +kernel
theorem dX12_heard_74 : decode cX12_heard 74 = .ok (.goto 4, 3) := by decide +kernel
theorem dX12_heard_77 : decode cX12_heard 77 = .ok (.iconst 0, 1) := by decide +kernel
theorem dX12_heard_78 : decode cX12_heard 78 = .ok (.iastore, 1) := by decide +kernel
theorem dX12_heard_79 : decode cX12_heard 79 = .ok (.aload_n 0, 1) := by decide +kernel
theorem dX12_heard_80 : decode cX12_heard 80 = .ok (.getfield 121, 3) := by decide +kernel
theorem dX12_heard_83 : decode cX12_heard 83 = .ok (.aload_n 0, 1) := by decide +kernel
theorem dX12_heard_84 : decode cX12_heard 84 = .ok (.getfield 363, 3) := by decide +kernel
theorem dX12_heard_87 : decode cX12_heard 87 = .ok (.aload_n 0, 1) := by decide +kernel
theorem dX12_heard_88 : decode cX12_heard 88 = .ok (.getfield 477, 3) := by decide +kernel
theorem dX12_heard_91 : decode cX12_heard 91 = .ok (.iastore, 1) := by decide +kernel
theorem dX12_heard_92 : decode cX12_heard 92 = .ok (.aload_n 0, 1) := by decide +kernel
theorem dX12_heard_93 : decode cX12_heard 93 = .ok (.getfield 124, 3) := by decide +kernel
theorem dX12_heard_96 : decode cX12_heard 96 = .ok (.aload_n 0, 1) := by decide +kernel
theorem dX12_heard_97 : decode cX12_heard 97 = .ok (.getfield 363, 3) := by decide +kernel
theorem dX12_heard_100 : decode cX12_heard 100 = .ok (.iconst (-1), 1) := by decide +kernel
theorem dX12_heard_101 : decode cX12_heard 101 = .ok (.iastore, 1) := by decide +kernel
theorem dX12_heard_102 : decode cX12_heard 102 = .ok (.aload_n 0, 1) := by decide +kernel
theorem dX12_heard_103 : decode cX12_heard 103 = .ok (.dup, 1) := by decide +kernel
theorem dX12_heard_104 : decode cX12_heard 104 = .ok (.getfield 363, 3) := by decide +kernel
theorem dX12_heard_107 : decode cX12_heard 107 = .ok (.iconst 1, 1) := by decide +kernel
theorem dX12_heard_108 : decode cX12_heard 108 = .ok (.iadd, 1) := by decide +kernel
theorem dX12_heard_109 : decode cX12_heard 109 = .ok (.putfield 363, 3) := by decide +kernel
theorem dX12_heard_112 : decode cX12_heard 112 = .ok (.aload_n 0, 1) := by decide +kernel
theorem dX12_heard_113 : decode cX12_heard 113 = .ok (.getfield 363, 3) := by decide +kernel
theorem dX12_heard_116 : decode cX12_heard 116 = .ok (.iconst 1, 1) := by decide +kernel
theorem dX12_heard_117 : decode cX12_heard 117 = .ok (.isub, 1) := by decide +kernel
theorem dX12_heard_118 : decode cX12_heard 118 = .ok (.ireturn, 1) := by decide +kernel
def kX12_heard_39 (n : Nat) : mK := i_cst (.int (-1)) (i_rI)
set_option maxRecDepth 20000 in
theorem okX12_heard_39 {E : mE} {X : State → Heap → Prop} {l : Launch} (hX : mXok E X) (n : Nat) : Sd E X l yX12_heard cX12_heard 4 (some .int) 2 0 0 0 0 39 (kX12_heard_39 n) := s_iconst dX12_heard_39 (by decide) (s_rI dX12_heard_40 (Nat.le_of_ble_eq_true rfl) (Nat.le_of_ble_eq_true rfl))
def kX12_heard_118 (n : Nat) : mK := i_rI
set_option maxRecDepth 20000 in
theorem okX12_heard_118 {E : mE} {X : State → Heap → Prop} {l : Launch} (hX : mXok E X) (n : Nat) : Sd E X l yX12_heard cX12_heard 4 (some .int) 2 0 0 0 0 118 (kX12_heard_118 n) := s_rI dX12_heard_118 (Nat.le_of_ble_eq_true rfl) (Nat.le_of_ble_eq_true rfl)
def kX12_heard_78 (n : Nat) : mK := i_as 0 (i_ldA 0 (i_gA 12 55 (i_ldA 0 (i_gI 12 57 (i_ldA 0 (i_gI 12 58 (i_as 0 (i_ldA 0 (i_gA 12 56 (i_ldA 0 (i_gI 12 57 (i_cst (.int (-1)) (i_as 0 (i_ldA 0 (i_dup (i_gI 12 57 (i_cst (.int (1)) (i_bin (fun x y => x + y) (i_pI 12 57 (i_ldA 0 (i_gI 12 57 (i_cst (.int (1)) (i_bin (fun x y => x - y) (kX12_heard_118 n))))))))))))))))))))))))
set_option maxRecDepth 20000 in
theorem okX12_heard_78 {E : mE} {X : State → Heap → Prop} {l : Launch} (hX : mXok E X) (n : Nat) : Sd E X l yX12_heard cX12_heard 4 (some .int) 2 0 0 0 0 78 (kX12_heard_78 n) := s_iast dX12_heard_78 (s_aload_n dX12_heard_79 rfl (s_gA dX12_heard_80 lFX12_121 (s_aload_n dX12_heard_83 rfl (s_gI dX12_heard_84 lFX12_363 (by decide) (s_aload_n dX12_heard_87 rfl (s_gI dX12_heard_88 lFX12_477 (by decide) (s_iast dX12_heard_91 (s_aload_n dX12_heard_92 rfl (s_gA dX12_heard_93 lFX12_124 (s_aload_n dX12_heard_96 rfl (s_gI dX12_heard_97 lFX12_363 (by decide) (s_iconst dX12_heard_100 (by decide) (s_iast dX12_heard_101 (s_aload_n dX12_heard_102 rfl (s_dup dX12_heard_103 (s_gI dX12_heard_104 lFX12_363 (by decide) (s_iconst dX12_heard_107 (by decide) (s_iadd dX12_heard_108 (s_pI dX12_heard_109 lFX12_363 (s_aload_n dX12_heard_112 rfl (s_gI dX12_heard_113 lFX12_363 (by decide) (s_iconst dX12_heard_116 (by decide) (s_isub dX12_heard_117 (okX12_heard_118 hX n))))))))))))))))))))))))
def kX12_heard_52 (n : Nat) : mK := i_gA 12 53 (i_ldA 0 (i_gI 12 57 (i_ldI 2 (i_as 0 (i_ldA 0 (i_gA 12 54 (i_ldA 0 (i_gI 12 57 (i_ldI 3 (i_c0 (fun x => decide (x = 0)) (i_cst (.int (0)) (kX12_heard_78 n)) (i_cst (.int (1)) ((kX12_heard_78 n)))))))))))))
set_option maxRecDepth 20000 in
theorem okX12_heard_52 {E : mE} {X : State → Heap → Prop} {l : Launch} (hX : mXok E X) (n : Nat) : Sd E X l yX12_heard cX12_heard 4 (some .int) 2 0 0 0 0 52 (kX12_heard_52 n) := s_gA dX12_heard_52 lFX12_115 (s_aload_n dX12_heard_55 rfl (s_gI dX12_heard_56 lFX12_363 (by decide) (s_iload_n dX12_heard_59 rfl (s_iast dX12_heard_60 (s_aload_n dX12_heard_61 rfl (s_gA dX12_heard_62 lFX12_118 (s_aload_n dX12_heard_65 rfl (s_gI dX12_heard_66 lFX12_363 (by decide) (s_iload_n dX12_heard_69 rfl (s_ifeq dX12_heard_70 (by decide) (s_iconst dX12_heard_77 (by decide) (okX12_heard_78 hX n)) (s_iconst dX12_heard_73 (by decide) (s_goto dX12_heard_74 (by decide) (okX12_heard_78 hX n)))))))))))))
def kX12_heard_0 (n : Nat) : mK := i_ldI 1 (i_cst (.int (0)) (i_cst (.int (20)) (i_cS 3 (FX12_isIn n) (i_c0 (fun x => decide (x = 0)) (kX12_heard_39 n) (i_ldI 2 (i_cst (.int (-9999)) (i_cst (.int (9999)) (i_cS 3 (FX12_isIn n) (i_c0 (fun x => decide (x = 0)) (kX12_heard_39 n) (i_ldA 0 (i_gI 12 57 (i_cst (.int (30)) (i_c2 (fun x y => decide (x = y)) (kX12_heard_39 n) (i_ldA 0 (i_cV 12 0 (FX12_many n) (i_c0 (fun x => decide (¬ x = 0)) (i_ldA 0 (i_gA 12 52 (i_ldA 0 (i_gI 12 57 (i_ldI 1 (i_as 0 (i_ldA 0 (kX12_heard_52 n)))))))) (kX12_heard_39 n)))))))))))))))))
set_option maxRecDepth 20000 in
theorem okX12_heard_0 {E : mE} {X : State → Heap → Prop} {l : Launch} (hX : mXok E X) (n : Nat) : Sd E X l yX12_heard cX12_heard 4 (some .int) 2 0 0 0 0 0 (kX12_heard_0 n) := s_iload_n dX12_heard_0 rfl (s_iconst dX12_heard_1 (by decide) (s_bipush dX12_heard_2 (by decide) (s_cS dX12_heard_4 lMX12_344 bSX12_isIn (CtX12_isIn hX n) (Nat.le_of_ble_eq_true rfl) (s_ifeq dX12_heard_7 (by decide) (okX12_heard_39 hX n) (s_iload_n dX12_heard_10 rfl (s_sipush dX12_heard_11 (by decide) (s_sipush dX12_heard_14 (by decide) (s_cS dX12_heard_17 lMX12_344 bSX12_isIn (CtX12_isIn hX n) (Nat.le_of_ble_eq_true rfl) (s_ifeq dX12_heard_20 (by decide) (okX12_heard_39 hX n) (s_aload_n dX12_heard_23 rfl (s_gI dX12_heard_24 lFX12_363 (by decide) (s_bipush dX12_heard_27 (by decide) (s_iceq dX12_heard_29 (by decide) (okX12_heard_39 hX n) (s_aload_n dX12_heard_32 rfl (s_cV dX12_heard_33 lMX12_341 bVX12_many rfl (CtX12_many hX n) (Nat.le_of_ble_eq_true rfl) (s_ifne dX12_heard_36 (by decide) (s_aload_n dX12_heard_41 rfl (s_gA dX12_heard_42 lFX12_112 (s_aload_n dX12_heard_45 rfl (s_gI dX12_heard_46 lFX12_363 (by decide) (s_iload_n dX12_heard_49 rfl (s_iast dX12_heard_50 (s_aload_n dX12_heard_51 rfl (okX12_heard_52 hX n)))))))) (okX12_heard_39 hX n)) (Nat.le_of_ble_eq_true rfl) (Nat.le_of_ble_eq_true rfl)))))))) (Nat.le_of_ble_eq_true rfl) (Nat.le_of_ble_eq_true rfl)))))) (Nat.le_of_ble_eq_true rfl) (Nat.le_of_ble_eq_true rfl))))
def FX12_heard (n : Nat) : List Value → mM → Option mR := mfn 4 (kX12_heard_0 n)
theorem CtX12_heard {E : mE} {X : State → Heap → Prop} {l : Launch} (hX : mXok E X) (n : Nat) : Ct E X l yX12_heard cX12_heard 4 (some .int) 2 0 0 (FX12_heard n) := Ct_of (by decide) hX (okX12_heard_0 hX n)
theorem dX12_image_0 : decode cX12_image 0 = .ok (.iload_n 1, 1) := by decide +kernel
theorem dX12_image_1 : decode cX12_image 1 = .ok (.iconst 0, 1) := by decide +kernel
theorem dX12_image_2 : decode cX12_image 2 = .ok (.iconst 2, 1) := by decide +kernel
theorem dX12_image_3 : decode cX12_image 3 = .ok (.invokestatic 344, 3) := by decide +kernel
theorem dX12_image_6 : decode cX12_image 6 = .ok (.ifCond .ne 5, 3) := by decide +kernel
theorem dX12_image_9 : decode cX12_image 9 = .ok (.iconst (-1), 1) := by decide +kernel
theorem dX12_image_10 : decode cX12_image 10 = .ok (.ireturn, 1) := by decide +kernel
theorem dX12_image_11 : decode cX12_image 11 = .ok (.iconst 0, 1) := by decide +kernel
theorem dX12_image_12 : decode cX12_image 12 = .ok (.istore_n 2, 1) := by decide +kernel
theorem dX12_image_13 : decode cX12_image 13 = .ok (.iload_n 2, 1) := by decide +kernel
theorem dX12_image_14 : decode cX12_image 14 = .ok (.bipush 34, 2) := by decide +kernel
theorem dX12_image_16 : decode cX12_image 16 = .ok (.if_icmp .ge 26, 3) := by decide +kernel
theorem dX12_image_19 : decode cX12_image 19 = .ok (.aload_n 0, 1) := by decide +kernel
theorem dX12_image_20 : decode cX12_image 20 = .ok (.getfield 130, 3) := by decide +kernel
theorem dX12_image_23 : decode cX12_image 23 = .ok (.bipush 34, 2) := by decide +kernel
theorem dX12_image_25 : decode cX12_image 25 = .ok (.iload_n 1, 1) := by decide +kernel
theorem dX12_image_26 : decode cX12_image 26 = .ok (.imul, 1) := by decide +kernel
theorem dX12_image_27 : decode cX12_image 27 = .ok (.iload_n 2, 1) := by decide +kernel
theorem dX12_image_28 : decode cX12_image 28 = .ok (.iadd, 1) := by decide +kernel
theorem dX12_image_29 : decode cX12_image 29 = .ok (.aload_n 0, 1) := by decide +kernel
theorem dX12_image_30 : decode cX12_image 30 = .ok (.getfield 82, 3) := by decide +kernel
theorem dX12_image_33 : decode cX12_image 33 = .ok (.iload_n 2, 1) := by decide +kernel
theorem dX12_image_34 : decode cX12_image 34 = .ok (.iaload, 1) := by decide +kernel
theorem dX12_image_35 : decode cX12_image 35 = .ok (.iastore, 1) := by decide +kernel
theorem dX12_image_36 : decode cX12_image 36 = .ok (.iinc 2 1, 3) := by decide +kernel
theorem dX12_image_39 : decode cX12_image 39 = .ok (.goto (-26), 3) := by decide +kernel
theorem dX12_image_42 : decode cX12_image 42 = .ok (.aload_n 0, 1) := by decide +kernel
theorem dX12_image_43 : decode cX12_image 43 = .ok (.getfield 133, 3) := by decide +kernel
theorem dX12_image_46 : decode cX12_image 46 = .ok (.iload_n 1, 1) := by decide +kernel
theorem dX12_image_47 : decode cX12_image 47 = .ok (.iconst 1, 1) := by decide +kernel
theorem dX12_image_48 : decode cX12_image 48 = .ok (.bastore, 1) := by decide +kernel
theorem dX12_image_49 : decode cX12_image 49 = .ok (.aload_n 0, 1) := by decide +kernel
theorem dX12_image_50 : decode cX12_image 50 = .ok (.getfield 82, 3) := by decide +kernel
theorem dX12_image_53 : decode cX12_image 53 = .ok (.bipush 32, 2) := by decide +kernel
theorem dX12_image_55 : decode cX12_image 55 = .ok (.iaload, 1) := by decide +kernel
theorem dX12_image_56 : decode cX12_image 56 = .ok (.ireturn, 1) := by decide +kernel
def kX12_image_13 (n : Nat) (r13 : mK) : mK := i_ldI 2 (i_cst (.int (34)) (i_c2 (fun x y => decide (y ≤ x)) (i_ldA 0 (i_gA 12 62 (i_ldI 1 (i_cst (.int (1)) (i_as 2 (i_ldA 0 (i_gA 12 39 (i_cst (.int (32)) (i_al 0 (i_rI)))))))))) (i_ldA 0 (i_gA 12 61 (i_cst (.int (34)) (i_ldI 1 (i_bin (fun x y => x * y) (i_ldI 2 (i_bin (fun x y => x + y) (i_ldA 0 (i_gA 12 39 (i_ldI 2 (i_al 0 (i_as 0 (i_inc 2 (1) (r13))))))))))))))))
set_option maxRecDepth 20000 in
theorem okX12_image_13 {E : mE} {X : State → Heap → Prop} {l : Launch} (hX : mXok E X) (n : Nat) {r13 : mK} (h13 : Sd E X l yX12_image cX12_image 3 (some .int) 2 0 0 0 0 13 r13) : Sd E X l yX12_image cX12_image 3 (some .int) 2 0 0 0 0 13 (kX12_image_13 n r13) := s_iload_n dX12_image_13 rfl (s_bipush dX12_image_14 (by decide) (s_icge dX12_image_16 (by decide) (s_aload_n dX12_image_42 rfl (s_gA dX12_image_43 lFX12_133 (s_iload_n dX12_image_46 rfl (s_iconst dX12_image_47 (by decide) (s_zast dX12_image_48 (s_aload_n dX12_image_49 rfl (s_gA dX12_image_50 lFX12_82 (s_bipush dX12_image_53 (by decide) (s_iald dX12_image_55 (s_rI dX12_image_56 (Nat.le_of_ble_eq_true rfl) (Nat.le_of_ble_eq_true rfl))))))))))) (s_aload_n dX12_image_19 rfl (s_gA dX12_image_20 lFX12_130 (s_bipush dX12_image_23 (by decide) (s_iload_n dX12_image_25 rfl (s_imul dX12_image_26 (s_iload_n dX12_image_27 rfl (s_iadd dX12_image_28 (s_aload_n dX12_image_29 rfl (s_gA dX12_image_30 lFX12_82 (s_iload_n dX12_image_33 rfl (s_iald dX12_image_34 (s_iast dX12_image_35 (s_iinc dX12_image_36 (by decide) (s_goto dX12_image_39 (by decide) h13))))))))))))))))
def kX12_image_0 (n : Nat) : mK := i_ldI 1 (i_cst (.int (0)) (i_cst (.int (2)) (i_cS 3 (FX12_isIn n) (i_c0 (fun x => decide (¬ x = 0)) (i_cst (.int (0)) (i_stI 2 (mit (kX12_image_13 n ) n))) (i_cst (.int (-1)) (i_rI))))))
set_option maxRecDepth 20000 in
theorem okX12_image_0 {E : mE} {X : State → Heap → Prop} {l : Launch} (hX : mXok E X) (n : Nat) : Sd E X l yX12_image cX12_image 3 (some .int) 2 0 0 0 0 0 (kX12_image_0 n) := s_iload_n dX12_image_0 rfl (s_iconst dX12_image_1 (by decide) (s_iconst dX12_image_2 (by decide) (s_cS dX12_image_3 lMX12_344 bSX12_isIn (CtX12_isIn hX n) (Nat.le_of_ble_eq_true rfl) (s_ifne dX12_image_6 (by decide) (s_iconst dX12_image_11 (by decide) (s_istore_n dX12_image_12 rfl (s_mit (fun _ hk => okX12_image_13 hX n hk) n))) (s_iconst dX12_image_9 (by decide) (s_rI dX12_image_10 (Nat.le_of_ble_eq_true rfl) (Nat.le_of_ble_eq_true rfl)))) (Nat.le_of_ble_eq_true rfl) (Nat.le_of_ble_eq_true rfl))))
def FX12_image (n : Nat) : List Value → mM → Option mR := mfn 3 (kX12_image_0 n)
theorem CtX12_image {E : mE} {X : State → Heap → Prop} {l : Launch} (hX : mXok E X) (n : Nat) : Ct E X l yX12_image cX12_image 3 (some .int) 2 0 0 (FX12_image n) := Ct_of (by decide) hX (okX12_image_0 hX n)
theorem dX12_inRow_0 : decode cX12_inRow 0 = .ok (.iconst 0, 1) := by decide +kernel
theorem dX12_inRow_1 : decode cX12_inRow 1 = .ok (.istore_n 2, 1) := by decide +kernel
theorem dX12_inRow_2 : decode cX12_inRow 2 = .ok (.iconst 0, 1) := by decide +kernel
theorem dX12_inRow_3 : decode cX12_inRow 3 = .ok (.istore_n 3, 1) := by decide +kernel
theorem dX12_inRow_4 : decode cX12_inRow 4 = .ok (.iload_n 3, 1) := by decide +kernel
theorem dX12_inRow_5 : decode cX12_inRow 5 = .ok (.aload_n 0, 1) := by decide +kernel
theorem dX12_inRow_6 : decode cX12_inRow 6 = .ok (.invokevirtual 341, 3) := by decide +kernel
theorem dX12_inRow_9 : decode cX12_inRow 9 = .ok (.if_icmp .ge 50, 3) := by decide +kernel
theorem dX12_inRow_12 : decode cX12_inRow 12 = .ok (.iload_n 2, 1) := by decide +kernel
theorem dX12_inRow_13 : decode cX12_inRow 13 = .ok (.aload_n 0, 1) := by decide +kernel
theorem dX12_inRow_14 : decode cX12_inRow 14 = .ok (.getfield 82, 3) := by decide +kernel
theorem dX12_inRow_17 : decode cX12_inRow 17 = .ok (.iconst 0, 1) := by decide +kernel
theorem dX12_inRow_18 : decode cX12_inRow 18 = .ok (.iload_n 3, 1) := by decide +kernel
theorem dX12_inRow_19 : decode cX12_inRow 19 = .ok (.iadd, 1) := by decide +kernel
theorem dX12_inRow_20 : decode cX12_inRow 20 = .ok (.iaload, 1) := by decide +kernel
theorem dX12_inRow_21 : decode cX12_inRow 21 = .ok (.ifCond .lt 29, 3) := by decide +kernel
theorem dX12_inRow_24 : decode cX12_inRow 24 = .ok (.aload_n 0, 1) := by decide +kernel
theorem dX12_inRow_25 : decode cX12_inRow 25 = .ok (.getfield 82, 3) := by decide +kernel
theorem dX12_inRow_28 : decode cX12_inRow 28 = .ok (.iconst 0, 1) := by decide +kernel
theorem dX12_inRow_29 : decode cX12_inRow 29 = .ok (.iload_n 3, 1) := by decide +kernel
theorem dX12_inRow_30 : decode cX12_inRow 30 = .ok (.iadd, 1) := by decide +kernel
theorem dX12_inRow_31 : decode cX12_inRow 31 = .ok (.iaload, 1) := by decide +kernel
theorem dX12_inRow_32 : decode cX12_inRow 32 = .ok (.aload_n 0, 1) := by decide +kernel
theorem dX12_inRow_33 : decode cX12_inRow 33 = .ok (.getfield 20, 3) := by decide +kernel
theorem dX12_inRow_36 : decode cX12_inRow 36 = .ok (.aload_n 0, 1) := by decide +kernel
theorem dX12_inRow_37 : decode cX12_inRow 37 = .ok (.getfield 255, 3) := by decide +kernel
theorem dX12_inRow_40 : decode cX12_inRow 40 = .ok (.iaload, 1) := by decide +kernel
theorem dX12_inRow_41 : decode cX12_inRow 41 = .ok (.idiv, 1) := by decide +kernel
theorem dX12_inRow_42 : decode cX12_inRow 42 = .ok (.iload_n 1, 1) := by decide +kernel
theorem dX12_inRow_43 : decode cX12_inRow 43 = .ok (.if_icmp .ne 7, 3) := by decide +kernel
theorem dX12_inRow_46 : decode cX12_inRow 46 = .ok (.iconst 1, 1) := by decide +kernel
theorem dX12_inRow_47 : decode cX12_inRow 47 = .ok (.goto 4, 3) := by decide +kernel
theorem dX12_inRow_50 : decode cX12_inRow 50 = .ok (.iconst 0, 1) := by decide +kernel
theorem dX12_inRow_51 : decode cX12_inRow 51 = .ok (.iadd, 1) := by decide +kernel
theorem dX12_inRow_52 : decode cX12_inRow 52 = .ok (.istore_n 2, 1) := by decide +kernel
theorem dX12_inRow_53 : decode cX12_inRow 53 = .ok (.iinc 3 1, 3) := by decide +kernel
theorem dX12_inRow_56 : decode cX12_inRow 56 = .ok (.goto (-52), 3) := by decide +kernel
theorem dX12_inRow_59 : decode cX12_inRow 59 = .ok (.iload_n 2, 1) := by decide +kernel
theorem dX12_inRow_60 : decode cX12_inRow 60 = .ok (.ireturn, 1) := by decide +kernel
def kX12_inRow_51 (n : Nat) (r4 : mK) : mK := i_bin (fun x y => x + y) (i_stI 2 (i_inc 3 (1) (r4)))
set_option maxRecDepth 20000 in
theorem okX12_inRow_51 {E : mE} {X : State → Heap → Prop} {l : Launch} (hX : mXok E X) (n : Nat) {r4 : mK} (h4 : Sd E X l yX12_inRow cX12_inRow 4 (some .int) 2 0 0 0 0 4 r4) : Sd E X l yX12_inRow cX12_inRow 4 (some .int) 2 0 0 0 0 51 (kX12_inRow_51 n r4) := s_iadd dX12_inRow_51 (s_istore_n dX12_inRow_52 rfl (s_iinc dX12_inRow_53 (by decide) (s_goto dX12_inRow_56 (by decide) h4)))
def kX12_inRow_50 (n : Nat) (r4 : mK) : mK := i_cst (.int (0)) (kX12_inRow_51 n r4)
set_option maxRecDepth 20000 in
theorem okX12_inRow_50 {E : mE} {X : State → Heap → Prop} {l : Launch} (hX : mXok E X) (n : Nat) {r4 : mK} (h4 : Sd E X l yX12_inRow cX12_inRow 4 (some .int) 2 0 0 0 0 4 r4) : Sd E X l yX12_inRow cX12_inRow 4 (some .int) 2 0 0 0 0 50 (kX12_inRow_50 n r4) := s_iconst dX12_inRow_50 (by decide) (okX12_inRow_51 hX n h4)
def kX12_inRow_42 (n : Nat) (r4 : mK) : mK := i_ldI 1 (i_c2 (fun x y => decide (¬ x = y)) (kX12_inRow_50 n r4) (i_cst (.int (1)) ((kX12_inRow_51 n r4))))
set_option maxRecDepth 20000 in
theorem okX12_inRow_42 {E : mE} {X : State → Heap → Prop} {l : Launch} (hX : mXok E X) (n : Nat) {r4 : mK} (h4 : Sd E X l yX12_inRow cX12_inRow 4 (some .int) 2 0 0 0 0 4 r4) : Sd E X l yX12_inRow cX12_inRow 4 (some .int) 2 0 0 0 0 42 (kX12_inRow_42 n r4) := s_iload_n dX12_inRow_42 rfl (s_icne dX12_inRow_43 (by decide) (okX12_inRow_50 hX n h4) (s_iconst dX12_inRow_46 (by decide) (s_goto dX12_inRow_47 (by decide) (okX12_inRow_51 hX n h4))))
def kX12_inRow_4 (n : Nat) (r4 : mK) : mK := i_ldI 3 (i_ldA 0 (i_cV 12 0 (FX12_many n) (i_c2 (fun x y => decide (y ≤ x)) (i_ldI 2 (i_rI)) (i_ldI 2 (i_ldA 0 (i_gA 12 39 (i_cst (.int (0)) (i_ldI 3 (i_bin (fun x y => x + y) (i_al 0 (i_c0 (fun x => decide (x < 0)) (kX12_inRow_50 n r4) (i_ldA 0 (i_gA 12 39 (i_cst (.int (0)) (i_ldI 3 (i_bin (fun x y => x + y) (i_al 0 (i_ldA 0 (i_gA 12 11 (i_ldA 0 (i_gI 12 31 (i_al 0 (i_dv (fun x y => x / y) (kX12_inRow_42 n r4))))))))))))))))))))))))
set_option maxRecDepth 20000 in
theorem okX12_inRow_4 {E : mE} {X : State → Heap → Prop} {l : Launch} (hX : mXok E X) (n : Nat) {r4 : mK} (h4 : Sd E X l yX12_inRow cX12_inRow 4 (some .int) 2 0 0 0 0 4 r4) : Sd E X l yX12_inRow cX12_inRow 4 (some .int) 2 0 0 0 0 4 (kX12_inRow_4 n r4) := s_iload_n dX12_inRow_4 rfl (s_aload_n dX12_inRow_5 rfl (s_cV dX12_inRow_6 lMX12_341 bVX12_many rfl (CtX12_many hX n) (Nat.le_of_ble_eq_true rfl) (s_icge dX12_inRow_9 (by decide) (s_iload_n dX12_inRow_59 rfl (s_rI dX12_inRow_60 (Nat.le_of_ble_eq_true rfl) (Nat.le_of_ble_eq_true rfl))) (s_iload_n dX12_inRow_12 rfl (s_aload_n dX12_inRow_13 rfl (s_gA dX12_inRow_14 lFX12_82 (s_iconst dX12_inRow_17 (by decide) (s_iload_n dX12_inRow_18 rfl (s_iadd dX12_inRow_19 (s_iald dX12_inRow_20 (s_iflt dX12_inRow_21 (by decide) (okX12_inRow_50 hX n h4) (s_aload_n dX12_inRow_24 rfl (s_gA dX12_inRow_25 lFX12_82 (s_iconst dX12_inRow_28 (by decide) (s_iload_n dX12_inRow_29 rfl (s_iadd dX12_inRow_30 (s_iald dX12_inRow_31 (s_aload_n dX12_inRow_32 rfl (s_gA dX12_inRow_33 lFX12_20 (s_aload_n dX12_inRow_36 rfl (s_gI dX12_inRow_37 lFX12_255 (by decide) (s_iald dX12_inRow_40 (s_idiv dX12_inRow_41 (okX12_inRow_42 hX n h4)))))))))))))))))))))) (Nat.le_of_ble_eq_true rfl) (Nat.le_of_ble_eq_true rfl)))
def kX12_inRow_0 (n : Nat) : mK := i_cst (.int (0)) (i_stI 2 (i_cst (.int (0)) (i_stI 3 (mit (kX12_inRow_4 n ) n))))
set_option maxRecDepth 20000 in
theorem okX12_inRow_0 {E : mE} {X : State → Heap → Prop} {l : Launch} (hX : mXok E X) (n : Nat) : Sd E X l yX12_inRow cX12_inRow 4 (some .int) 2 0 0 0 0 0 (kX12_inRow_0 n) := s_iconst dX12_inRow_0 (by decide) (s_istore_n dX12_inRow_1 rfl (s_iconst dX12_inRow_2 (by decide) (s_istore_n dX12_inRow_3 rfl (s_mit (fun _ hk => okX12_inRow_4 hX n hk) n))))
def FX12_inRow (n : Nat) : List Value → mM → Option mR := mfn 4 (kX12_inRow_0 n)
theorem CtX12_inRow {E : mE} {X : State → Heap → Prop} {l : Launch} (hX : mXok E X) (n : Nat) : Ct E X l yX12_inRow cX12_inRow 4 (some .int) 2 0 0 (FX12_inRow n) := Ct_of (by decide) hX (okX12_inRow_0 hX n)
theorem dX12_isCar_0 : decode cX12_isCar 0 = .ok (.iload_n 1, 1) := by decide +kernel
theorem dX12_isCar_1 : decode cX12_isCar 1 = .ok (.iconst 0, 1) := by decide +kernel
theorem dX12_isCar_2 : decode cX12_isCar 2 = .ok (.aload_n 0, 1) := by decide +kernel
theorem dX12_isCar_3 : decode cX12_isCar 3 = .ok (.invokevirtual 341, 3) := by decide +kernel
theorem dX12_isCar_6 : decode cX12_isCar 6 = .ok (.iconst 1, 1) := by decide +kernel
theorem dX12_isCar_7 : decode cX12_isCar 7 = .ok (.isub, 1) := by decide +kernel
theorem dX12_isCar_8 : decode cX12_isCar 8 = .ok (.invokestatic 344, 3) := by decide +kernel
theorem dX12_isCar_11 : decode cX12_isCar 11 = .ok (.ireturn, 1) := by decide +kernel
def kX12_isCar_0 (n : Nat) : mK := i_ldI 1 (i_cst (.int (0)) (i_ldA 0 (i_cV 12 0 (FX12_many n) (i_cst (.int (1)) (i_bin (fun x y => x - y) (i_cS 3 (FX12_isIn n) (i_rZ)))))))
set_option maxRecDepth 20000 in
theorem okX12_isCar_0 {E : mE} {X : State → Heap → Prop} {l : Launch} (hX : mXok E X) (n : Nat) : Sd E X l yX12_isCar cX12_isCar 2 (some .boolean) 2 0 0 0 0 0 (kX12_isCar_0 n) := s_iload_n dX12_isCar_0 rfl (s_iconst dX12_isCar_1 (by decide) (s_aload_n dX12_isCar_2 rfl (s_cV dX12_isCar_3 lMX12_341 bVX12_many rfl (CtX12_many hX n) (Nat.le_of_ble_eq_true rfl) (s_iconst dX12_isCar_6 (by decide) (s_isub dX12_isCar_7 (s_cS dX12_isCar_8 lMX12_344 bSX12_isIn (CtX12_isIn hX n) (Nat.le_of_ble_eq_true rfl) (s_rZ dX12_isCar_11 (Nat.le_of_ble_eq_true rfl) (Nat.le_of_ble_eq_true rfl)) (Nat.le_of_ble_eq_true rfl) (Nat.le_of_ble_eq_true rfl)))) (Nat.le_of_ble_eq_true rfl) (Nat.le_of_ble_eq_true rfl))))
def FX12_isCar (n : Nat) : List Value → mM → Option mR := mfn 2 (kX12_isCar_0 n)
theorem CtX12_isCar {E : mE} {X : State → Heap → Prop} {l : Launch} (hX : mXok E X) (n : Nat) : Ct E X l yX12_isCar cX12_isCar 2 (some .boolean) 2 0 0 (FX12_isCar n) := Ct_of (by decide) hX (okX12_isCar_0 hX n)
theorem dX12_isFull_0 : decode cX12_isFull 0 = .ok (.aload_n 0, 1) := by decide +kernel
theorem dX12_isFull_1 : decode cX12_isFull 1 = .ok (.ldc2_w 149, 3) := by decide +kernel
theorem dX12_isFull_4 : decode cX12_isFull 4 = .ok (.invokevirtual 235, 3) := by decide +kernel
theorem dX12_isFull_7 : decode cX12_isFull 7 = .ok (.ifCond .eq 21, 3) := by decide +kernel
theorem dX12_isFull_10 : decode cX12_isFull 10 = .ok (.aload_n 0, 1) := by decide +kernel
theorem dX12_isFull_11 : decode cX12_isFull 11 = .ok (.getfield 27, 3) := by decide +kernel
theorem dX12_isFull_14 : decode cX12_isFull 14 = .ok (.aload_n 0, 1) := by decide +kernel
theorem dX12_isFull_15 : decode cX12_isFull 15 = .ok (.getfield 246, 3) := by decide +kernel
theorem dX12_isFull_18 : decode cX12_isFull 18 = .ok (.iaload, 1) := by decide +kernel
theorem dX12_isFull_19 : decode cX12_isFull 19 = .ok (.ifCond .le 7, 3) := by decide +kernel
theorem dX12_isFull_22 : decode cX12_isFull 22 = .ok (.iconst 1, 1) := by decide +kernel
theorem dX12_isFull_23 : decode cX12_isFull 23 = .ok (.goto 4, 3) := by decide +kernel
theorem dX12_isFull_26 : decode cX12_isFull 26 = .ok (.iconst 0, 1) := by decide +kernel
theorem dX12_isFull_27 : decode cX12_isFull 27 = .ok (.ireturn, 1) := by decide +kernel
theorem dX12_isFull_28 : decode cX12_isFull 28 = .ok (.aload_n 0, 1) := by decide +kernel
theorem dX12_isFull_29 : decode cX12_isFull 29 = .ok (.ldc2_w 153, 3) := by decide +kernel
theorem dX12_isFull_32 : decode cX12_isFull 32 = .ok (.invokevirtual 235, 3) := by decide +kernel
theorem dX12_isFull_35 : decode cX12_isFull 35 = .ok (.ifCond .eq 23, 3) := by decide +kernel
theorem dX12_isFull_38 : decode cX12_isFull 38 = .ok (.aload_n 0, 1) := by decide +kernel
theorem dX12_isFull_39 : decode cX12_isFull 39 = .ok (.getfield 30, 3) := by decide +kernel
theorem dX12_isFull_42 : decode cX12_isFull 42 = .ok (.aload_n 0, 1) := by decide +kernel
theorem dX12_isFull_43 : decode cX12_isFull 43 = .ok (.getfield 246, 3) := by decide +kernel
theorem dX12_isFull_46 : decode cX12_isFull 46 = .ok (.iaload, 1) := by decide +kernel
theorem dX12_isFull_47 : decode cX12_isFull 47 = .ok (.bipush 8, 2) := by decide +kernel
theorem dX12_isFull_49 : decode cX12_isFull 49 = .ok (.if_icmp .ne 7, 3) := by decide +kernel
theorem dX12_isFull_52 : decode cX12_isFull 52 = .ok (.iconst 1, 1) := by decide +kernel
theorem dX12_isFull_53 : decode cX12_isFull 53 = .ok (.goto 4, 3) := by decide +kernel
theorem dX12_isFull_56 : decode cX12_isFull 56 = .ok (.iconst 0, 1) := by decide +kernel
theorem dX12_isFull_57 : decode cX12_isFull 57 = .ok (.ireturn, 1) := by decide +kernel
theorem dX12_isFull_58 : decode cX12_isFull 58 = .ok (.aload_n 0, 1) := by decide +kernel
theorem dX12_isFull_59 : decode cX12_isFull 59 = .ok (.ldc2_w 163, 3) := by decide +kernel
theorem dX12_isFull_62 : decode cX12_isFull 62 = .ok (.invokevirtual 235, 3) := by decide +kernel
theorem dX12_isFull_65 : decode cX12_isFull 65 = .ok (.ifCond .eq 17, 3) := by decide +kernel
theorem dX12_isFull_68 : decode cX12_isFull 68 = .ok (.aload_n 0, 1) := by decide +kernel
theorem dX12_isFull_69 : decode cX12_isFull 69 = .ok (.getfield 42, 3) := by decide +kernel
theorem dX12_isFull_72 : decode cX12_isFull 72 = .ok (.aload_n 0, 1) := by decide +kernel
theorem dX12_isFull_73 : decode cX12_isFull 73 = .ok (.getfield 246, 3) := by decide +kernel
theorem dX12_isFull_76 : decode cX12_isFull 76 = .ok (.iaload, 1) := by decide +kernel
theorem dX12_isFull_77 : decode cX12_isFull 77 = .ok (.iconst 0, 1) := by decide +kernel
theorem dX12_isFull_78 : decode cX12_isFull 78 = .ok (.invokestatic 261, 3) := by decide +kernel
theorem dX12_isFull_81 : decode cX12_isFull 81 = .ok (.ireturn, 1) := by decide +kernel
theorem dX12_isFull_82 : decode cX12_isFull 82 = .ok (.aload_n 0, 1) := by decide +kernel
theorem dX12_isFull_83 : decode cX12_isFull 83 = .ok (.ldc2_w 165, 3) := by decide +kernel
theorem dX12_isFull_86 : decode cX12_isFull 86 = .ok (.invokevirtual 235, 3) := by decide +kernel
theorem dX12_isFull_89 : decode cX12_isFull 89 = .ok (.ifCond .eq 17, 3) := by decide +kernel
theorem dX12_isFull_92 : decode cX12_isFull 92 = .ok (.aload_n 0, 1) := by decide +kernel
theorem dX12_isFull_93 : decode cX12_isFull 93 = .ok (.getfield 42, 3) := by decide +kernel
theorem dX12_isFull_96 : decode cX12_isFull 96 = .ok (.aload_n 0, 1) := by decide +kernel
theorem dX12_isFull_97 : decode cX12_isFull 97 = .ok (.getfield 246, 3) := by decide +kernel
theorem dX12_isFull_100 : decode cX12_isFull 100 = .ok (.iaload, 1) := by decide +kernel
theorem dX12_isFull_101 : decode cX12_isFull 101 = .ok (.iconst 1, 1) := by decide +kernel
theorem dX12_isFull_102 : decode cX12_isFull 102 = .ok (.invokestatic 261, 3) := by decide +kernel
theorem dX12_isFull_105 : decode cX12_isFull 105 = .ok (.ireturn, 1) := by decide +kernel
theorem dX12_isFull_106 : decode cX12_isFull 106 = .ok (.aload_n 0, 1) := by decide +kernel
theorem dX12_isFull_107 : decode cX12_isFull 107 = .ok (.ldc2_w 167, 3) := by decide +kernel
theorem dX12_isFull_110 : decode cX12_isFull 110 = .ok (.invokevirtual 235, 3) := by decide +kernel
theorem dX12_isFull_113 : decode cX12_isFull 113 = .ok (.ifCond .eq 17, 3) := by decide +kernel
theorem dX12_isFull_116 : decode cX12_isFull 116 = .ok (.aload_n 0, 1) := by decide +kernel
theorem dX12_isFull_117 : decode cX12_isFull 117 = .ok (.getfield 42, 3) := by decide +kernel
theorem dX12_isFull_120 : decode cX12_isFull 120 = .ok (.aload_n 0, 1) := by decide +kernel
theorem dX12_isFull_121 : decode cX12_isFull 121 = .ok (.getfield 246, 3) := by decide +kernel
theorem dX12_isFull_124 : decode cX12_isFull 124 = .ok (.iaload, 1) := by decide +kernel
theorem dX12_isFull_125 : decode cX12_isFull 125 = .ok (.iconst 2, 1) := by decide +kernel
theorem dX12_isFull_126 : decode cX12_isFull 126 = .ok (.invokestatic 261, 3) := by decide +kernel
theorem dX12_isFull_129 : decode cX12_isFull 129 = .ok (.ireturn, 1) := by decide +kernel
theorem dX12_isFull_130 : decode cX12_isFull 130 = .ok (.aload_n 0, 1) := by decide +kernel
theorem dX12_isFull_131 : decode cX12_isFull 131 = .ok (.ldc2_w 169, 3) := by decide +kernel
theorem dX12_isFull_134 : decode cX12_isFull 134 = .ok (.invokevirtual 235, 3) := by decide +kernel
theorem dX12_isFull_137 : decode cX12_isFull 137 = .ok (.ifCond .eq 19, 3) := by decide +kernel
theorem dX12_isFull_140 : decode cX12_isFull 140 = .ok (.aload_n 0, 1) := by decide +kernel
theorem dX12_isFull_141 : decode cX12_isFull 141 = .ok (.getfield 42, 3) := by decide +kernel
theorem dX12_isFull_144 : decode cX12_isFull 144 = .ok (.aload_n 0, 1) := by decide +kernel
theorem dX12_isFull_145 : decode cX12_isFull 145 = .ok (.getfield 246, 3) := by decide +kernel
theorem dX12_isFull_148 : decode cX12_isFull 148 = .ok (.iaload, 1) := by decide +kernel
theorem dX12_isFull_149 : decode cX12_isFull 149 = .ok (.iconst 3, 1) := by decide +kernel
theorem dX12_isFull_150 : decode cX12_isFull 150 = .ok (.invokestatic 261, 3) := by decide +kernel
theorem dX12_isFull_153 : decode cX12_isFull 153 = .ok (.ifCond .eq 7, 3) := by decide +kernel
theorem dX12_isFull_156 : decode cX12_isFull 156 = .ok (.iconst 1, 1) := by decide +kernel
theorem dX12_isFull_157 : decode cX12_isFull 157 = .ok (.goto 4, 3) := by decide +kernel
theorem dX12_isFull_160 : decode cX12_isFull 160 = .ok (.iconst 0, 1) := by decide +kernel
theorem dX12_isFull_161 : decode cX12_isFull 161 = .ok (.ireturn, 1) := by decide +kernel
def kX12_isFull_27 (n : Nat) : mK := i_rZ
set_option maxRecDepth 20000 in
theorem okX12_isFull_27 {E : mE} {X : State → Heap → Prop} {l : Launch} (hX : mXok E X) (n : Nat) : Sd E X l yX12_isFull cX12_isFull 1 (some .boolean) 2 0 0 0 0 27 (kX12_isFull_27 n) := s_rZ dX12_isFull_27 (Nat.le_of_ble_eq_true rfl) (Nat.le_of_ble_eq_true rfl)
def kX12_isFull_57 (n : Nat) : mK := i_rZ
set_option maxRecDepth 20000 in
theorem okX12_isFull_57 {E : mE} {X : State → Heap → Prop} {l : Launch} (hX : mXok E X) (n : Nat) : Sd E X l yX12_isFull cX12_isFull 1 (some .boolean) 2 0 0 0 0 57 (kX12_isFull_57 n) := s_rZ dX12_isFull_57 (Nat.le_of_ble_eq_true rfl) (Nat.le_of_ble_eq_true rfl)
def kX12_isFull_124 (n : Nat) : mK := i_al 0 (i_cst (.int (2)) (i_cS 2 (FX12_bit n) (i_rZ)))
set_option maxRecDepth 20000 in
theorem okX12_isFull_124 {E : mE} {X : State → Heap → Prop} {l : Launch} (hX : mXok E X) (n : Nat) : Sd E X l yX12_isFull cX12_isFull 1 (some .boolean) 2 0 0 0 0 124 (kX12_isFull_124 n) := s_iald dX12_isFull_124 (s_iconst dX12_isFull_125 (by decide) (s_cS dX12_isFull_126 lMX12_261 bSX12_bit (CtX12_bit hX n) (Nat.le_of_ble_eq_true rfl) (s_rZ dX12_isFull_129 (Nat.le_of_ble_eq_true rfl) (Nat.le_of_ble_eq_true rfl)) (Nat.le_of_ble_eq_true rfl) (Nat.le_of_ble_eq_true rfl)))
def kX12_isFull_161 (n : Nat) : mK := i_rZ
set_option maxRecDepth 20000 in
theorem okX12_isFull_161 {E : mE} {X : State → Heap → Prop} {l : Launch} (hX : mXok E X) (n : Nat) : Sd E X l yX12_isFull cX12_isFull 1 (some .boolean) 2 0 0 0 0 161 (kX12_isFull_161 n) := s_rZ dX12_isFull_161 (Nat.le_of_ble_eq_true rfl) (Nat.le_of_ble_eq_true rfl)
def kX12_isFull_156 (n : Nat) : mK := i_cst (.int (1)) ((kX12_isFull_161 n))
set_option maxRecDepth 20000 in
theorem okX12_isFull_156 {E : mE} {X : State → Heap → Prop} {l : Launch} (hX : mXok E X) (n : Nat) : Sd E X l yX12_isFull cX12_isFull 1 (some .boolean) 2 0 0 0 0 156 (kX12_isFull_156 n) := s_iconst dX12_isFull_156 (by decide) (s_goto dX12_isFull_157 (by decide) (okX12_isFull_161 hX n))
def kX12_isFull_140 (n : Nat) : mK := i_ldA 0 (i_gA 12 18 (i_ldA 0 (i_gI 12 32 (i_al 0 (i_cst (.int (3)) (i_cS 2 (FX12_bit n) (i_c0 (fun x => decide (x = 0)) (i_cst (.int (0)) (kX12_isFull_161 n)) (kX12_isFull_156 n))))))))
set_option maxRecDepth 20000 in
theorem okX12_isFull_140 {E : mE} {X : State → Heap → Prop} {l : Launch} (hX : mXok E X) (n : Nat) : Sd E X l yX12_isFull cX12_isFull 1 (some .boolean) 2 0 0 0 0 140 (kX12_isFull_140 n) := s_aload_n dX12_isFull_140 rfl (s_gA dX12_isFull_141 lFX12_42 (s_aload_n dX12_isFull_144 rfl (s_gI dX12_isFull_145 lFX12_246 (by decide) (s_iald dX12_isFull_148 (s_iconst dX12_isFull_149 (by decide) (s_cS dX12_isFull_150 lMX12_261 bSX12_bit (CtX12_bit hX n) (Nat.le_of_ble_eq_true rfl) (s_ifeq dX12_isFull_153 (by decide) (s_iconst dX12_isFull_160 (by decide) (okX12_isFull_161 hX n)) (okX12_isFull_156 hX n)) (Nat.le_of_ble_eq_true rfl) (Nat.le_of_ble_eq_true rfl)))))))
def kX12_isFull_0 (n : Nat) : mK := i_ldA 0 (i_cst (.long (126943972648308)) (i_cV 12 1 (FX12_isWord n) (i_c0 (fun x => decide (x = 0)) (i_ldA 0 (i_cst (.long (6513010)) (i_cV 12 1 (FX12_isWord n) (i_c0 (fun x => decide (x = 0)) (i_ldA 0 (i_cst (.long (32492108151877235)) (i_cV 12 1 (FX12_isWord n) (i_c0 (fun x => decide (x = 0)) (i_ldA 0 (i_cst (.long (512970880104)) (i_cV 12 1 (FX12_isWord n) (i_c0 (fun x => decide (x = 0)) (i_ldA 0 (i_cst (.long (108243466677107)) (i_cV 12 1 (FX12_isWord n) (i_c0 (fun x => decide (x = 0)) (i_ldA 0 (i_cst (.long (1685217655)) (i_cV 12 1 (FX12_isWord n) (i_c0 (fun x => decide (x = 0)) (kX12_isFull_156 n) (kX12_isFull_140 n))))) (i_ldA 0 (i_gA 12 18 (i_ldA 0 (i_gI 12 32 (kX12_isFull_124 n))))))))) (i_ldA 0 (i_gA 12 18 (i_ldA 0 (i_gI 12 32 (i_al 0 (i_cst (.int (1)) (i_cS 2 (FX12_bit n) (i_rZ)))))))))))) (i_ldA 0 (i_gA 12 18 (i_ldA 0 (i_gI 12 32 (i_al 0 (i_cst (.int (0)) (i_cS 2 (FX12_bit n) (i_rZ)))))))))))) (i_ldA 0 (i_gA 12 14 (i_ldA 0 (i_gI 12 32 (i_al 0 (i_cst (.int (8)) (i_c2 (fun x y => decide (¬ x = y)) (i_cst (.int (0)) (kX12_isFull_57 n)) (i_cst (.int (1)) ((kX12_isFull_57 n)))))))))))))) (i_ldA 0 (i_gA 12 13 (i_ldA 0 (i_gI 12 32 (i_al 0 (i_c0 (fun x => decide (x ≤ 0)) (i_cst (.int (0)) (kX12_isFull_27 n)) (i_cst (.int (1)) ((kX12_isFull_27 n))))))))))))
set_option maxRecDepth 20000 in
theorem okX12_isFull_0 {E : mE} {X : State → Heap → Prop} {l : Launch} (hX : mXok E X) (n : Nat) : Sd E X l yX12_isFull cX12_isFull 1 (some .boolean) 2 0 0 0 0 0 (kX12_isFull_0 n) := s_aload_n dX12_isFull_0 rfl (s_ldc2 dX12_isFull_1 lCX12_149 (s_cV dX12_isFull_4 lMX12_235 bVX12_isWord rfl (CtX12_isWord hX n) (Nat.le_of_ble_eq_true rfl) (s_ifeq dX12_isFull_7 (by decide) (s_aload_n dX12_isFull_28 rfl (s_ldc2 dX12_isFull_29 lCX12_153 (s_cV dX12_isFull_32 lMX12_235 bVX12_isWord rfl (CtX12_isWord hX n) (Nat.le_of_ble_eq_true rfl) (s_ifeq dX12_isFull_35 (by decide) (s_aload_n dX12_isFull_58 rfl (s_ldc2 dX12_isFull_59 lCX12_163 (s_cV dX12_isFull_62 lMX12_235 bVX12_isWord rfl (CtX12_isWord hX n) (Nat.le_of_ble_eq_true rfl) (s_ifeq dX12_isFull_65 (by decide) (s_aload_n dX12_isFull_82 rfl (s_ldc2 dX12_isFull_83 lCX12_165 (s_cV dX12_isFull_86 lMX12_235 bVX12_isWord rfl (CtX12_isWord hX n) (Nat.le_of_ble_eq_true rfl) (s_ifeq dX12_isFull_89 (by decide) (s_aload_n dX12_isFull_106 rfl (s_ldc2 dX12_isFull_107 lCX12_167 (s_cV dX12_isFull_110 lMX12_235 bVX12_isWord rfl (CtX12_isWord hX n) (Nat.le_of_ble_eq_true rfl) (s_ifeq dX12_isFull_113 (by decide) (s_aload_n dX12_isFull_130 rfl (s_ldc2 dX12_isFull_131 lCX12_169 (s_cV dX12_isFull_134 lMX12_235 bVX12_isWord rfl (CtX12_isWord hX n) (Nat.le_of_ble_eq_true rfl) (s_ifeq dX12_isFull_137 (by decide) (okX12_isFull_156 hX n) (okX12_isFull_140 hX n)) (Nat.le_of_ble_eq_true rfl) (Nat.le_of_ble_eq_true rfl)))) (s_aload_n dX12_isFull_116 rfl (s_gA dX12_isFull_117 lFX12_42 (s_aload_n dX12_isFull_120 rfl (s_gI dX12_isFull_121 lFX12_246 (by decide) (okX12_isFull_124 hX n)))))) (Nat.le_of_ble_eq_true rfl) (Nat.le_of_ble_eq_true rfl)))) (s_aload_n dX12_isFull_92 rfl (s_gA dX12_isFull_93 lFX12_42 (s_aload_n dX12_isFull_96 rfl (s_gI dX12_isFull_97 lFX12_246 (by decide) (s_iald dX12_isFull_100 (s_iconst dX12_isFull_101 (by decide) (s_cS dX12_isFull_102 lMX12_261 bSX12_bit (CtX12_bit hX n) (Nat.le_of_ble_eq_true rfl) (s_rZ dX12_isFull_105 (Nat.le_of_ble_eq_true rfl) (Nat.le_of_ble_eq_true rfl)) (Nat.le_of_ble_eq_true rfl) (Nat.le_of_ble_eq_true rfl))))))))) (Nat.le_of_ble_eq_true rfl) (Nat.le_of_ble_eq_true rfl)))) (s_aload_n dX12_isFull_68 rfl (s_gA dX12_isFull_69 lFX12_42 (s_aload_n dX12_isFull_72 rfl (s_gI dX12_isFull_73 lFX12_246 (by decide) (s_iald dX12_isFull_76 (s_iconst dX12_isFull_77 (by decide) (s_cS dX12_isFull_78 lMX12_261 bSX12_bit (CtX12_bit hX n) (Nat.le_of_ble_eq_true rfl) (s_rZ dX12_isFull_81 (Nat.le_of_ble_eq_true rfl) (Nat.le_of_ble_eq_true rfl)) (Nat.le_of_ble_eq_true rfl) (Nat.le_of_ble_eq_true rfl))))))))) (Nat.le_of_ble_eq_true rfl) (Nat.le_of_ble_eq_true rfl)))) (s_aload_n dX12_isFull_38 rfl (s_gA dX12_isFull_39 lFX12_30 (s_aload_n dX12_isFull_42 rfl (s_gI dX12_isFull_43 lFX12_246 (by decide) (s_iald dX12_isFull_46 (s_bipush dX12_isFull_47 (by decide) (s_icne dX12_isFull_49 (by decide) (s_iconst dX12_isFull_56 (by decide) (okX12_isFull_57 hX n)) (s_iconst dX12_isFull_52 (by decide) (s_goto dX12_isFull_53 (by decide) (okX12_isFull_57 hX n))))))))))) (Nat.le_of_ble_eq_true rfl) (Nat.le_of_ble_eq_true rfl)))) (s_aload_n dX12_isFull_10 rfl (s_gA dX12_isFull_11 lFX12_27 (s_aload_n dX12_isFull_14 rfl (s_gI dX12_isFull_15 lFX12_246 (by decide) (s_iald dX12_isFull_18 (s_ifle dX12_isFull_19 (by decide) (s_iconst dX12_isFull_26 (by decide) (okX12_isFull_27 hX n)) (s_iconst dX12_isFull_22 (by decide) (s_goto dX12_isFull_23 (by decide) (okX12_isFull_27 hX n)))))))))) (Nat.le_of_ble_eq_true rfl) (Nat.le_of_ble_eq_true rfl)))
def FX12_isFull (n : Nat) : List Value → mM → Option mR := mfn 1 (kX12_isFull_0 n)
theorem CtX12_isFull {E : mE} {X : State → Heap → Prop} {l : Launch} (hX : mXok E X) (n : Nat) : Ct E X l yX12_isFull cX12_isFull 1 (some .boolean) 2 0 0 (FX12_isFull n) := Ct_of (by decide) hX (okX12_isFull_0 hX n)
theorem dX12_isRing_0 : decode cX12_isRing 0 = .ok (.iconst 0, 1) := by decide +kernel
theorem dX12_isRing_1 : decode cX12_isRing 1 = .ok (.istore_n 2, 1) := by decide +kernel
theorem dX12_isRing_2 : decode cX12_isRing 2 = .ok (.iload_n 2, 1) := by decide +kernel
theorem dX12_isRing_3 : decode cX12_isRing 3 = .ok (.aload_n 0, 1) := by decide +kernel
theorem dX12_isRing_4 : decode cX12_isRing 4 = .ok (.invokevirtual 341, 3) := by decide +kernel
theorem dX12_isRing_7 : decode cX12_isRing 7 = .ok (.if_icmp .ge 30, 3) := by decide +kernel
theorem dX12_isRing_10 : decode cX12_isRing 10 = .ok (.iload_n 1, 1) := by decide +kernel
theorem dX12_isRing_11 : decode cX12_isRing 11 = .ok (.iload_n 2, 1) := by decide +kernel
theorem dX12_isRing_12 : decode cX12_isRing 12 = .ok (.invokestatic 261, 3) := by decide +kernel
theorem dX12_isRing_15 : decode cX12_isRing 15 = .ok (.ifCond .eq 16, 3) := by decide +kernel
theorem dX12_isRing_18 : decode cX12_isRing 18 = .ok (.aload_n 0, 1) := by decide +kernel
theorem dX12_isRing_19 : decode cX12_isRing 19 = .ok (.getfield 100, 3) := by decide +kernel
theorem dX12_isRing_22 : decode cX12_isRing 22 = .ok (.iload_n 2, 1) := by decide +kernel
theorem dX12_isRing_23 : decode cX12_isRing 23 = .ok (.iaload, 1) := by decide +kernel
theorem dX12_isRing_24 : decode cX12_isRing 24 = .ok (.iload_n 1, 1) := by decide +kernel
theorem dX12_isRing_25 : decode cX12_isRing 25 = .ok (.iand, 1) := by decide +kernel
theorem dX12_isRing_26 : decode cX12_isRing 26 = .ok (.ifCond .ne 5, 3) := by decide +kernel
theorem dX12_isRing_29 : decode cX12_isRing 29 = .ok (.iconst 0, 1) := by decide +kernel
theorem dX12_isRing_30 : decode cX12_isRing 30 = .ok (.ireturn, 1) := by decide +kernel
theorem dX12_isRing_31 : decode cX12_isRing 31 = .ok (.iinc 2 1, 3) := by decide +kernel
theorem dX12_isRing_34 : decode cX12_isRing 34 = .ok (.goto (-32), 3) := by decide +kernel
theorem dX12_isRing_37 : decode cX12_isRing 37 = .ok (.iconst 1, 1) := by decide +kernel
theorem dX12_isRing_38 : decode cX12_isRing 38 = .ok (.ireturn, 1) := by decide +kernel
def kX12_isRing_31 (n : Nat) (r2 : mK) : mK := i_inc 2 (1) (r2)
set_option maxRecDepth 20000 in
theorem okX12_isRing_31 {E : mE} {X : State → Heap → Prop} {l : Launch} (hX : mXok E X) (n : Nat) {r2 : mK} (h2 : Sd E X l yX12_isRing cX12_isRing 3 (some .boolean) 2 0 0 0 0 2 r2) : Sd E X l yX12_isRing cX12_isRing 3 (some .boolean) 2 0 0 0 0 31 (kX12_isRing_31 n r2) := s_iinc dX12_isRing_31 (by decide) (s_goto dX12_isRing_34 (by decide) h2)
def kX12_isRing_2 (n : Nat) (r2 : mK) : mK := i_ldI 2 (i_ldA 0 (i_cV 12 0 (FX12_many n) (i_c2 (fun x y => decide (y ≤ x)) (i_cst (.int (1)) (i_rZ)) (i_ldI 1 (i_ldI 2 (i_cS 2 (FX12_bit n) (i_c0 (fun x => decide (x = 0)) (kX12_isRing_31 n r2) (i_ldA 0 (i_gA 12 47 (i_ldI 2 (i_al 0 (i_ldI 1 (i_bin (fun x y => x &&& y) (i_c0 (fun x => decide (¬ x = 0)) (kX12_isRing_31 n r2) (i_cst (.int (0)) (i_rZ))))))))))))))))
set_option maxRecDepth 20000 in
theorem okX12_isRing_2 {E : mE} {X : State → Heap → Prop} {l : Launch} (hX : mXok E X) (n : Nat) {r2 : mK} (h2 : Sd E X l yX12_isRing cX12_isRing 3 (some .boolean) 2 0 0 0 0 2 r2) : Sd E X l yX12_isRing cX12_isRing 3 (some .boolean) 2 0 0 0 0 2 (kX12_isRing_2 n r2) := s_iload_n dX12_isRing_2 rfl (s_aload_n dX12_isRing_3 rfl (s_cV dX12_isRing_4 lMX12_341 bVX12_many rfl (CtX12_many hX n) (Nat.le_of_ble_eq_true rfl) (s_icge dX12_isRing_7 (by decide) (s_iconst dX12_isRing_37 (by decide) (s_rZ dX12_isRing_38 (Nat.le_of_ble_eq_true rfl) (Nat.le_of_ble_eq_true rfl))) (s_iload_n dX12_isRing_10 rfl (s_iload_n dX12_isRing_11 rfl (s_cS dX12_isRing_12 lMX12_261 bSX12_bit (CtX12_bit hX n) (Nat.le_of_ble_eq_true rfl) (s_ifeq dX12_isRing_15 (by decide) (okX12_isRing_31 hX n h2) (s_aload_n dX12_isRing_18 rfl (s_gA dX12_isRing_19 lFX12_100 (s_iload_n dX12_isRing_22 rfl (s_iald dX12_isRing_23 (s_iload_n dX12_isRing_24 rfl (s_iand dX12_isRing_25 (s_ifne dX12_isRing_26 (by decide) (okX12_isRing_31 hX n h2) (s_iconst dX12_isRing_29 (by decide) (s_rZ dX12_isRing_30 (Nat.le_of_ble_eq_true rfl) (Nat.le_of_ble_eq_true rfl))))))))))) (Nat.le_of_ble_eq_true rfl) (Nat.le_of_ble_eq_true rfl))))) (Nat.le_of_ble_eq_true rfl) (Nat.le_of_ble_eq_true rfl)))
def kX12_isRing_0 (n : Nat) : mK := i_cst (.int (0)) (i_stI 2 (mit (kX12_isRing_2 n ) n))
set_option maxRecDepth 20000 in
theorem okX12_isRing_0 {E : mE} {X : State → Heap → Prop} {l : Launch} (hX : mXok E X) (n : Nat) : Sd E X l yX12_isRing cX12_isRing 3 (some .boolean) 2 0 0 0 0 0 (kX12_isRing_0 n) := s_iconst dX12_isRing_0 (by decide) (s_istore_n dX12_isRing_1 rfl (s_mit (fun _ hk => okX12_isRing_2 hX n hk) n))
def FX12_isRing (n : Nat) : List Value → mM → Option mR := mfn 3 (kX12_isRing_0 n)
theorem CtX12_isRing {E : mE} {X : State → Heap → Prop} {l : Launch} (hX : mXok E X) (n : Nat) : Ct E X l yX12_isRing cX12_isRing 3 (some .boolean) 2 0 0 (FX12_isRing n) := Ct_of (by decide) hX (okX12_isRing_0 hX n)
theorem dX12_isSignHere_0 : decode cX12_isSignHere 0 = .ok (.aload_n 0, 1) := by decide +kernel
theorem dX12_isSignHere_1 : decode cX12_isSignHere 1 = .ok (.getfield 197, 3) := by decide +kernel
theorem dX12_isSignHere_4 : decode cX12_isSignHere 4 = .ok (.iconst 5, 1) := by decide +kernel
theorem dX12_isSignHere_5 : decode cX12_isSignHere 5 = .ok (.if_icmp .ne 19, 3) := by decide +kernel
theorem dX12_isSignHere_8 : decode cX12_isSignHere 8 = .ok (.aload_n 0, 1) := by decide +kernel
theorem dX12_isSignHere_9 : decode cX12_isSignHere 9 = .ok (.aload_n 0, 1) := by decide +kernel
theorem dX12_isSignHere_10 : decode cX12_isSignHere 10 = .ok (.getfield 190, 3) := by decide +kernel
theorem dX12_isSignHere_13 : decode cX12_isSignHere 13 = .ok (.invokevirtual 193, 3) := by decide +kernel
theorem dX12_isSignHere_16 : decode cX12_isSignHere 16 = .ok (.iload_n 1, 1) := by decide +kernel
theorem dX12_isSignHere_17 : decode cX12_isSignHere 17 = .ok (.if_icmp .ne 7, 3) := by decide +kernel
theorem dX12_isSignHere_20 : decode cX12_isSignHere 20 = .ok (.iconst 1, 1) := by decide +kernel
theorem dX12_isSignHere_21 : decode cX12_isSignHere 21 = .ok (.goto 4, 3) := by decide +kernel
theorem dX12_isSignHere_24 : decode cX12_isSignHere 24 = .ok (.iconst 0, 1) := by decide +kernel
theorem dX12_isSignHere_25 : decode cX12_isSignHere 25 = .ok (.ireturn, 1) := by decide +kernel
def kX12_isSignHere_25 (n : Nat) : mK := i_rZ
set_option maxRecDepth 20000 in
theorem okX12_isSignHere_25 {E : mE} {X : State → Heap → Prop} {l : Launch} (hX : mXok E X) (n : Nat) : Sd E X l yX12_isSignHere cX12_isSignHere 2 (some .boolean) 2 0 0 0 0 25 (kX12_isSignHere_25 n) := s_rZ dX12_isSignHere_25 (Nat.le_of_ble_eq_true rfl) (Nat.le_of_ble_eq_true rfl)
def kX12_isSignHere_24 (n : Nat) : mK := i_cst (.int (0)) (kX12_isSignHere_25 n)
set_option maxRecDepth 20000 in
theorem okX12_isSignHere_24 {E : mE} {X : State → Heap → Prop} {l : Launch} (hX : mXok E X) (n : Nat) : Sd E X l yX12_isSignHere cX12_isSignHere 2 (some .boolean) 2 0 0 0 0 24 (kX12_isSignHere_24 n) := s_iconst dX12_isSignHere_24 (by decide) (okX12_isSignHere_25 hX n)
def kX12_isSignHere_0 (n : Nat) : mK := i_ldA 0 (i_gI 12 8 (i_cst (.int (5)) (i_c2 (fun x y => decide (¬ x = y)) (kX12_isSignHere_24 n) (i_ldA 0 (i_ldA 0 (i_gI 12 6 (i_cV 12 1 (FX12_sign n) (i_ldI 1 (i_c2 (fun x y => decide (¬ x = y)) (kX12_isSignHere_24 n) (i_cst (.int (1)) ((kX12_isSignHere_25 n))))))))))))
set_option maxRecDepth 20000 in
theorem okX12_isSignHere_0 {E : mE} {X : State → Heap → Prop} {l : Launch} (hX : mXok E X) (n : Nat) : Sd E X l yX12_isSignHere cX12_isSignHere 2 (some .boolean) 2 0 0 0 0 0 (kX12_isSignHere_0 n) := s_aload_n dX12_isSignHere_0 rfl (s_gI dX12_isSignHere_1 lFX12_197 (by decide) (s_iconst dX12_isSignHere_4 (by decide) (s_icne dX12_isSignHere_5 (by decide) (okX12_isSignHere_24 hX n) (s_aload_n dX12_isSignHere_8 rfl (s_aload_n dX12_isSignHere_9 rfl (s_gI dX12_isSignHere_10 lFX12_190 (by decide) (s_cV dX12_isSignHere_13 lMX12_193 bVX12_sign rfl (CtX12_sign hX n) (Nat.le_of_ble_eq_true rfl) (s_iload_n dX12_isSignHere_16 rfl (s_icne dX12_isSignHere_17 (by decide) (okX12_isSignHere_24 hX n) (s_iconst dX12_isSignHere_20 (by decide) (s_goto dX12_isSignHere_21 (by decide) (okX12_isSignHere_25 hX n))))) (Nat.le_of_ble_eq_true rfl) (Nat.le_of_ble_eq_true rfl))))))))
def FX12_isSignHere (n : Nat) : List Value → mM → Option mR := mfn 2 (kX12_isSignHere_0 n)
theorem CtX12_isSignHere {E : mE} {X : State → Heap → Prop} {l : Launch} (hX : mXok E X) (n : Nat) : Ct E X l yX12_isSignHere cX12_isSignHere 2 (some .boolean) 2 0 0 (FX12_isSignHere n) := Ct_of (by decide) hX (okX12_isSignHere_0 hX n)
theorem dX12_isSpot_0 : decode cX12_isSpot 0 = .ok (.iload_n 1, 1) := by decide +kernel
theorem dX12_isSpot_1 : decode cX12_isSpot 1 = .ok (.iconst 0, 1) := by decide +kernel
theorem dX12_isSpot_2 : decode cX12_isSpot 2 = .ok (.aload_n 0, 1) := by decide +kernel
theorem dX12_isSpot_3 : decode cX12_isSpot 3 = .ok (.invokevirtual 351, 3) := by decide +kernel
theorem dX12_isSpot_6 : decode cX12_isSpot 6 = .ok (.iconst 1, 1) := by decide +kernel
theorem dX12_isSpot_7 : decode cX12_isSpot 7 = .ok (.isub, 1) := by decide +kernel
theorem dX12_isSpot_8 : decode cX12_isSpot 8 = .ok (.invokestatic 344, 3) := by decide +kernel
theorem dX12_isSpot_11 : decode cX12_isSpot 11 = .ok (.ireturn, 1) := by decide +kernel
def kX12_isSpot_0 (n : Nat) : mK := i_ldI 1 (i_cst (.int (0)) (i_ldA 0 (i_cV 12 0 (FX12_spots n) (i_cst (.int (1)) (i_bin (fun x y => x - y) (i_cS 3 (FX12_isIn n) (i_rZ)))))))
set_option maxRecDepth 20000 in
theorem okX12_isSpot_0 {E : mE} {X : State → Heap → Prop} {l : Launch} (hX : mXok E X) (n : Nat) : Sd E X l yX12_isSpot cX12_isSpot 2 (some .boolean) 2 0 0 0 0 0 (kX12_isSpot_0 n) := s_iload_n dX12_isSpot_0 rfl (s_iconst dX12_isSpot_1 (by decide) (s_aload_n dX12_isSpot_2 rfl (s_cV dX12_isSpot_3 lMX12_351 bVX12_spots rfl (CtX12_spots hX n) (Nat.le_of_ble_eq_true rfl) (s_iconst dX12_isSpot_6 (by decide) (s_isub dX12_isSpot_7 (s_cS dX12_isSpot_8 lMX12_344 bSX12_isIn (CtX12_isIn hX n) (Nat.le_of_ble_eq_true rfl) (s_rZ dX12_isSpot_11 (Nat.le_of_ble_eq_true rfl) (Nat.le_of_ble_eq_true rfl)) (Nat.le_of_ble_eq_true rfl) (Nat.le_of_ble_eq_true rfl)))) (Nat.le_of_ble_eq_true rfl) (Nat.le_of_ble_eq_true rfl))))
def FX12_isSpot (n : Nat) : List Value → mM → Option mR := mfn 2 (kX12_isSpot_0 n)
theorem CtX12_isSpot {E : mE} {X : State → Heap → Prop} {l : Launch} (hX : mXok E X) (n : Nat) : Ct E X l yX12_isSpot cX12_isSpot 2 (some .boolean) 2 0 0 (FX12_isSpot n) := Ct_of (by decide) hX (okX12_isSpot_0 hX n)
theorem dX12_later_0 : decode cX12_later 0 = .ok (.iload_n 1, 1) := by decide +kernel
theorem dX12_later_1 : decode cX12_later 1 = .ok (.iconst 0, 1) := by decide +kernel
theorem dX12_later_2 : decode cX12_later 2 = .ok (.sipush 1000, 3) := by decide +kernel
theorem dX12_later_5 : decode cX12_later 5 = .ok (.invokestatic 344, 3) := by decide +kernel
theorem dX12_later_8 : decode cX12_later 8 = .ok (.ifCond .eq 15, 3) := by decide +kernel
theorem dX12_later_11 : decode cX12_later 11 = .ok (.aload_n 0, 1) := by decide +kernel
theorem dX12_later_12 : decode cX12_later 12 = .ok (.getfield 477, 3) := by decide +kernel
theorem dX12_later_15 : decode cX12_later 15 = .ok (.iload_n 1, 1) := by decide +kernel
theorem dX12_later_16 : decode cX12_later 16 = .ok (.iadd, 1) := by decide +kernel
theorem dX12_later_17 : decode cX12_later 17 = .ok (.ldc_w 480, 3) := by decide +kernel
theorem dX12_later_20 : decode cX12_later 20 = .ok (.if_icmp .le 5, 3) := by decide +kernel
theorem dX12_later_23 : decode cX12_later 23 = .ok (.iconst (-1), 1) := by decide +kernel
theorem dX12_later_24 : decode cX12_later 24 = .ok (.ireturn, 1) := by decide +kernel
theorem dX12_later_25 : decode cX12_later 25 = .ok (.aload_n 0, 1) := by decide +kernel
theorem dX12_later_26 : decode cX12_later 26 = .ok (.dup, 1) := by decide +kernel
theorem dX12_later_27 : decode cX12_later 27 = .ok (.getfield 477, 3) := by decide +kernel
theorem dX12_later_30 : decode cX12_later 30 = .ok (.iload_n 1, 1) := by decide +kernel
theorem dX12_later_31 : decode cX12_later 31 = .ok (.iadd, 1) := by decide +kernel
theorem dX12_later_32 : decode cX12_later 32 = .ok (.putfield 477, 3) := by decide +kernel
theorem dX12_later_35 : decode cX12_later 35 = .ok (.aload_n 0, 1) := by decide +kernel
theorem dX12_later_36 : decode cX12_later 36 = .ok (.getfield 477, 3) := by decide +kernel
theorem dX12_later_39 : decode cX12_later 39 = .ok (.ireturn, 1) := by decide +kernel
def kX12_later_23 (n : Nat) : mK := i_cst (.int (-1)) (i_rI)
set_option maxRecDepth 20000 in
theorem okX12_later_23 {E : mE} {X : State → Heap → Prop} {l : Launch} (hX : mXok E X) (n : Nat) : Sd E X l yX12_later cX12_later 2 (some .int) 2 0 0 0 0 23 (kX12_later_23 n) := s_iconst dX12_later_23 (by decide) (s_rI dX12_later_24 (Nat.le_of_ble_eq_true rfl) (Nat.le_of_ble_eq_true rfl))
def kX12_later_0 (n : Nat) : mK := i_ldI 1 (i_cst (.int (0)) (i_cst (.int (1000)) (i_cS 3 (FX12_isIn n) (i_c0 (fun x => decide (x = 0)) (kX12_later_23 n) (i_ldA 0 (i_gI 12 58 (i_ldI 1 (i_bin (fun x y => x + y) (i_cst (.int (100000)) (i_c2 (fun x y => decide (x ≤ y)) (i_ldA 0 (i_dup (i_gI 12 58 (i_ldI 1 (i_bin (fun x y => x + y) (i_pI 12 58 (i_ldA 0 (i_gI 12 58 (i_rI))))))))) (kX12_later_23 n)))))))))))
set_option maxRecDepth 20000 in
theorem okX12_later_0 {E : mE} {X : State → Heap → Prop} {l : Launch} (hX : mXok E X) (n : Nat) : Sd E X l yX12_later cX12_later 2 (some .int) 2 0 0 0 0 0 (kX12_later_0 n) := s_iload_n dX12_later_0 rfl (s_iconst dX12_later_1 (by decide) (s_sipush dX12_later_2 (by decide) (s_cS dX12_later_5 lMX12_344 bSX12_isIn (CtX12_isIn hX n) (Nat.le_of_ble_eq_true rfl) (s_ifeq dX12_later_8 (by decide) (okX12_later_23 hX n) (s_aload_n dX12_later_11 rfl (s_gI dX12_later_12 lFX12_477 (by decide) (s_iload_n dX12_later_15 rfl (s_iadd dX12_later_16 (s_ldcw dX12_later_17 lCX12_480 (s_icle dX12_later_20 (by decide) (s_aload_n dX12_later_25 rfl (s_dup dX12_later_26 (s_gI dX12_later_27 lFX12_477 (by decide) (s_iload_n dX12_later_30 rfl (s_iadd dX12_later_31 (s_pI dX12_later_32 lFX12_477 (s_aload_n dX12_later_35 rfl (s_gI dX12_later_36 lFX12_477 (by decide) (s_rI dX12_later_39 (Nat.le_of_ble_eq_true rfl) (Nat.le_of_ble_eq_true rfl)))))))))) (okX12_later_23 hX n)))))))) (Nat.le_of_ble_eq_true rfl) (Nat.le_of_ble_eq_true rfl))))
def FX12_later (n : Nat) : List Value → mM → Option mR := mfn 2 (kX12_later_0 n)
theorem CtX12_later {E : mE} {X : State → Heap → Prop} {l : Launch} (hX : mXok E X) (n : Nat) : Ct E X l yX12_later cX12_later 2 (some .int) 2 0 0 (FX12_later n) := Ct_of (by decide) hX (okX12_later_0 hX n)
theorem dX12_layFitting_0 : decode cX12_layFitting 0 = .ok (.aload_n 0, 1) := by decide +kernel
theorem dX12_layFitting_1 : decode cX12_layFitting 1 = .ok (.iconst 0, 1) := by decide +kernel
theorem dX12_layFitting_2 : decode cX12_layFitting 2 = .ok (.putfield 490, 3) := by decide +kernel
theorem dX12_layFitting_5 : decode cX12_layFitting 5 = .ok (.iconst 0, 1) := by decide +kernel
theorem dX12_layFitting_6 : decode cX12_layFitting 6 = .ok (.istore_n 2, 1) := by decide +kernel
theorem dX12_layFitting_7 : decode cX12_layFitting 7 = .ok (.iload_n 2, 1) := by decide +kernel
theorem dX12_layFitting_8 : decode cX12_layFitting 8 = .ok (.bipush 99, 2) := by decide +kernel
theorem dX12_layFitting_10 : decode cX12_layFitting 10 = .ok (.if_icmp .gt 41, 3) := by decide +kernel
theorem dX12_layFitting_13 : decode cX12_layFitting 13 = .ok (.aload_n 0, 1) := by decide +kernel
theorem dX12_layFitting_14 : decode cX12_layFitting 14 = .ok (.iload_n 2, 1) := by decide +kernel
theorem dX12_layFitting_15 : decode cX12_layFitting 15 = .ok (.iload_n 1, 1) := by decide +kernel
theorem dX12_layFitting_16 : decode cX12_layFitting 16 = .ok (.invokevirtual 484, 3) := by decide +kernel
theorem dX12_layFitting_19 : decode cX12_layFitting 19 = .ok (.ifCond .ne 6, 3) := by decide +kernel
theorem dX12_layFitting_22 : decode cX12_layFitting 22 = .ok (.goto 23, 3) := by decide +kernel
theorem dX12_layFitting_25 : decode cX12_layFitting 25 = .ok (.aload_n 0, 1) := by decide +kernel
theorem dX12_layFitting_26 : decode cX12_layFitting 26 = .ok (.getfield 127, 3) := by decide +kernel
theorem dX12_layFitting_29 : decode cX12_layFitting 29 = .ok (.aload_n 0, 1) := by decide +kernel
theorem dX12_layFitting_30 : decode cX12_layFitting 30 = .ok (.getfield 490, 3) := by decide +kernel
theorem dX12_layFitting_33 : decode cX12_layFitting 33 = .ok (.iload_n 2, 1) := by decide +kernel
theorem dX12_layFitting_34 : decode cX12_layFitting 34 = .ok (.iastore, 1) := by decide +kernel
theorem dX12_layFitting_35 : decode cX12_layFitting 35 = .ok (.aload_n 0, 1) := by decide +kernel
theorem dX12_layFitting_36 : decode cX12_layFitting 36 = .ok (.dup, 1) := by decide +kernel
theorem dX12_layFitting_37 : decode cX12_layFitting 37 = .ok (.getfield 490, 3) := by decide +kernel
theorem dX12_layFitting_40 : decode cX12_layFitting 40 = .ok (.iconst 1, 1) := by decide +kernel
theorem dX12_layFitting_41 : decode cX12_layFitting 41 = .ok (.iadd, 1) := by decide +kernel
theorem dX12_layFitting_42 : decode cX12_layFitting 42 = .ok (.putfield 490, 3) := by decide +kernel
theorem dX12_layFitting_45 : decode cX12_layFitting 45 = .ok (.iinc 2 1, 3) := by decide +kernel
theorem dX12_layFitting_48 : decode cX12_layFitting 48 = .ok (.goto (-41), 3) := by decide +kernel
theorem dX12_layFitting_51 : decode cX12_layFitting 51 = .ok (.return_, 1) := by decide +kernel
def kX12_layFitting_45 (n : Nat) (r7 : mK) : mK := i_inc 2 (1) (r7)
set_option maxRecDepth 20000 in
theorem okX12_layFitting_45 {E : mE} {X : State → Heap → Prop} {l : Launch} (hX : mXok E X) (n : Nat) {r7 : mK} (h7 : Sd E X l yX12_layFitting cX12_layFitting 3 none 2 0 0 0 0 7 r7) : Sd E X l yX12_layFitting cX12_layFitting 3 none 2 0 0 0 0 45 (kX12_layFitting_45 n r7) := s_iinc dX12_layFitting_45 (by decide) (s_goto dX12_layFitting_48 (by decide) h7)
def kX12_layFitting_7 (n : Nat) (r7 : mK) : mK := i_ldI 2 (i_cst (.int (99)) (i_c2 (fun x y => decide (y < x)) (i_rV) (i_ldA 0 (i_ldI 2 (i_ldI 1 (i_cV 12 2 (FX12_doesFit n) (i_c0 (fun x => decide (¬ x = 0)) (i_ldA 0 (i_gA 12 59 (i_ldA 0 (i_gI 12 60 (i_ldI 2 (i_as 0 (i_ldA 0 (i_dup (i_gI 12 60 (i_cst (.int (1)) (i_bin (fun x y => x + y) (i_pI 12 60 (kX12_layFitting_45 n r7))))))))))))) ((kX12_layFitting_45 n r7)))))))))
set_option maxRecDepth 20000 in
theorem okX12_layFitting_7 {E : mE} {X : State → Heap → Prop} {l : Launch} (hX : mXok E X) (n : Nat) {r7 : mK} (h7 : Sd E X l yX12_layFitting cX12_layFitting 3 none 2 0 0 0 0 7 r7) : Sd E X l yX12_layFitting cX12_layFitting 3 none 2 0 0 0 0 7 (kX12_layFitting_7 n r7) := s_iload_n dX12_layFitting_7 rfl (s_bipush dX12_layFitting_8 (by decide) (s_icgt dX12_layFitting_10 (by decide) (s_rV dX12_layFitting_51 (Nat.le_of_ble_eq_true rfl) (Nat.le_of_ble_eq_true rfl)) (s_aload_n dX12_layFitting_13 rfl (s_iload_n dX12_layFitting_14 rfl (s_iload_n dX12_layFitting_15 rfl (s_cV dX12_layFitting_16 lMX12_484 bVX12_doesFit rfl (CtX12_doesFit hX n) (Nat.le_of_ble_eq_true rfl) (s_ifne dX12_layFitting_19 (by decide) (s_aload_n dX12_layFitting_25 rfl (s_gA dX12_layFitting_26 lFX12_127 (s_aload_n dX12_layFitting_29 rfl (s_gI dX12_layFitting_30 lFX12_490 (by decide) (s_iload_n dX12_layFitting_33 rfl (s_iast dX12_layFitting_34 (s_aload_n dX12_layFitting_35 rfl (s_dup dX12_layFitting_36 (s_gI dX12_layFitting_37 lFX12_490 (by decide) (s_iconst dX12_layFitting_40 (by decide) (s_iadd dX12_layFitting_41 (s_pI dX12_layFitting_42 lFX12_490 (okX12_layFitting_45 hX n h7))))))))))))) (s_goto dX12_layFitting_22 (by decide) (okX12_layFitting_45 hX n h7))) (Nat.le_of_ble_eq_true rfl) (Nat.le_of_ble_eq_true rfl)))))))
def kX12_layFitting_0 (n : Nat) : mK := i_ldA 0 (i_cst (.int (0)) (i_pI 12 60 (i_cst (.int (0)) (i_stI 2 (mit (kX12_layFitting_7 n ) n)))))
set_option maxRecDepth 20000 in
theorem okX12_layFitting_0 {E : mE} {X : State → Heap → Prop} {l : Launch} (hX : mXok E X) (n : Nat) : Sd E X l yX12_layFitting cX12_layFitting 3 none 2 0 0 0 0 0 (kX12_layFitting_0 n) := s_aload_n dX12_layFitting_0 rfl (s_iconst dX12_layFitting_1 (by decide) (s_pI dX12_layFitting_2 lFX12_490 (s_iconst dX12_layFitting_5 (by decide) (s_istore_n dX12_layFitting_6 rfl (s_mit (fun _ hk => okX12_layFitting_7 hX n hk) n)))))
def FX12_layFitting (n : Nat) : List Value → mM → Option mR := mfn 3 (kX12_layFitting_0 n)
theorem CtX12_layFitting {E : mE} {X : State → Heap → Prop} {l : Launch} (hX : mXok E X) (n : Nat) : Ct E X l yX12_layFitting cX12_layFitting 3 none 2 0 0 (FX12_layFitting n) := Ct_of (by decide) hX (okX12_layFitting_0 hX n)
theorem dX12_layTold_0 : decode cX12_layTold 0 = .ok (.iconst 0, 1) := by decide +kernel
theorem dX12_layTold_1 : decode cX12_layTold 1 = .ok (.istore_n 1, 1) := by decide +kernel
theorem dX12_layTold_2 : decode cX12_layTold 2 = .ok (.iload_n 1, 1) := by decide +kernel
theorem dX12_layTold_3 : decode cX12_layTold 3 = .ok (.bipush 34, 2) := by decide +kernel
theorem dX12_layTold_5 : decode cX12_layTold 5 = .ok (.if_icmp .ge 16, 3) := by decide +kernel
theorem dX12_layTold_8 : decode cX12_layTold 8 = .ok (.aload_n 0, 1) := by decide +kernel
theorem dX12_layTold_9 : decode cX12_layTold 9 = .ok (.getfield 82, 3) := by decide +kernel
theorem dX12_layTold_12 : decode cX12_layTold 12 = .ok (.iload_n 1, 1) := by decide +kernel
theorem dX12_layTold_13 : decode cX12_layTold 13 = .ok (.iconst 0, 1) := by decide +kernel
theorem dX12_layTold_14 : decode cX12_layTold 14 = .ok (.iastore, 1) := by decide +kernel
theorem dX12_layTold_15 : decode cX12_layTold 15 = .ok (.iinc 1 1, 3) := by decide +kernel
theorem dX12_layTold_18 : decode cX12_layTold 18 = .ok (.goto (-16), 3) := by decide +kernel
theorem dX12_layTold_21 : decode cX12_layTold 21 = .ok (.iconst 0, 1) := by decide +kernel
theorem dX12_layTold_22 : decode cX12_layTold 22 = .ok (.istore_n 1, 1) := by decide +kernel
theorem dX12_layTold_23 : decode cX12_layTold 23 = .ok (.iload_n 1, 1) := by decide +kernel
theorem dX12_layTold_24 : decode cX12_layTold 24 = .ok (.bipush 8, 2) := by decide +kernel
theorem dX12_layTold_26 : decode cX12_layTold 26 = .ok (.if_icmp .ge 146, 3) := by decide +kernel
theorem dX12_layTold_29 : decode cX12_layTold 29 = .ok (.iload_n 1, 1) := by decide +kernel
theorem dX12_layTold_30 : decode cX12_layTold 30 = .ok (.aload_n 0, 1) := by decide +kernel
theorem dX12_layTold_31 : decode cX12_layTold 31 = .ok (.invokevirtual 341, 3) := by decide +kernel
theorem dX12_layTold_34 : decode cX12_layTold 34 = .ok (.if_icmp .ge 7, 3) := by decide +kernel
theorem dX12_layTold_37 : decode cX12_layTold 37 = .ok (.iconst 1, 1) := by decide +kernel
theorem dX12_layTold_38 : decode cX12_layTold 38 = .ok (.goto 4, 3) := by decide +kernel
theorem dX12_layTold_41 : decode cX12_layTold 41 = .ok (.iconst 0, 1) := by decide +kernel
theorem dX12_layTold_42 : decode cX12_layTold 42 = .ok (.istore_n 2, 1) := by decide +kernel
theorem dX12_layTold_43 : decode cX12_layTold 43 = .ok (.aload_n 0, 1) := by decide +kernel
theorem dX12_layTold_44 : decode cX12_layTold 44 = .ok (.getfield 82, 3) := by decide +kernel
theorem dX12_layTold_47 : decode cX12_layTold 47 = .ok (.iconst 0, 1) := by decide +kernel
theorem dX12_layTold_48 : decode cX12_layTold 48 = .ok (.iload_n 1, 1) := by decide +kernel
theorem dX12_layTold_49 : decode cX12_layTold 49 = .ok (.iadd, 1) := by decide +kernel
theorem dX12_layTold_50 : decode cX12_layTold 50 = .ok (.iload_n 2, 1) := by decide +kernel
theorem dX12_layTold_51 : decode cX12_layTold 51 = .ok (.ifCond .eq 20, 3) := by decide +kernel
theorem dX12_layTold_54 : decode cX12_layTold 54 = .ok (.aload_n 0, 1) := by decide +kernel
theorem dX12_layTold_55 : decode cX12_layTold 55 = .ok (.getfield 45, 3) := by decide +kernel
theorem dX12_layTold_58 : decode cX12_layTold 58 = .ok (.bipush 8, 2) := by decide +kernel
theorem dX12_layTold_60 : decode cX12_layTold 60 = .ok (.aload_n 0, 1) := by decide +kernel
theorem dX12_layTold_61 : decode cX12_layTold 61 = .ok (.getfield 255, 3) := by decide +kernel
theorem dX12_layTold_64 : decode cX12_layTold 64 = .ok (.imul, 1) := by decide +kernel
theorem dX12_layTold_65 : decode cX12_layTold 65 = .ok (.iload_n 1, 1) := by decide +kernel
theorem dX12_layTold_66 : decode cX12_layTold 66 = .ok (.iadd, 1) := by decide +kernel
theorem dX12_layTold_67 : decode cX12_layTold 67 = .ok (.iaload, 1) := by decide +kernel
theorem dX12_layTold_68 : decode cX12_layTold 68 = .ok (.goto 4, 3) := by decide +kernel
theorem dX12_layTold_71 : decode cX12_layTold 71 = .ok (.iconst (-1), 1) := by decide +kernel
theorem dX12_layTold_72 : decode cX12_layTold 72 = .ok (.iastore, 1) := by decide +kernel
theorem dX12_layTold_73 : decode cX12_layTold 73 = .ok (.aload_n 0, 1) := by decide +kernel
theorem dX12_layTold_74 : decode cX12_layTold 74 = .ok (.getfield 82, 3) := by decide +kernel
theorem dX12_layTold_77 : decode cX12_layTold 77 = .ok (.bipush 8, 2) := by decide +kernel
theorem dX12_layTold_79 : decode cX12_layTold 79 = .ok (.iload_n 1, 1) := by decide +kernel
theorem dX12_layTold_80 : decode cX12_layTold 80 = .ok (.iadd, 1) := by decide +kernel
theorem dX12_layTold_81 : decode cX12_layTold 81 = .ok (.iload_n 2, 1) := by decide +kernel
theorem dX12_layTold_82 : decode cX12_layTold 82 = .ok (.ifCond .eq 20, 3) := by decide +kernel
theorem dX12_layTold_85 : decode cX12_layTold 85 = .ok (.aload_n 0, 1) := by decide +kernel
theorem dX12_layTold_86 : decode cX12_layTold 86 = .ok (.getfield 48, 3) := by decide +kernel
theorem dX12_layTold_89 : decode cX12_layTold 89 = .ok (.bipush 8, 2) := by decide +kernel
theorem dX12_layTold_91 : decode cX12_layTold 91 = .ok (.aload_n 0, 1) := by decide +kernel
theorem dX12_layTold_92 : decode cX12_layTold 92 = .ok (.getfield 255, 3) := by decide +kernel
theorem dX12_layTold_95 : decode cX12_layTold 95 = .ok (.imul, 1) := by decide +kernel
theorem dX12_layTold_96 : decode cX12_layTold 96 = .ok (.iload_n 1, 1) := by decide +kernel
theorem dX12_layTold_97 : decode cX12_layTold 97 = .ok (.iadd, 1) := by decide +kernel
theorem dX12_layTold_98 : decode cX12_layTold 98 = .ok (.iaload, 1) := by decide +kernel
theorem dX12_layTold_99 : decode cX12_layTold 99 = .ok (.goto 4, 3) := by decide +kernel
theorem dX12_layTold_102 : decode cX12_layTold 102 = .ok (.iconst 0, 1) := by decide +kernel
theorem dX12_layTold_103 : decode cX12_layTold 103 = .ok (.iastore, 1) := by decide +kernel
theorem dX12_layTold_104 : decode cX12_layTold 104 = .ok (.aload_n 0, 1) := by decide +kernel
theorem dX12_layTold_105 : decode cX12_layTold 105 = .ok (.getfield 82, 3) := by decide +kernel
theorem dX12_layTold_108 : decode cX12_layTold 108 = .ok (.bipush 16, 2) := by decide +kernel
theorem dX12_layTold_110 : decode cX12_layTold 110 = .ok (.iload_n 1, 1) := by decide +kernel
theorem dX12_layTold_111 : decode cX12_layTold 111 = .ok (.iadd, 1) := by decide +kernel
theorem dX12_layTold_112 : decode cX12_layTold 112 = .ok (.iload_n 2, 1) := by decide +kernel
theorem dX12_layTold_113 : decode cX12_layTold 113 = .ok (.ifCond .eq 20, 3) := by decide +kernel
theorem dX12_layTold_116 : decode cX12_layTold 116 = .ok (.aload_n 0, 1) := by decide +kernel
theorem dX12_layTold_117 : decode cX12_layTold 117 = .ok (.getfield 51, 3) := by decide +kernel
theorem dX12_layTold_120 : decode cX12_layTold 120 = .ok (.bipush 8, 2) := by decide +kernel
theorem dX12_layTold_122 : decode cX12_layTold 122 = .ok (.aload_n 0, 1) := by decide +kernel
theorem dX12_layTold_123 : decode cX12_layTold 123 = .ok (.getfield 255, 3) := by decide +kernel
theorem dX12_layTold_126 : decode cX12_layTold 126 = .ok (.imul, 1) := by decide +kernel
theorem dX12_layTold_127 : decode cX12_layTold 127 = .ok (.iload_n 1, 1) := by decide +kernel
theorem dX12_layTold_128 : decode cX12_layTold 128 = .ok (.iadd, 1) := by decide +kernel
theorem dX12_layTold_129 : decode cX12_layTold 129 = .ok (.iaload, 1) := by decide +kernel
theorem dX12_layTold_130 : decode cX12_layTold 130 = .ok (.goto 4, 3) := by decide +kernel
theorem dX12_layTold_133 : decode cX12_layTold 133 = .ok (.iconst 0, 1) := by decide +kernel
theorem dX12_layTold_134 : decode cX12_layTold 134 = .ok (.iastore, 1) := by decide +kernel
theorem dX12_layTold_135 : decode cX12_layTold 135 = .ok (.aload_n 0, 1) := by decide +kernel
theorem dX12_layTold_136 : decode cX12_layTold 136 = .ok (.getfield 82, 3) := by decide +kernel
theorem dX12_layTold_139 : decode cX12_layTold 139 = .ok (.bipush 24, 2) := by decide +kernel
theorem dX12_layTold_141 : decode cX12_layTold 141 = .ok (.iload_n 1, 1) := by decide +kernel
theorem dX12_layTold_142 : decode cX12_layTold 142 = .ok (.iadd, 1) := by decide +kernel
theorem dX12_layTold_143 : decode cX12_layTold 143 = .ok (.iload_n 2, 1) := by decide +kernel
theorem dX12_layTold_144 : decode cX12_layTold 144 = .ok (.ifCond .eq 20, 3) := by decide +kernel
theorem dX12_layTold_147 : decode cX12_layTold 147 = .ok (.aload_n 0, 1) := by decide +kernel
theorem dX12_layTold_148 : decode cX12_layTold 148 = .ok (.getfield 54, 3) := by decide +kernel
theorem dX12_layTold_151 : decode cX12_layTold 151 = .ok (.bipush 8, 2) := by decide +kernel
theorem dX12_layTold_153 : decode cX12_layTold 153 = .ok (.aload_n 0, 1) := by decide +kernel
theorem dX12_layTold_154 : decode cX12_layTold 154 = .ok (.getfield 255, 3) := by decide +kernel
theorem dX12_layTold_157 : decode cX12_layTold 157 = .ok (.imul, 1) := by decide +kernel
theorem dX12_layTold_158 : decode cX12_layTold 158 = .ok (.iload_n 1, 1) := by decide +kernel
theorem dX12_layTold_159 : decode cX12_layTold 159 = .ok (.iadd, 1) := by decide +kernel
theorem dX12_layTold_160 : decode cX12_layTold 160 = .ok (.iaload, 1) := by decide +kernel
theorem dX12_layTold_161 : decode cX12_layTold 161 = .ok (.goto 4, 3) := by decide +kernel
theorem dX12_layTold_164 : decode cX12_layTold 164 = .ok (.iconst 0, 1) := by decide +kernel
theorem dX12_layTold_165 : decode cX12_layTold 165 = .ok (.iastore, 1) := by decide +kernel
theorem dX12_layTold_166 : decode cX12_layTold 166 = .ok (.iinc 1 1, 3) := by decide +kernel
theorem dX12_layTold_169 : decode cX12_layTold 169 = .ok (.goto (-146), 3) := by decide +kernel
theorem dX12_layTold_172 : decode cX12_layTold 172 = .ok (.aload_n 0, 1) := by decide +kernel
theorem dX12_layTold_173 : decode cX12_layTold 173 = .ok (.getfield 85, 3) := by decide +kernel
theorem dX12_layTold_176 : decode cX12_layTold 176 = .ok (.ifCond .lt 21, 3) := by decide +kernel
theorem dX12_layTold_179 : decode cX12_layTold 179 = .ok (.aload_n 0, 1) := by decide +kernel
theorem dX12_layTold_180 : decode cX12_layTold 180 = .ok (.getfield 82, 3) := by decide +kernel
theorem dX12_layTold_183 : decode cX12_layTold 183 = .ok (.bipush 16, 2) := by decide +kernel
theorem dX12_layTold_185 : decode cX12_layTold 185 = .ok (.aload_n 0, 1) := by decide +kernel
theorem dX12_layTold_186 : decode cX12_layTold 186 = .ok (.invokevirtual 341, 3) := by decide +kernel
theorem dX12_layTold_189 : decode cX12_layTold 189 = .ok (.iadd, 1) := by decide +kernel
theorem dX12_layTold_190 : decode cX12_layTold 190 = .ok (.iconst 1, 1) := by decide +kernel
theorem dX12_layTold_191 : decode cX12_layTold 191 = .ok (.isub, 1) := by decide +kernel
theorem dX12_layTold_192 : decode cX12_layTold 192 = .ok (.aload_n 0, 1) := by decide +kernel
theorem dX12_layTold_193 : decode cX12_layTold 193 = .ok (.getfield 85, 3) := by decide +kernel
theorem dX12_layTold_196 : decode cX12_layTold 196 = .ok (.iastore, 1) := by decide +kernel
theorem dX12_layTold_197 : decode cX12_layTold 197 = .ok (.aload_n 0, 1) := by decide +kernel
theorem dX12_layTold_198 : decode cX12_layTold 198 = .ok (.getfield 82, 3) := by decide +kernel
theorem dX12_layTold_201 : decode cX12_layTold 201 = .ok (.bipush 33, 2) := by decide +kernel
theorem dX12_layTold_203 : decode cX12_layTold 203 = .ok (.aload_n 0, 1) := by decide +kernel
theorem dX12_layTold_204 : decode cX12_layTold 204 = .ok (.getfield 39, 3) := by decide +kernel
theorem dX12_layTold_207 : decode cX12_layTold 207 = .ok (.aload_n 0, 1) := by decide +kernel
theorem dX12_layTold_208 : decode cX12_layTold 208 = .ok (.getfield 255, 3) := by decide +kernel
theorem dX12_layTold_211 : decode cX12_layTold 211 = .ok (.iaload, 1) := by decide +kernel
theorem dX12_layTold_212 : decode cX12_layTold 212 = .ok (.iastore, 1) := by decide +kernel
theorem dX12_layTold_213 : decode cX12_layTold 213 = .ok (.return_, 1) := by decide +kernel
def kX12_layTold_165 (n : Nat) (r23 : mK) : mK := i_as 0 (i_inc 1 (1) (r23))
set_option maxRecDepth 20000 in
theorem okX12_layTold_165 {E : mE} {X : State → Heap → Prop} {l : Launch} (hX : mXok E X) (n : Nat) {r23 : mK} (h23 : Sd E X l yX12_layTold cX12_layTold 3 none 2 0 0 0 0 23 r23) : Sd E X l yX12_layTold cX12_layTold 3 none 2 0 0 0 0 165 (kX12_layTold_165 n r23) := s_iast dX12_layTold_165 (s_iinc dX12_layTold_166 (by decide) (s_goto dX12_layTold_169 (by decide) h23))
def kX12_layTold_134 (n : Nat) (r23 : mK) : mK := i_as 0 (i_ldA 0 (i_gA 12 39 (i_cst (.int (24)) (i_ldI 1 (i_bin (fun x y => x + y) (i_ldI 2 (i_c0 (fun x => decide (x = 0)) (i_cst (.int (0)) (kX12_layTold_165 n r23)) (i_ldA 0 (i_gA 12 22 (i_cst (.int (8)) (i_ldA 0 (i_gI 12 31 (i_bin (fun x y => x * y) (i_ldI 1 (i_bin (fun x y => x + y) (i_al 0 ((kX12_layTold_165 n r23))))))))))))))))))
set_option maxRecDepth 20000 in
theorem okX12_layTold_134 {E : mE} {X : State → Heap → Prop} {l : Launch} (hX : mXok E X) (n : Nat) {r23 : mK} (h23 : Sd E X l yX12_layTold cX12_layTold 3 none 2 0 0 0 0 23 r23) : Sd E X l yX12_layTold cX12_layTold 3 none 2 0 0 0 0 134 (kX12_layTold_134 n r23) := s_iast dX12_layTold_134 (s_aload_n dX12_layTold_135 rfl (s_gA dX12_layTold_136 lFX12_82 (s_bipush dX12_layTold_139 (by decide) (s_iload_n dX12_layTold_141 rfl (s_iadd dX12_layTold_142 (s_iload_n dX12_layTold_143 rfl (s_ifeq dX12_layTold_144 (by decide) (s_iconst dX12_layTold_164 (by decide) (okX12_layTold_165 hX n h23)) (s_aload_n dX12_layTold_147 rfl (s_gA dX12_layTold_148 lFX12_54 (s_bipush dX12_layTold_151 (by decide) (s_aload_n dX12_layTold_153 rfl (s_gI dX12_layTold_154 lFX12_255 (by decide) (s_imul dX12_layTold_157 (s_iload_n dX12_layTold_158 rfl (s_iadd dX12_layTold_159 (s_iald dX12_layTold_160 (s_goto dX12_layTold_161 (by decide) (okX12_layTold_165 hX n h23))))))))))))))))))
def kX12_layTold_103 (n : Nat) (r23 : mK) : mK := i_as 0 (i_ldA 0 (i_gA 12 39 (i_cst (.int (16)) (i_ldI 1 (i_bin (fun x y => x + y) (i_ldI 2 (i_c0 (fun x => decide (x = 0)) (i_cst (.int (0)) (kX12_layTold_134 n r23)) (i_ldA 0 (i_gA 12 21 (i_cst (.int (8)) (i_ldA 0 (i_gI 12 31 (i_bin (fun x y => x * y) (i_ldI 1 (i_bin (fun x y => x + y) (i_al 0 ((kX12_layTold_134 n r23))))))))))))))))))
set_option maxRecDepth 20000 in
theorem okX12_layTold_103 {E : mE} {X : State → Heap → Prop} {l : Launch} (hX : mXok E X) (n : Nat) {r23 : mK} (h23 : Sd E X l yX12_layTold cX12_layTold 3 none 2 0 0 0 0 23 r23) : Sd E X l yX12_layTold cX12_layTold 3 none 2 0 0 0 0 103 (kX12_layTold_103 n r23) := s_iast dX12_layTold_103 (s_aload_n dX12_layTold_104 rfl (s_gA dX12_layTold_105 lFX12_82 (s_bipush dX12_layTold_108 (by decide) (s_iload_n dX12_layTold_110 rfl (s_iadd dX12_layTold_111 (s_iload_n dX12_layTold_112 rfl (s_ifeq dX12_layTold_113 (by decide) (s_iconst dX12_layTold_133 (by decide) (okX12_layTold_134 hX n h23)) (s_aload_n dX12_layTold_116 rfl (s_gA dX12_layTold_117 lFX12_51 (s_bipush dX12_layTold_120 (by decide) (s_aload_n dX12_layTold_122 rfl (s_gI dX12_layTold_123 lFX12_255 (by decide) (s_imul dX12_layTold_126 (s_iload_n dX12_layTold_127 rfl (s_iadd dX12_layTold_128 (s_iald dX12_layTold_129 (s_goto dX12_layTold_130 (by decide) (okX12_layTold_134 hX n h23))))))))))))))))))
def kX12_layTold_72 (n : Nat) (r23 : mK) : mK := i_as 0 (i_ldA 0 (i_gA 12 39 (i_cst (.int (8)) (i_ldI 1 (i_bin (fun x y => x + y) (i_ldI 2 (i_c0 (fun x => decide (x = 0)) (i_cst (.int (0)) (kX12_layTold_103 n r23)) (i_ldA 0 (i_gA 12 20 (i_cst (.int (8)) (i_ldA 0 (i_gI 12 31 (i_bin (fun x y => x * y) (i_ldI 1 (i_bin (fun x y => x + y) (i_al 0 ((kX12_layTold_103 n r23))))))))))))))))))
set_option maxRecDepth 20000 in
theorem okX12_layTold_72 {E : mE} {X : State → Heap → Prop} {l : Launch} (hX : mXok E X) (n : Nat) {r23 : mK} (h23 : Sd E X l yX12_layTold cX12_layTold 3 none 2 0 0 0 0 23 r23) : Sd E X l yX12_layTold cX12_layTold 3 none 2 0 0 0 0 72 (kX12_layTold_72 n r23) := s_iast dX12_layTold_72 (s_aload_n dX12_layTold_73 rfl (s_gA dX12_layTold_74 lFX12_82 (s_bipush dX12_layTold_77 (by decide) (s_iload_n dX12_layTold_79 rfl (s_iadd dX12_layTold_80 (s_iload_n dX12_layTold_81 rfl (s_ifeq dX12_layTold_82 (by decide) (s_iconst dX12_layTold_102 (by decide) (okX12_layTold_103 hX n h23)) (s_aload_n dX12_layTold_85 rfl (s_gA dX12_layTold_86 lFX12_48 (s_bipush dX12_layTold_89 (by decide) (s_aload_n dX12_layTold_91 rfl (s_gI dX12_layTold_92 lFX12_255 (by decide) (s_imul dX12_layTold_95 (s_iload_n dX12_layTold_96 rfl (s_iadd dX12_layTold_97 (s_iald dX12_layTold_98 (s_goto dX12_layTold_99 (by decide) (okX12_layTold_103 hX n h23))))))))))))))))))
def kX12_layTold_42 (n : Nat) (r23 : mK) : mK := i_stI 2 (i_ldA 0 (i_gA 12 39 (i_cst (.int (0)) (i_ldI 1 (i_bin (fun x y => x + y) (i_ldI 2 (i_c0 (fun x => decide (x = 0)) (i_cst (.int (-1)) (kX12_layTold_72 n r23)) (i_ldA 0 (i_gA 12 19 (i_cst (.int (8)) (i_ldA 0 (i_gI 12 31 (i_bin (fun x y => x * y) (i_ldI 1 (i_bin (fun x y => x + y) (i_al 0 ((kX12_layTold_72 n r23))))))))))))))))))
set_option maxRecDepth 20000 in
theorem okX12_layTold_42 {E : mE} {X : State → Heap → Prop} {l : Launch} (hX : mXok E X) (n : Nat) {r23 : mK} (h23 : Sd E X l yX12_layTold cX12_layTold 3 none 2 0 0 0 0 23 r23) : Sd E X l yX12_layTold cX12_layTold 3 none 2 0 0 0 0 42 (kX12_layTold_42 n r23) := s_istore_n dX12_layTold_42 rfl (s_aload_n dX12_layTold_43 rfl (s_gA dX12_layTold_44 lFX12_82 (s_iconst dX12_layTold_47 (by decide) (s_iload_n dX12_layTold_48 rfl (s_iadd dX12_layTold_49 (s_iload_n dX12_layTold_50 rfl (s_ifeq dX12_layTold_51 (by decide) (s_iconst dX12_layTold_71 (by decide) (okX12_layTold_72 hX n h23)) (s_aload_n dX12_layTold_54 rfl (s_gA dX12_layTold_55 lFX12_45 (s_bipush dX12_layTold_58 (by decide) (s_aload_n dX12_layTold_60 rfl (s_gI dX12_layTold_61 lFX12_255 (by decide) (s_imul dX12_layTold_64 (s_iload_n dX12_layTold_65 rfl (s_iadd dX12_layTold_66 (s_iald dX12_layTold_67 (s_goto dX12_layTold_68 (by decide) (okX12_layTold_72 hX n h23))))))))))))))))))
def kX12_layTold_197 (n : Nat) : mK := i_ldA 0 (i_gA 12 39 (i_cst (.int (33)) (i_ldA 0 (i_gA 12 17 (i_ldA 0 (i_gI 12 31 (i_al 0 (i_as 0 (i_rV)))))))))
set_option maxRecDepth 20000 in
theorem okX12_layTold_197 {E : mE} {X : State → Heap → Prop} {l : Launch} (hX : mXok E X) (n : Nat) : Sd E X l yX12_layTold cX12_layTold 3 none 2 0 0 0 0 197 (kX12_layTold_197 n) := s_aload_n dX12_layTold_197 rfl (s_gA dX12_layTold_198 lFX12_82 (s_bipush dX12_layTold_201 (by decide) (s_aload_n dX12_layTold_203 rfl (s_gA dX12_layTold_204 lFX12_39 (s_aload_n dX12_layTold_207 rfl (s_gI dX12_layTold_208 lFX12_255 (by decide) (s_iald dX12_layTold_211 (s_iast dX12_layTold_212 (s_rV dX12_layTold_213 (Nat.le_of_ble_eq_true rfl) (Nat.le_of_ble_eq_true rfl))))))))))
def kX12_layTold_23 (n : Nat) (r23 : mK) : mK := i_ldI 1 (i_cst (.int (8)) (i_c2 (fun x y => decide (y ≤ x)) (i_ldA 0 (i_gI 12 40 (i_c0 (fun x => decide (x < 0)) (kX12_layTold_197 n) (i_ldA 0 (i_gA 12 39 (i_cst (.int (16)) (i_ldA 0 (i_cV 12 0 (FX12_many n) (i_bin (fun x y => x + y) (i_cst (.int (1)) (i_bin (fun x y => x - y) (i_ldA 0 (i_gI 12 40 (i_as 0 (kX12_layTold_197 n))))))))))))))) (i_ldI 1 (i_ldA 0 (i_cV 12 0 (FX12_many n) (i_c2 (fun x y => decide (y ≤ x)) (i_cst (.int (0)) (kX12_layTold_42 n r23)) (i_cst (.int (1)) ((kX12_layTold_42 n r23)))))))))
set_option maxRecDepth 20000 in
theorem okX12_layTold_23 {E : mE} {X : State → Heap → Prop} {l : Launch} (hX : mXok E X) (n : Nat) {r23 : mK} (h23 : Sd E X l yX12_layTold cX12_layTold 3 none 2 0 0 0 0 23 r23) : Sd E X l yX12_layTold cX12_layTold 3 none 2 0 0 0 0 23 (kX12_layTold_23 n r23) := s_iload_n dX12_layTold_23 rfl (s_bipush dX12_layTold_24 (by decide) (s_icge dX12_layTold_26 (by decide) (s_aload_n dX12_layTold_172 rfl (s_gI dX12_layTold_173 lFX12_85 (by decide) (s_iflt dX12_layTold_176 (by decide) (okX12_layTold_197 hX n) (s_aload_n dX12_layTold_179 rfl (s_gA dX12_layTold_180 lFX12_82 (s_bipush dX12_layTold_183 (by decide) (s_aload_n dX12_layTold_185 rfl (s_cV dX12_layTold_186 lMX12_341 bVX12_many rfl (CtX12_many hX n) (Nat.le_of_ble_eq_true rfl) (s_iadd dX12_layTold_189 (s_iconst dX12_layTold_190 (by decide) (s_isub dX12_layTold_191 (s_aload_n dX12_layTold_192 rfl (s_gI dX12_layTold_193 lFX12_85 (by decide) (s_iast dX12_layTold_196 (okX12_layTold_197 hX n))))))) (Nat.le_of_ble_eq_true rfl) (Nat.le_of_ble_eq_true rfl))))))))) (s_iload_n dX12_layTold_29 rfl (s_aload_n dX12_layTold_30 rfl (s_cV dX12_layTold_31 lMX12_341 bVX12_many rfl (CtX12_many hX n) (Nat.le_of_ble_eq_true rfl) (s_icge dX12_layTold_34 (by decide) (s_iconst dX12_layTold_41 (by decide) (okX12_layTold_42 hX n h23)) (s_iconst dX12_layTold_37 (by decide) (s_goto dX12_layTold_38 (by decide) (okX12_layTold_42 hX n h23)))) (Nat.le_of_ble_eq_true rfl) (Nat.le_of_ble_eq_true rfl))))))
def kX12_layTold_2 (n : Nat) (r2 : mK) : mK := i_ldI 1 (i_cst (.int (34)) (i_c2 (fun x y => decide (y ≤ x)) (i_cst (.int (0)) (i_stI 1 (mit (kX12_layTold_23 n ) n))) (i_ldA 0 (i_gA 12 39 (i_ldI 1 (i_cst (.int (0)) (i_as 0 (i_inc 1 (1) (r2)))))))))
set_option maxRecDepth 20000 in
theorem okX12_layTold_2 {E : mE} {X : State → Heap → Prop} {l : Launch} (hX : mXok E X) (n : Nat) {r2 : mK} (h2 : Sd E X l yX12_layTold cX12_layTold 3 none 2 0 0 0 0 2 r2) : Sd E X l yX12_layTold cX12_layTold 3 none 2 0 0 0 0 2 (kX12_layTold_2 n r2) := s_iload_n dX12_layTold_2 rfl (s_bipush dX12_layTold_3 (by decide) (s_icge dX12_layTold_5 (by decide) (s_iconst dX12_layTold_21 (by decide) (s_istore_n dX12_layTold_22 rfl (s_mit (fun _ hk => okX12_layTold_23 hX n hk) n))) (s_aload_n dX12_layTold_8 rfl (s_gA dX12_layTold_9 lFX12_82 (s_iload_n dX12_layTold_12 rfl (s_iconst dX12_layTold_13 (by decide) (s_iast dX12_layTold_14 (s_iinc dX12_layTold_15 (by decide) (s_goto dX12_layTold_18 (by decide) h2)))))))))
def kX12_layTold_0 (n : Nat) : mK := i_cst (.int (0)) (i_stI 1 (mit (kX12_layTold_2 n ) n))
set_option maxRecDepth 20000 in
theorem okX12_layTold_0 {E : mE} {X : State → Heap → Prop} {l : Launch} (hX : mXok E X) (n : Nat) : Sd E X l yX12_layTold cX12_layTold 3 none 2 0 0 0 0 0 (kX12_layTold_0 n) := s_iconst dX12_layTold_0 (by decide) (s_istore_n dX12_layTold_1 rfl (s_mit (fun _ hk => okX12_layTold_2 hX n hk) n))
def FX12_layTold (n : Nat) : List Value → mM → Option mR := mfn 3 (kX12_layTold_0 n)
theorem CtX12_layTold {E : mE} {X : State → Heap → Prop} {l : Launch} (hX : mXok E X) (n : Nat) : Ct E X l yX12_layTold cX12_layTold 3 none 2 0 0 (FX12_layTold n) := Ct_of (by decide) hX (okX12_layTold_0 hX n)
theorem dX12_lies_0 : decode cX12_lies 0 = .ok (.iload_n 1, 1) := by decide +kernel
theorem dX12_lies_1 : decode cX12_lies 1 = .ok (.iconst 0, 1) := by decide +kernel
theorem dX12_lies_2 : decode cX12_lies 2 = .ok (.aload_n 0, 1) := by decide +kernel
theorem dX12_lies_3 : decode cX12_lies 3 = .ok (.getfield 366, 3) := by decide +kernel
theorem dX12_lies_6 : decode cX12_lies 6 = .ok (.iconst 1, 1) := by decide +kernel
theorem dX12_lies_7 : decode cX12_lies 7 = .ok (.isub, 1) := by decide +kernel
theorem dX12_lies_8 : decode cX12_lies 8 = .ok (.invokestatic 344, 3) := by decide +kernel
theorem dX12_lies_11 : decode cX12_lies 11 = .ok (.ifCond .eq 12, 3) := by decide +kernel
theorem dX12_lies_14 : decode cX12_lies 14 = .ok (.aload_n 0, 1) := by decide +kernel
theorem dX12_lies_15 : decode cX12_lies 15 = .ok (.getfield 97, 3) := by decide +kernel
theorem dX12_lies_18 : decode cX12_lies 18 = .ok (.iload_n 1, 1) := by decide +kernel
theorem dX12_lies_19 : decode cX12_lies 19 = .ok (.iaload, 1) := by decide +kernel
theorem dX12_lies_20 : decode cX12_lies 20 = .ok (.goto 4, 3) := by decide +kernel
theorem dX12_lies_23 : decode cX12_lies 23 = .ok (.iconst (-1), 1) := by decide +kernel
theorem dX12_lies_24 : decode cX12_lies 24 = .ok (.ireturn, 1) := by decide +kernel
def kX12_lies_24 (n : Nat) : mK := i_rI
set_option maxRecDepth 20000 in
theorem okX12_lies_24 {E : mE} {X : State → Heap → Prop} {l : Launch} (hX : mXok E X) (n : Nat) : Sd E X l yX12_lies cX12_lies 2 (some .int) 2 0 0 0 0 24 (kX12_lies_24 n) := s_rI dX12_lies_24 (Nat.le_of_ble_eq_true rfl) (Nat.le_of_ble_eq_true rfl)
def kX12_lies_0 (n : Nat) : mK := i_ldI 1 (i_cst (.int (0)) (i_ldA 0 (i_gI 12 48 (i_cst (.int (1)) (i_bin (fun x y => x - y) (i_cS 3 (FX12_isIn n) (i_c0 (fun x => decide (x = 0)) (i_cst (.int (-1)) (kX12_lies_24 n)) (i_ldA 0 (i_gA 12 46 (i_ldI 1 (i_al 0 ((kX12_lies_24 n)))))))))))))
set_option maxRecDepth 20000 in
theorem okX12_lies_0 {E : mE} {X : State → Heap → Prop} {l : Launch} (hX : mXok E X) (n : Nat) : Sd E X l yX12_lies cX12_lies 2 (some .int) 2 0 0 0 0 0 (kX12_lies_0 n) := s_iload_n dX12_lies_0 rfl (s_iconst dX12_lies_1 (by decide) (s_aload_n dX12_lies_2 rfl (s_gI dX12_lies_3 lFX12_366 (by decide) (s_iconst dX12_lies_6 (by decide) (s_isub dX12_lies_7 (s_cS dX12_lies_8 lMX12_344 bSX12_isIn (CtX12_isIn hX n) (Nat.le_of_ble_eq_true rfl) (s_ifeq dX12_lies_11 (by decide) (s_iconst dX12_lies_23 (by decide) (okX12_lies_24 hX n)) (s_aload_n dX12_lies_14 rfl (s_gA dX12_lies_15 lFX12_97 (s_iload_n dX12_lies_18 rfl (s_iald dX12_lies_19 (s_goto dX12_lies_20 (by decide) (okX12_lies_24 hX n))))))) (Nat.le_of_ble_eq_true rfl) (Nat.le_of_ble_eq_true rfl)))))))
def FX12_lies (n : Nat) : List Value → mM → Option mR := mfn 2 (kX12_lies_0 n)
theorem CtX12_lies {E : mE} {X : State → Heap → Prop} {l : Launch} (hX : mXok E X) (n : Nat) : Ct E X l yX12_lies cX12_lies 2 (some .int) 2 0 0 (FX12_lies n) := Ct_of (by decide) hX (okX12_lies_0 hX n)
theorem dX12_misplaced_0 : decode cX12_misplaced 0 = .ok (.aload_n 0, 1) := by decide +kernel
theorem dX12_misplaced_1 : decode cX12_misplaced 1 = .ok (.aload_n 0, 1) := by decide +kernel
theorem dX12_misplaced_2 : decode cX12_misplaced 2 = .ok (.getfield 197, 3) := by decide +kernel
theorem dX12_misplaced_5 : decode cX12_misplaced 5 = .ok (.iconst 1, 1) := by decide +kernel
theorem dX12_misplaced_6 : decode cX12_misplaced 6 = .ok (.if_icmp .ne 7, 3) := by decide +kernel
theorem dX12_misplaced_9 : decode cX12_misplaced 9 = .ok (.iconst 1, 1) := by decide +kernel
theorem dX12_misplaced_10 : decode cX12_misplaced 10 = .ok (.goto 4, 3) := by decide +kernel
theorem dX12_misplaced_13 : decode cX12_misplaced 13 = .ok (.iconst 2, 1) := by decide +kernel
theorem dX12_misplaced_14 : decode cX12_misplaced 14 = .ok (.aload_n 0, 1) := by decide +kernel
theorem dX12_misplaced_15 : decode cX12_misplaced 15 = .ok (.getfield 190, 3) := by decide +kernel
theorem dX12_misplaced_18 : decode cX12_misplaced 18 = .ok (.invokevirtual 221, 3) := by decide +kernel
theorem dX12_misplaced_21 : decode cX12_misplaced 21 = .ok (.return_, 1) := by decide +kernel
def kX12_misplaced_14 (n : Nat) : mK := i_ldA 0 (i_gI 12 6 (i_cV 12 2 (FX12_fails n) (i_rV)))
set_option maxRecDepth 20000 in
theorem okX12_misplaced_14 {E : mE} {X : State → Heap → Prop} {l : Launch} (hX : mXok E X) (n : Nat) : Sd E X l yX12_misplaced cX12_misplaced 1 none 2 0 0 0 0 14 (kX12_misplaced_14 n) := s_aload_n dX12_misplaced_14 rfl (s_gI dX12_misplaced_15 lFX12_190 (by decide) (s_cV dX12_misplaced_18 lMX12_221 bVX12_fails rfl (CtX12_fails hX n) (Nat.le_of_ble_eq_true rfl) (s_rV dX12_misplaced_21 (Nat.le_of_ble_eq_true rfl) (Nat.le_of_ble_eq_true rfl)) (Nat.le_of_ble_eq_true rfl) (Nat.le_of_ble_eq_true rfl)))
def kX12_misplaced_0 (n : Nat) : mK := i_ldA 0 (i_ldA 0 (i_gI 12 8 (i_cst (.int (1)) (i_c2 (fun x y => decide (¬ x = y)) (i_cst (.int (2)) (kX12_misplaced_14 n)) (i_cst (.int (1)) ((kX12_misplaced_14 n)))))))
set_option maxRecDepth 20000 in
theorem okX12_misplaced_0 {E : mE} {X : State → Heap → Prop} {l : Launch} (hX : mXok E X) (n : Nat) : Sd E X l yX12_misplaced cX12_misplaced 1 none 2 0 0 0 0 0 (kX12_misplaced_0 n) := s_aload_n dX12_misplaced_0 rfl (s_aload_n dX12_misplaced_1 rfl (s_gI dX12_misplaced_2 lFX12_197 (by decide) (s_iconst dX12_misplaced_5 (by decide) (s_icne dX12_misplaced_6 (by decide) (s_iconst dX12_misplaced_13 (by decide) (okX12_misplaced_14 hX n)) (s_iconst dX12_misplaced_9 (by decide) (s_goto dX12_misplaced_10 (by decide) (okX12_misplaced_14 hX n)))))))
def FX12_misplaced (n : Nat) : List Value → mM → Option mR := mfn 1 (kX12_misplaced_0 n)
theorem CtX12_misplaced {E : mE} {X : State → Heap → Prop} {l : Launch} (hX : mXok E X) (n : Nat) : Ct E X l yX12_misplaced cX12_misplaced 1 none 2 0 0 (FX12_misplaced n) := Ct_of (by decide) hX (okX12_misplaced_0 hX n)
theorem dX12_noiseNow_0 : decode cX12_noiseNow 0 = .ok (.iconst 0, 1) := by decide +kernel
theorem dX12_noiseNow_1 : decode cX12_noiseNow 1 = .ok (.istore_n 1, 1) := by decide +kernel
theorem dX12_noiseNow_2 : decode cX12_noiseNow 2 = .ok (.iconst 0, 1) := by decide +kernel
theorem dX12_noiseNow_3 : decode cX12_noiseNow 3 = .ok (.istore_n 2, 1) := by decide +kernel
theorem dX12_noiseNow_4 : decode cX12_noiseNow 4 = .ok (.iload_n 2, 1) := by decide +kernel
theorem dX12_noiseNow_5 : decode cX12_noiseNow 5 = .ok (.aload_n 0, 1) := by decide +kernel
theorem dX12_noiseNow_6 : decode cX12_noiseNow 6 = .ok (.invokevirtual 341, 3) := by decide +kernel
theorem dX12_noiseNow_9 : decode cX12_noiseNow 9 = .ok (.if_icmp .ge 36, 3) := by decide +kernel
theorem dX12_noiseNow_12 : decode cX12_noiseNow 12 = .ok (.iload_n 1, 1) := by decide +kernel
theorem dX12_noiseNow_13 : decode cX12_noiseNow 13 = .ok (.aload_n 0, 1) := by decide +kernel
theorem dX12_noiseNow_14 : decode cX12_noiseNow 14 = .ok (.getfield 82, 3) := by decide +kernel
theorem dX12_noiseNow_17 : decode cX12_noiseNow 17 = .ok (.iconst 0, 1) := by decide +kernel
theorem dX12_noiseNow_18 : decode cX12_noiseNow 18 = .ok (.iload_n 2, 1) := by decide +kernel
theorem dX12_noiseNow_19 : decode cX12_noiseNow 19 = .ok (.iadd, 1) := by decide +kernel
theorem dX12_noiseNow_20 : decode cX12_noiseNow 20 = .ok (.iaload, 1) := by decide +kernel
theorem dX12_noiseNow_21 : decode cX12_noiseNow 21 = .ok (.ifCond .lt 15, 3) := by decide +kernel
theorem dX12_noiseNow_24 : decode cX12_noiseNow 24 = .ok (.aload_n 0, 1) := by decide +kernel
theorem dX12_noiseNow_25 : decode cX12_noiseNow 25 = .ok (.getfield 82, 3) := by decide +kernel
theorem dX12_noiseNow_28 : decode cX12_noiseNow 28 = .ok (.bipush 16, 2) := by decide +kernel
theorem dX12_noiseNow_30 : decode cX12_noiseNow 30 = .ok (.iload_n 2, 1) := by decide +kernel
theorem dX12_noiseNow_31 : decode cX12_noiseNow 31 = .ok (.iadd, 1) := by decide +kernel
theorem dX12_noiseNow_32 : decode cX12_noiseNow 32 = .ok (.iaload, 1) := by decide +kernel
theorem dX12_noiseNow_33 : decode cX12_noiseNow 33 = .ok (.goto 4, 3) := by decide +kernel
theorem dX12_noiseNow_36 : decode cX12_noiseNow 36 = .ok (.iconst 0, 1) := by decide +kernel
theorem dX12_noiseNow_37 : decode cX12_noiseNow 37 = .ok (.iadd, 1) := by decide +kernel
theorem dX12_noiseNow_38 : decode cX12_noiseNow 38 = .ok (.istore_n 1, 1) := by decide +kernel
theorem dX12_noiseNow_39 : decode cX12_noiseNow 39 = .ok (.iinc 2 1, 3) := by decide +kernel
theorem dX12_noiseNow_42 : decode cX12_noiseNow 42 = .ok (.goto (-38), 3) := by decide +kernel
theorem dX12_noiseNow_45 : decode cX12_noiseNow 45 = .ok (.iload_n 1, 1) := by decide +kernel
theorem dX12_noiseNow_46 : decode cX12_noiseNow 46 = .ok (.ireturn, 1) := by decide +kernel
def kX12_noiseNow_37 (n : Nat) (r4 : mK) : mK := i_bin (fun x y => x + y) (i_stI 1 (i_inc 2 (1) (r4)))
set_option maxRecDepth 20000 in
theorem okX12_noiseNow_37 {E : mE} {X : State → Heap → Prop} {l : Launch} (hX : mXok E X) (n : Nat) {r4 : mK} (h4 : Sd E X l yX12_noiseNow cX12_noiseNow 3 (some .int) 2 0 0 0 0 4 r4) : Sd E X l yX12_noiseNow cX12_noiseNow 3 (some .int) 2 0 0 0 0 37 (kX12_noiseNow_37 n r4) := s_iadd dX12_noiseNow_37 (s_istore_n dX12_noiseNow_38 rfl (s_iinc dX12_noiseNow_39 (by decide) (s_goto dX12_noiseNow_42 (by decide) h4)))
def kX12_noiseNow_4 (n : Nat) (r4 : mK) : mK := i_ldI 2 (i_ldA 0 (i_cV 12 0 (FX12_many n) (i_c2 (fun x y => decide (y ≤ x)) (i_ldI 1 (i_rI)) (i_ldI 1 (i_ldA 0 (i_gA 12 39 (i_cst (.int (0)) (i_ldI 2 (i_bin (fun x y => x + y) (i_al 0 (i_c0 (fun x => decide (x < 0)) (i_cst (.int (0)) (kX12_noiseNow_37 n r4)) (i_ldA 0 (i_gA 12 39 (i_cst (.int (16)) (i_ldI 2 (i_bin (fun x y => x + y) (i_al 0 ((kX12_noiseNow_37 n r4)))))))))))))))))))
set_option maxRecDepth 20000 in
theorem okX12_noiseNow_4 {E : mE} {X : State → Heap → Prop} {l : Launch} (hX : mXok E X) (n : Nat) {r4 : mK} (h4 : Sd E X l yX12_noiseNow cX12_noiseNow 3 (some .int) 2 0 0 0 0 4 r4) : Sd E X l yX12_noiseNow cX12_noiseNow 3 (some .int) 2 0 0 0 0 4 (kX12_noiseNow_4 n r4) := s_iload_n dX12_noiseNow_4 rfl (s_aload_n dX12_noiseNow_5 rfl (s_cV dX12_noiseNow_6 lMX12_341 bVX12_many rfl (CtX12_many hX n) (Nat.le_of_ble_eq_true rfl) (s_icge dX12_noiseNow_9 (by decide) (s_iload_n dX12_noiseNow_45 rfl (s_rI dX12_noiseNow_46 (Nat.le_of_ble_eq_true rfl) (Nat.le_of_ble_eq_true rfl))) (s_iload_n dX12_noiseNow_12 rfl (s_aload_n dX12_noiseNow_13 rfl (s_gA dX12_noiseNow_14 lFX12_82 (s_iconst dX12_noiseNow_17 (by decide) (s_iload_n dX12_noiseNow_18 rfl (s_iadd dX12_noiseNow_19 (s_iald dX12_noiseNow_20 (s_iflt dX12_noiseNow_21 (by decide) (s_iconst dX12_noiseNow_36 (by decide) (okX12_noiseNow_37 hX n h4)) (s_aload_n dX12_noiseNow_24 rfl (s_gA dX12_noiseNow_25 lFX12_82 (s_bipush dX12_noiseNow_28 (by decide) (s_iload_n dX12_noiseNow_30 rfl (s_iadd dX12_noiseNow_31 (s_iald dX12_noiseNow_32 (s_goto dX12_noiseNow_33 (by decide) (okX12_noiseNow_37 hX n h4))))))))))))))))) (Nat.le_of_ble_eq_true rfl) (Nat.le_of_ble_eq_true rfl)))
def kX12_noiseNow_0 (n : Nat) : mK := i_cst (.int (0)) (i_stI 1 (i_cst (.int (0)) (i_stI 2 (mit (kX12_noiseNow_4 n ) n))))
set_option maxRecDepth 20000 in
theorem okX12_noiseNow_0 {E : mE} {X : State → Heap → Prop} {l : Launch} (hX : mXok E X) (n : Nat) : Sd E X l yX12_noiseNow cX12_noiseNow 3 (some .int) 2 0 0 0 0 0 (kX12_noiseNow_0 n) := s_iconst dX12_noiseNow_0 (by decide) (s_istore_n dX12_noiseNow_1 rfl (s_iconst dX12_noiseNow_2 (by decide) (s_istore_n dX12_noiseNow_3 rfl (s_mit (fun _ hk => okX12_noiseNow_4 hX n hk) n))))
def FX12_noiseNow (n : Nat) : List Value → mM → Option mR := mfn 3 (kX12_noiseNow_0 n)
theorem CtX12_noiseNow {E : mE} {X : State → Heap → Prop} {l : Launch} (hX : mXok E X) (n : Nat) : Ct E X l yX12_noiseNow cX12_noiseNow 3 (some .int) 2 0 0 (FX12_noiseNow n) := Ct_of (by decide) hX (okX12_noiseNow_0 hX n)
theorem dX12_redo_0 : decode cX12_redo 0 = .ok (.aload_n 0, 1) := by decide +kernel
theorem dX12_redo_1 : decode cX12_redo 1 = .ok (.getfield 360, 3) := by decide +kernel
theorem dX12_redo_4 : decode cX12_redo 4 = .ok (.ifCond .ne 5, 3) := by decide +kernel
theorem dX12_redo_7 : decode cX12_redo 7 = .ok (.iconst 0, 1) := by decide +kernel
theorem dX12_redo_8 : decode cX12_redo 8 = .ok (.ireturn, 1) := by decide +kernel
theorem dX12_redo_9 : decode cX12_redo 9 = .ok (.aload_n 0, 1) := by decide +kernel
theorem dX12_redo_10 : decode cX12_redo 10 = .ok (.invokevirtual 421, 3) := by decide +kernel
theorem dX12_redo_13 : decode cX12_redo 13 = .ok (.aload_n 0, 1) := by decide +kernel
theorem dX12_redo_14 : decode cX12_redo 14 = .ok (.dup, 1) := by decide +kernel
theorem dX12_redo_15 : decode cX12_redo 15 = .ok (.getfield 357, 3) := by decide +kernel
theorem dX12_redo_18 : decode cX12_redo 18 = .ok (.iconst 1, 1) := by decide +kernel
theorem dX12_redo_19 : decode cX12_redo 19 = .ok (.iadd, 1) := by decide +kernel
theorem dX12_redo_20 : decode cX12_redo 20 = .ok (.putfield 357, 3) := by decide +kernel
theorem dX12_redo_23 : decode cX12_redo 23 = .ok (.aload_n 0, 1) := by decide +kernel
theorem dX12_redo_24 : decode cX12_redo 24 = .ok (.dup, 1) := by decide +kernel
theorem dX12_redo_25 : decode cX12_redo 25 = .ok (.getfield 360, 3) := by decide +kernel
theorem dX12_redo_28 : decode cX12_redo 28 = .ok (.iconst 1, 1) := by decide +kernel
theorem dX12_redo_29 : decode cX12_redo 29 = .ok (.isub, 1) := by decide +kernel
theorem dX12_redo_30 : decode cX12_redo 30 = .ok (.putfield 360, 3) := by decide +kernel
theorem dX12_redo_33 : decode cX12_redo 33 = .ok (.iconst 1, 1) := by decide +kernel
theorem dX12_redo_34 : decode cX12_redo 34 = .ok (.ireturn, 1) := by decide +kernel
def kX12_redo_0 (n : Nat) : mK := i_ldA 0 (i_gI 12 44 (i_c0 (fun x => decide (¬ x = 0)) (i_ldA 0 (i_cV 12 0 (FX12_swapAll n) (i_ldA 0 (i_dup (i_gI 12 43 (i_cst (.int (1)) (i_bin (fun x y => x + y) (i_pI 12 43 (i_ldA 0 (i_dup (i_gI 12 44 (i_cst (.int (1)) (i_bin (fun x y => x - y) (i_pI 12 44 (i_cst (.int (1)) (i_rZ)))))))))))))))) (i_cst (.int (0)) (i_rZ))))
set_option maxRecDepth 20000 in
theorem okX12_redo_0 {E : mE} {X : State → Heap → Prop} {l : Launch} (hX : mXok E X) (n : Nat) : Sd E X l yX12_redo cX12_redo 1 (some .boolean) 2 0 0 0 0 0 (kX12_redo_0 n) := s_aload_n dX12_redo_0 rfl (s_gI dX12_redo_1 lFX12_360 (by decide) (s_ifne dX12_redo_4 (by decide) (s_aload_n dX12_redo_9 rfl (s_cV dX12_redo_10 lMX12_421 bVX12_swapAll rfl (CtX12_swapAll hX n) (Nat.le_of_ble_eq_true rfl) (s_aload_n dX12_redo_13 rfl (s_dup dX12_redo_14 (s_gI dX12_redo_15 lFX12_357 (by decide) (s_iconst dX12_redo_18 (by decide) (s_iadd dX12_redo_19 (s_pI dX12_redo_20 lFX12_357 (s_aload_n dX12_redo_23 rfl (s_dup dX12_redo_24 (s_gI dX12_redo_25 lFX12_360 (by decide) (s_iconst dX12_redo_28 (by decide) (s_isub dX12_redo_29 (s_pI dX12_redo_30 lFX12_360 (s_iconst dX12_redo_33 (by decide) (s_rZ dX12_redo_34 (Nat.le_of_ble_eq_true rfl) (Nat.le_of_ble_eq_true rfl))))))))))))))) (Nat.le_of_ble_eq_true rfl) (Nat.le_of_ble_eq_true rfl))) (s_iconst dX12_redo_7 (by decide) (s_rZ dX12_redo_8 (Nat.le_of_ble_eq_true rfl) (Nat.le_of_ble_eq_true rfl)))))
def FX12_redo (n : Nat) : List Value → mM → Option mR := mfn 1 (kX12_redo_0 n)
theorem CtX12_redo {E : mE} {X : State → Heap → Prop} {l : Launch} (hX : mXok E X) (n : Nat) : Ct E X l yX12_redo cX12_redo 1 (some .boolean) 2 0 0 (FX12_redo n) := Ct_of (by decide) hX (okX12_redo_0 hX n)
