theorem m_330 : (Cond.methodLink R_Mo 156 y_Mo_placeOf) ∈ w_all := List.mem_filter.mpr ⟨List.mem_of_getElem? (i := 927) (by decide +kernel), by decide +kernel⟩
theorem m_331 : (Cond.fieldLink R_Mo 65 "InspectRowsModel" "stop" "[I") ∈ w_all := List.mem_filter.mpr ⟨List.mem_of_getElem? (i := 746) (by decide +kernel), by decide +kernel⟩
theorem m_332 : (Cond.fieldLink R_Mo 164 "InspectRowsModel" "stops" "I") ∈ w_all := List.mem_filter.mpr ⟨List.mem_of_getElem? (i := 745) (by decide +kernel), by decide +kernel⟩
theorem m_333 : (Cond.methodLink R_Mo 160 y_Mo_reckon) ∈ w_all := List.mem_filter.mpr ⟨List.mem_of_getElem? (i := 930) (by decide +kernel), by decide +kernel⟩
theorem m_334 : (Cond.instanceMethod y_Mo_walk) ∈ w_all := List.mem_filter.mpr ⟨List.mem_of_getElem? (i := 924) (by decide +kernel), by decide +kernel⟩
theorem m_335 : (Cond.selects R_Mo y_Mo_walk y_Mo_walk) ∈ w_all := List.mem_filter.mpr ⟨List.mem_of_getElem? (i := 925) (by decide +kernel), by decide +kernel⟩
theorem m_336 : (Cond.code y_Mo_walk b_Mo_walk 15 (some .int)) ∈ w_all := List.mem_filter.mpr ⟨List.mem_of_getElem? (i := 926) (by decide +kernel), by decide +kernel⟩
theorem d_Mo_walk_0 : decode b_Mo_walk 0 = .ok (.iconst 0, 1) := by decide +kernel
theorem d_Mo_walk_1 : decode b_Mo_walk 1 = .ok (.istore 4, 2) := by decide +kernel
theorem d_Mo_walk_3 : decode b_Mo_walk 3 = .ok (.iconst 0, 1) := by decide +kernel
theorem d_Mo_walk_4 : decode b_Mo_walk 4 = .ok (.istore 5, 2) := by decide +kernel
theorem d_Mo_walk_6 : decode b_Mo_walk 6 = .ok (.iconst 0, 1) := by decide +kernel
theorem d_Mo_walk_7 : decode b_Mo_walk 7 = .ok (.istore 6, 2) := by decide +kernel
theorem d_Mo_walk_9 : decode b_Mo_walk 9 = .ok (.iload 6, 2) := by decide +kernel
theorem d_Mo_walk_11 : decode b_Mo_walk 11 = .ok (.iload_n 3, 1) := by decide +kernel
theorem d_Mo_walk_12 : decode b_Mo_walk 12 = .ok (.if_icmp .ge 84, 3) := by decide +kernel
theorem d_Mo_walk_15 : decode b_Mo_walk 15 = .ok (.iload 6, 2) := by decide +kernel
theorem d_Mo_walk_17 : decode b_Mo_walk 17 = .ok (.bipush 7, 2) := by decide +kernel
theorem d_Mo_walk_19 : decode b_Mo_walk 19 = .ok (.if_icmp .ge 77, 3) := by decide +kernel
theorem d_Mo_walk_22 : decode b_Mo_walk 22 = .ok (.iload 4, 2) := by decide +kernel
theorem d_Mo_walk_24 : decode b_Mo_walk 24 = .ok (.ifCond .ne 16, 3) := by decide +kernel
theorem d_Mo_walk_27 : decode b_Mo_walk 27 = .ok (.aload_n 0, 1) := by decide +kernel
theorem d_Mo_walk_28 : decode b_Mo_walk 28 = .ok (.lload_n 1, 1) := by decide +kernel
theorem d_Mo_walk_29 : decode b_Mo_walk 29 = .ok (.iload 6, 2) := by decide +kernel
theorem d_Mo_walk_31 : decode b_Mo_walk 31 = .ok (.invokestatic 156, 3) := by decide +kernel
theorem d_Mo_walk_34 : decode b_Mo_walk 34 = .ok (.invokevirtual 113, 3) := by decide +kernel
theorem d_Mo_walk_37 : decode b_Mo_walk 37 = .ok (.ifCond .ne 7, 3) := by decide +kernel
theorem d_Mo_walk_40 : decode b_Mo_walk 40 = .ok (.iconst 1, 1) := by decide +kernel
theorem d_Mo_walk_41 : decode b_Mo_walk 41 = .ok (.goto 4, 3) := by decide +kernel
theorem d_Mo_walk_44 : decode b_Mo_walk 44 = .ok (.iconst 0, 1) := by decide +kernel
theorem d_Mo_walk_45 : decode b_Mo_walk 45 = .ok (.istore 4, 2) := by decide +kernel
theorem d_Mo_walk_47 : decode b_Mo_walk 47 = .ok (.iconst 0, 1) := by decide +kernel
theorem d_Mo_walk_48 : decode b_Mo_walk 48 = .ok (.istore 7, 2) := by decide +kernel
theorem d_Mo_walk_50 : decode b_Mo_walk 50 = .ok (.iload 7, 2) := by decide +kernel
theorem d_Mo_walk_52 : decode b_Mo_walk 52 = .ok (.iload 6, 2) := by decide +kernel
theorem d_Mo_walk_54 : decode b_Mo_walk 54 = .ok (.if_icmp .ge 36, 3) := by decide +kernel
theorem d_Mo_walk_57 : decode b_Mo_walk 57 = .ok (.iload 5, 2) := by decide +kernel
theorem d_Mo_walk_59 : decode b_Mo_walk 59 = .ok (.ifCond .ne 18, 3) := by decide +kernel
theorem d_Mo_walk_62 : decode b_Mo_walk 62 = .ok (.lload_n 1, 1) := by decide +kernel
theorem d_Mo_walk_63 : decode b_Mo_walk 63 = .ok (.iload 7, 2) := by decide +kernel
theorem d_Mo_walk_65 : decode b_Mo_walk 65 = .ok (.invokestatic 156, 3) := by decide +kernel
theorem d_Mo_walk_68 : decode b_Mo_walk 68 = .ok (.lload_n 1, 1) := by decide +kernel
theorem d_Mo_walk_69 : decode b_Mo_walk 69 = .ok (.iload 6, 2) := by decide +kernel
theorem d_Mo_walk_71 : decode b_Mo_walk 71 = .ok (.invokestatic 156, 3) := by decide +kernel
theorem d_Mo_walk_74 : decode b_Mo_walk 74 = .ok (.if_icmp .ne 7, 3) := by decide +kernel
theorem d_Mo_walk_77 : decode b_Mo_walk 77 = .ok (.iconst 1, 1) := by decide +kernel
theorem d_Mo_walk_78 : decode b_Mo_walk 78 = .ok (.goto 4, 3) := by decide +kernel
theorem d_Mo_walk_81 : decode b_Mo_walk 81 = .ok (.iconst 0, 1) := by decide +kernel
theorem d_Mo_walk_82 : decode b_Mo_walk 82 = .ok (.istore 5, 2) := by decide +kernel
theorem d_Mo_walk_84 : decode b_Mo_walk 84 = .ok (.iinc 7 1, 3) := by decide +kernel
theorem d_Mo_walk_87 : decode b_Mo_walk 87 = .ok (.goto (-37), 3) := by decide +kernel
theorem d_Mo_walk_90 : decode b_Mo_walk 90 = .ok (.iinc 6 1, 3) := by decide +kernel
theorem d_Mo_walk_93 : decode b_Mo_walk 93 = .ok (.goto (-84), 3) := by decide +kernel
theorem d_Mo_walk_96 : decode b_Mo_walk 96 = .ok (.aload_n 0, 1) := by decide +kernel
theorem d_Mo_walk_97 : decode b_Mo_walk 97 = .ok (.iload 4, 2) := by decide +kernel
theorem d_Mo_walk_99 : decode b_Mo_walk 99 = .ok (.iload_n 3, 1) := by decide +kernel
theorem d_Mo_walk_100 : decode b_Mo_walk 100 = .ok (.iconst 0, 1) := by decide +kernel
theorem d_Mo_walk_101 : decode b_Mo_walk 101 = .ok (.bipush 7, 2) := by decide +kernel
theorem d_Mo_walk_103 : decode b_Mo_walk 103 = .ok (.invokestatic 100, 3) := by decide +kernel
theorem d_Mo_walk_106 : decode b_Mo_walk 106 = .ok (.ifCond .eq 8, 3) := by decide +kernel
theorem d_Mo_walk_109 : decode b_Mo_walk 109 = .ok (.iload 5, 2) := by decide +kernel
theorem d_Mo_walk_111 : decode b_Mo_walk 111 = .ok (.ifCond .eq 7, 3) := by decide +kernel
theorem d_Mo_walk_114 : decode b_Mo_walk 114 = .ok (.iconst 1, 1) := by decide +kernel
theorem d_Mo_walk_115 : decode b_Mo_walk 115 = .ok (.goto 4, 3) := by decide +kernel
theorem d_Mo_walk_118 : decode b_Mo_walk 118 = .ok (.iconst 0, 1) := by decide +kernel
theorem d_Mo_walk_119 : decode b_Mo_walk 119 = .ok (.iconst 0, 1) := by decide +kernel
theorem d_Mo_walk_120 : decode b_Mo_walk 120 = .ok (.invokevirtual 104, 3) := by decide +kernel
theorem d_Mo_walk_123 : decode b_Mo_walk 123 = .ok (.ifCond .eq 5, 3) := by decide +kernel
theorem d_Mo_walk_126 : decode b_Mo_walk 126 = .ok (.iconst 0, 1) := by decide +kernel
theorem d_Mo_walk_127 : decode b_Mo_walk 127 = .ok (.ireturn, 1) := by decide +kernel
theorem d_Mo_walk_128 : decode b_Mo_walk 128 = .ok (.iconst 0, 1) := by decide +kernel
theorem d_Mo_walk_129 : decode b_Mo_walk 129 = .ok (.istore 6, 2) := by decide +kernel
theorem d_Mo_walk_131 : decode b_Mo_walk 131 = .ok (.iload 6, 2) := by decide +kernel
theorem d_Mo_walk_133 : decode b_Mo_walk 133 = .ok (.iload_n 3, 1) := by decide +kernel
theorem d_Mo_walk_134 : decode b_Mo_walk 134 = .ok (.if_icmp .ge 22, 3) := by decide +kernel
theorem d_Mo_walk_137 : decode b_Mo_walk 137 = .ok (.aload_n 0, 1) := by decide +kernel
theorem d_Mo_walk_138 : decode b_Mo_walk 138 = .ok (.getfield 68, 3) := by decide +kernel
theorem d_Mo_walk_141 : decode b_Mo_walk 141 = .ok (.iload 6, 2) := by decide +kernel
theorem d_Mo_walk_143 : decode b_Mo_walk 143 = .ok (.lload_n 1, 1) := by decide +kernel
theorem d_Mo_walk_144 : decode b_Mo_walk 144 = .ok (.iload 6, 2) := by decide +kernel
theorem d_Mo_walk_146 : decode b_Mo_walk 146 = .ok (.invokestatic 156, 3) := by decide +kernel
theorem d_Mo_walk_149 : decode b_Mo_walk 149 = .ok (.iastore, 1) := by decide +kernel
theorem d_Mo_walk_150 : decode b_Mo_walk 150 = .ok (.iinc 6 1, 3) := by decide +kernel
theorem d_Mo_walk_153 : decode b_Mo_walk 153 = .ok (.goto (-22), 3) := by decide +kernel
theorem d_Mo_walk_156 : decode b_Mo_walk 156 = .ok (.aload_n 0, 1) := by decide +kernel
theorem d_Mo_walk_157 : decode b_Mo_walk 157 = .ok (.iload_n 3, 1) := by decide +kernel
theorem d_Mo_walk_158 : decode b_Mo_walk 158 = .ok (.invokevirtual 160, 3) := by decide +kernel
theorem d_Mo_walk_161 : decode b_Mo_walk 161 = .ok (.iload_n 3, 1) := by decide +kernel
theorem d_Mo_walk_162 : decode b_Mo_walk 162 = .ok (.ifCond .ne 7, 3) := by decide +kernel
theorem d_Mo_walk_165 : decode b_Mo_walk 165 = .ok (.iconst 0, 1) := by decide +kernel
theorem d_Mo_walk_166 : decode b_Mo_walk 166 = .ok (.goto 5, 3) := by decide +kernel
theorem d_Mo_walk_169 : decode b_Mo_walk 169 = .ok (.ldc 151, 2) := by decide +kernel
theorem d_Mo_walk_171 : decode b_Mo_walk 171 = .ok (.istore 6, 2) := by decide +kernel
theorem d_Mo_walk_173 : decode b_Mo_walk 173 = .ok (.iconst 0, 1) := by decide +kernel
theorem d_Mo_walk_174 : decode b_Mo_walk 174 = .ok (.istore 7, 2) := by decide +kernel
theorem d_Mo_walk_176 : decode b_Mo_walk 176 = .ok (.iload 7, 2) := by decide +kernel
theorem d_Mo_walk_178 : decode b_Mo_walk 178 = .ok (.iload_n 3, 1) := by decide +kernel
theorem d_Mo_walk_179 : decode b_Mo_walk 179 = .ok (.if_icmp .ge 54, 3) := by decide +kernel
theorem d_Mo_walk_182 : decode b_Mo_walk 182 = .ok (.aload_n 0, 1) := by decide +kernel
theorem d_Mo_walk_183 : decode b_Mo_walk 183 = .ok (.aload_n 0, 1) := by decide +kernel
theorem d_Mo_walk_184 : decode b_Mo_walk 184 = .ok (.getfield 68, 3) := by decide +kernel
theorem d_Mo_walk_187 : decode b_Mo_walk 187 = .ok (.iload 7, 2) := by decide +kernel
theorem d_Mo_walk_189 : decode b_Mo_walk 189 = .ok (.iaload, 1) := by decide +kernel
theorem d_Mo_walk_190 : decode b_Mo_walk 190 = .ok (.invokevirtual 148, 3) := by decide +kernel
theorem d_Mo_walk_193 : decode b_Mo_walk 193 = .ok (.aload_n 0, 1) := by decide +kernel
theorem d_Mo_walk_194 : decode b_Mo_walk 194 = .ok (.getfield 71, 3) := by decide +kernel
theorem d_Mo_walk_197 : decode b_Mo_walk 197 = .ok (.bipush 7, 2) := by decide +kernel
theorem d_Mo_walk_199 : decode b_Mo_walk 199 = .ok (.iconst 1, 1) := by decide +kernel
theorem d_Mo_walk_200 : decode b_Mo_walk 200 = .ok (.iload 7, 2) := by decide +kernel
theorem d_Mo_walk_202 : decode b_Mo_walk 202 = .ok (.ishl, 1) := by decide +kernel
theorem d_Mo_walk_203 : decode b_Mo_walk 203 = .ok (.imul, 1) := by decide +kernel
theorem d_Mo_walk_204 : decode b_Mo_walk 204 = .ok (.iload 7, 2) := by decide +kernel
theorem d_Mo_walk_206 : decode b_Mo_walk 206 = .ok (.iadd, 1) := by decide +kernel
theorem d_Mo_walk_207 : decode b_Mo_walk 207 = .ok (.iaload, 1) := by decide +kernel
theorem d_Mo_walk_208 : decode b_Mo_walk 208 = .ok (.iadd, 1) := by decide +kernel
theorem d_Mo_walk_209 : decode b_Mo_walk 209 = .ok (.istore 8, 2) := by decide +kernel
theorem d_Mo_walk_211 : decode b_Mo_walk 211 = .ok (.iload 8, 2) := by decide +kernel
theorem d_Mo_walk_213 : decode b_Mo_walk 213 = .ok (.iload 6, 2) := by decide +kernel
theorem d_Mo_walk_215 : decode b_Mo_walk 215 = .ok (.if_icmp .ge 8, 3) := by decide +kernel
theorem d_Mo_walk_218 : decode b_Mo_walk 218 = .ok (.iload 8, 2) := by decide +kernel
theorem d_Mo_walk_220 : decode b_Mo_walk 220 = .ok (.goto 5, 3) := by decide +kernel
theorem d_Mo_walk_223 : decode b_Mo_walk 223 = .ok (.iload 6, 2) := by decide +kernel
theorem d_Mo_walk_225 : decode b_Mo_walk 225 = .ok (.istore 6, 2) := by decide +kernel
theorem d_Mo_walk_227 : decode b_Mo_walk 227 = .ok (.iinc 7 1, 3) := by decide +kernel
theorem d_Mo_walk_230 : decode b_Mo_walk 230 = .ok (.goto (-54), 3) := by decide +kernel
theorem d_Mo_walk_233 : decode b_Mo_walk 233 = .ok (.aload_n 0, 1) := by decide +kernel
theorem d_Mo_walk_234 : decode b_Mo_walk 234 = .ok (.iload_n 3, 1) := by decide +kernel
theorem d_Mo_walk_235 : decode b_Mo_walk 235 = .ok (.putfield 164, 3) := by decide +kernel
theorem d_Mo_walk_238 : decode b_Mo_walk 238 = .ok (.iconst 0, 1) := by decide +kernel
theorem d_Mo_walk_239 : decode b_Mo_walk 239 = .ok (.istore 7, 2) := by decide +kernel
theorem d_Mo_walk_241 : decode b_Mo_walk 241 = .ok (.iconst (-1), 1) := by decide +kernel
theorem d_Mo_walk_242 : decode b_Mo_walk 242 = .ok (.istore 8, 2) := by decide +kernel
theorem d_Mo_walk_244 : decode b_Mo_walk 244 = .ok (.iload 6, 2) := by decide +kernel
theorem d_Mo_walk_246 : decode b_Mo_walk 246 = .ok (.istore 9, 2) := by decide +kernel
theorem d_Mo_walk_248 : decode b_Mo_walk 248 = .ok (.iconst 0, 1) := by decide +kernel
theorem d_Mo_walk_249 : decode b_Mo_walk 249 = .ok (.istore 10, 2) := by decide +kernel
theorem d_Mo_walk_251 : decode b_Mo_walk 251 = .ok (.iload 10, 2) := by decide +kernel
theorem d_Mo_walk_253 : decode b_Mo_walk 253 = .ok (.iload_n 3, 1) := by decide +kernel
theorem d_Mo_walk_254 : decode b_Mo_walk 254 = .ok (.if_icmp .ge 148, 3) := by decide +kernel
theorem d_Mo_walk_257 : decode b_Mo_walk 257 = .ok (.iconst (-1), 1) := by decide +kernel
theorem d_Mo_walk_258 : decode b_Mo_walk 258 = .ok (.istore 11, 2) := by decide +kernel
theorem d_Mo_walk_260 : decode b_Mo_walk 260 = .ok (.iconst 0, 1) := by decide +kernel
theorem d_Mo_walk_261 : decode b_Mo_walk 261 = .ok (.istore 12, 2) := by decide +kernel
theorem d_Mo_walk_263 : decode b_Mo_walk 263 = .ok (.iload_n 3, 1) := by decide +kernel
theorem d_Mo_walk_264 : decode b_Mo_walk 264 = .ok (.iconst 1, 1) := by decide +kernel
theorem d_Mo_walk_265 : decode b_Mo_walk 265 = .ok (.isub, 1) := by decide +kernel
theorem d_Mo_walk_266 : decode b_Mo_walk 266 = .ok (.istore 13, 2) := by decide +kernel
theorem d_Mo_walk_268 : decode b_Mo_walk 268 = .ok (.iload 13, 2) := by decide +kernel
theorem d_Mo_walk_270 : decode b_Mo_walk 270 = .ok (.ifCond .lt 92, 3) := by decide +kernel
theorem d_Mo_walk_273 : decode b_Mo_walk 273 = .ok (.iload 8, 2) := by decide +kernel
theorem d_Mo_walk_275 : decode b_Mo_walk 275 = .ok (.ifCond .ge 17, 3) := by decide +kernel
theorem d_Mo_walk_278 : decode b_Mo_walk 278 = .ok (.aload_n 0, 1) := by decide +kernel
theorem d_Mo_walk_279 : decode b_Mo_walk 279 = .ok (.aload_n 0, 1) := by decide +kernel
theorem d_Mo_walk_280 : decode b_Mo_walk 280 = .ok (.getfield 68, 3) := by decide +kernel
theorem d_Mo_walk_283 : decode b_Mo_walk 283 = .ok (.iload 13, 2) := by decide +kernel
theorem d_Mo_walk_285 : decode b_Mo_walk 285 = .ok (.iaload, 1) := by decide +kernel
theorem d_Mo_walk_286 : decode b_Mo_walk 286 = .ok (.invokevirtual 148, 3) := by decide +kernel
theorem d_Mo_walk_289 : decode b_Mo_walk 289 = .ok (.goto 21, 3) := by decide +kernel
theorem d_Mo_walk_292 : decode b_Mo_walk 292 = .ok (.aload_n 0, 1) := by decide +kernel
theorem d_Mo_walk_293 : decode b_Mo_walk 293 = .ok (.aload_n 0, 1) := by decide +kernel
theorem d_Mo_walk_294 : decode b_Mo_walk 294 = .ok (.getfield 68, 3) := by decide +kernel
theorem d_Mo_walk_297 : decode b_Mo_walk 297 = .ok (.iload 8, 2) := by decide +kernel
theorem d_Mo_walk_299 : decode b_Mo_walk 299 = .ok (.iaload, 1) := by decide +kernel
theorem d_Mo_walk_300 : decode b_Mo_walk 300 = .ok (.aload_n 0, 1) := by decide +kernel
theorem d_Mo_walk_301 : decode b_Mo_walk 301 = .ok (.getfield 68, 3) := by decide +kernel
theorem d_Mo_walk_304 : decode b_Mo_walk 304 = .ok (.iload 13, 2) := by decide +kernel
theorem d_Mo_walk_306 : decode b_Mo_walk 306 = .ok (.iaload, 1) := by decide +kernel
theorem d_Mo_walk_307 : decode b_Mo_walk 307 = .ok (.invokevirtual 152, 3) := by decide +kernel
theorem d_Mo_walk_310 : decode b_Mo_walk 310 = .ok (.istore 14, 2) := by decide +kernel
theorem d_Mo_walk_312 : decode b_Mo_walk 312 = .ok (.iload 7, 2) := by decide +kernel
theorem d_Mo_walk_314 : decode b_Mo_walk 314 = .ok (.iload 13, 2) := by decide +kernel
theorem d_Mo_walk_316 : decode b_Mo_walk 316 = .ok (.ishr, 1) := by decide +kernel
theorem d_Mo_walk_317 : decode b_Mo_walk 317 = .ok (.iconst 1, 1) := by decide +kernel
theorem d_Mo_walk_318 : decode b_Mo_walk 318 = .ok (.iand, 1) := by decide +kernel
theorem d_Mo_walk_319 : decode b_Mo_walk 319 = .ok (.ifCond .ne 37, 3) := by decide +kernel
theorem d_Mo_walk_322 : decode b_Mo_walk 322 = .ok (.iload 14, 2) := by decide +kernel
theorem d_Mo_walk_324 : decode b_Mo_walk 324 = .ok (.aload_n 0, 1) := by decide +kernel
theorem d_Mo_walk_325 : decode b_Mo_walk 325 = .ok (.getfield 71, 3) := by decide +kernel
theorem d_Mo_walk_328 : decode b_Mo_walk 328 = .ok (.bipush 7, 2) := by decide +kernel
theorem d_Mo_walk_330 : decode b_Mo_walk 330 = .ok (.iload 7, 2) := by decide +kernel
theorem d_Mo_walk_332 : decode b_Mo_walk 332 = .ok (.iconst 1, 1) := by decide +kernel
theorem d_Mo_walk_333 : decode b_Mo_walk 333 = .ok (.iload 13, 2) := by decide +kernel
theorem d_Mo_walk_335 : decode b_Mo_walk 335 = .ok (.ishl, 1) := by decide +kernel
theorem d_Mo_walk_336 : decode b_Mo_walk 336 = .ok (.ior, 1) := by decide +kernel
theorem d_Mo_walk_337 : decode b_Mo_walk 337 = .ok (.imul, 1) := by decide +kernel
theorem d_Mo_walk_338 : decode b_Mo_walk 338 = .ok (.iload 13, 2) := by decide +kernel
theorem d_Mo_walk_340 : decode b_Mo_walk 340 = .ok (.iadd, 1) := by decide +kernel
theorem d_Mo_walk_341 : decode b_Mo_walk 341 = .ok (.iaload, 1) := by decide +kernel
theorem d_Mo_walk_342 : decode b_Mo_walk 342 = .ok (.iadd, 1) := by decide +kernel
theorem d_Mo_walk_343 : decode b_Mo_walk 343 = .ok (.iload 9, 2) := by decide +kernel
theorem d_Mo_walk_345 : decode b_Mo_walk 345 = .ok (.if_icmp .ne 11, 3) := by decide +kernel
theorem d_Mo_walk_348 : decode b_Mo_walk 348 = .ok (.iload 13, 2) := by decide +kernel
theorem d_Mo_walk_350 : decode b_Mo_walk 350 = .ok (.istore 11, 2) := by decide +kernel
theorem d_Mo_walk_352 : decode b_Mo_walk 352 = .ok (.iload 14, 2) := by decide +kernel
theorem d_Mo_walk_354 : decode b_Mo_walk 354 = .ok (.istore 12, 2) := by decide +kernel
theorem d_Mo_walk_356 : decode b_Mo_walk 356 = .ok (.iinc 13 (-1), 3) := by decide +kernel
theorem d_Mo_walk_359 : decode b_Mo_walk 359 = .ok (.goto (-91), 3) := by decide +kernel
theorem d_Mo_walk_362 : decode b_Mo_walk 362 = .ok (.aload_n 0, 1) := by decide +kernel
theorem d_Mo_walk_363 : decode b_Mo_walk 363 = .ok (.getfield 65, 3) := by decide +kernel
theorem d_Mo_walk_366 : decode b_Mo_walk 366 = .ok (.iload 10, 2) := by decide +kernel
theorem d_Mo_walk_368 : decode b_Mo_walk 368 = .ok (.aload_n 0, 1) := by decide +kernel
theorem d_Mo_walk_369 : decode b_Mo_walk 369 = .ok (.getfield 68, 3) := by decide +kernel
theorem d_Mo_walk_372 : decode b_Mo_walk 372 = .ok (.iload 11, 2) := by decide +kernel
theorem d_Mo_walk_374 : decode b_Mo_walk 374 = .ok (.iaload, 1) := by decide +kernel
theorem d_Mo_walk_375 : decode b_Mo_walk 375 = .ok (.iastore, 1) := by decide +kernel
theorem d_Mo_walk_376 : decode b_Mo_walk 376 = .ok (.iload 7, 2) := by decide +kernel
theorem d_Mo_walk_378 : decode b_Mo_walk 378 = .ok (.iconst 1, 1) := by decide +kernel
theorem d_Mo_walk_379 : decode b_Mo_walk 379 = .ok (.iload 11, 2) := by decide +kernel
theorem d_Mo_walk_381 : decode b_Mo_walk 381 = .ok (.ishl, 1) := by decide +kernel
theorem d_Mo_walk_382 : decode b_Mo_walk 382 = .ok (.ior, 1) := by decide +kernel
theorem d_Mo_walk_383 : decode b_Mo_walk 383 = .ok (.istore 7, 2) := by decide +kernel
theorem d_Mo_walk_385 : decode b_Mo_walk 385 = .ok (.iload 11, 2) := by decide +kernel
theorem d_Mo_walk_387 : decode b_Mo_walk 387 = .ok (.istore 8, 2) := by decide +kernel
theorem d_Mo_walk_389 : decode b_Mo_walk 389 = .ok (.iload 9, 2) := by decide +kernel
theorem d_Mo_walk_391 : decode b_Mo_walk 391 = .ok (.iload 12, 2) := by decide +kernel
theorem d_Mo_walk_393 : decode b_Mo_walk 393 = .ok (.isub, 1) := by decide +kernel
theorem d_Mo_walk_394 : decode b_Mo_walk 394 = .ok (.istore 9, 2) := by decide +kernel
theorem d_Mo_walk_396 : decode b_Mo_walk 396 = .ok (.iinc 10 1, 3) := by decide +kernel
theorem d_Mo_walk_399 : decode b_Mo_walk 399 = .ok (.goto (-148), 3) := by decide +kernel
theorem d_Mo_walk_402 : decode b_Mo_walk 402 = .ok (.iload 6, 2) := by decide +kernel
theorem d_Mo_walk_404 : decode b_Mo_walk 404 = .ok (.ireturn, 1) := by decide +kernel
set_option maxHeartbeats 4000000 in
set_option maxRecDepth 100000 in
theorem l_Mo_walk_50 {p : Program} {l : Launch} {e : Env} {s : State} {m : MethodId} {args : Array Value} {below : List Frame} {meth : Method} {c : Code} {dC : Nat → ClassId} {dI : Nat → Nat → Nat} {L : Nat → Nat} {cA : Nat → ClassId} {Q : State → Prop} (a0 : Int64) (a1 : Int32) (u4 : Int32) (u6 : Int32) (hF : CallFix p m c b_Mo_walk 15 s args w_all R_Mo) (hK : kW_M dC dI cA s) (hL : ij 25 L) : ∀ (n : Nat) (v5 : Int32) (v7 : Int32) (ar : Nat → Nat → Int32) (sc : Nat → Int32), q_Mo_walk_50 a0 a1 u4 u6 n v5 v7 ar sc → ∀ (H : Heap) (locs : List Loc), va_P (dC, dI) classes (wM L cA ar sc) H → va_S (aM L) s.heap H locs → ∀ (ls : Array Slot), lv_has ls 15 [(5, .int v5), (7, .int v7), (0, .ref (L 0)), (1, .long a0), (3, .int a1), (4, .int u4), (6, .int u6)] → (∀ (H : Heap) (locs : List Loc) (ls : Array Slot), va_P (dC, dI) classes (wM L cA ((g_Mo_walk_50 a0 a1 u4 u6 n v5 v7 ar sc).2.2.1) ((g_Mo_walk_50 a0 a1 u4 u6 n v5 v7 ar sc).2.2.2)) H → va_S (aM L) s.heap H locs → lv_has ls 15 [(5, .int ((g_Mo_walk_50 a0 a1 u4 u6 n v5 v7 ar sc).1)), (7, .int ((g_Mo_walk_50 a0 a1 u4 u6 n v5 v7 ar sc).2.1)), (0, .ref (L 0)), (1, .long a0), (3, .int a1), (4, .int u4), (6, .int u6)] → W p l e (rmD 5) s m args below meth c H locs 0 0 Q (F0 m 90 ls [])) → W p l e (rmD 5) s m args below meth c H locs 0 0 Q (F0 m 50 ls []) := by
  have hx := hF.1
  have hb := hF.2.1
  have hown := hF.2.2.2.1
  have hts := hF.2.2.2.2
  intro n
  induction n with
  | zero => intro v5 v7 ar sc h; exact False.elim h
  | succ n ih =>
    intro v5 v7 ar sc h H locs hP hS ls hl hk
    rw [q_Mo_walk_50] at h
    refine lv_iload hx hb d_Mo_walk_50 (lv_at hl 1 rfl) ?_
    refine lv_iload hx hb d_Mo_walk_52 (lv_at hl 6 rfl) ?_
    refine lv_icmp_ge (tgt := 90) hx hb d_Mo_walk_54 (by decide) (fun c54 => ?_) (fun c54 => ?_)
    · have h := h.1 c54
      have hv : g_Mo_walk_50 a0 a1 u4 u6 (n + 1) v5 v7 ar sc = ((v5, v7, ar, sc) : Int32 × Int32 × (Nat → Nat → Int32) × (Nat → Int32)) := by rw [g_Mo_walk_50, if_pos c54]
      rw [hv] at hk
      exact hk _ _ ls hP hS (lv_sub hl [0, 1, 2, 3, 4, 5, 6] rfl)
    · have h := h.2 c54
      refine lv_iload hx hb d_Mo_walk_57 (lv_at hl 0 rfl) ?_
      refine lv_if_ne (tgt := 77) hx hb d_Mo_walk_59 (by decide) (fun c59 => ?_) (fun c59 => ?_)
      · have h := h.2 c59
        refine lv_iconst (v := 1) hx hb d_Mo_walk_77 (by decide) ?_
        refine lv_goto (tgt := 82) hx hb d_Mo_walk_78 (by decide) ?_
        refine lv_istore (lv' := [(5, .int 1), (7, .int v7), (0, .ref (L 0)), (1, .long a0), (3, .int a1), (4, .int u4), (6, .int u6)]) hx hb d_Mo_walk_82 hl (by decide) rfl (fun ls hl => ?_)
        refine lv_iinc (v := v7 + 1) (lv' := [(7, .int (v7 + 1)), (5, .int 1), (0, .ref (L 0)), (1, .long a0), (3, .int a1), (4, .int u4), (6, .int u6)]) hx hb d_Mo_walk_84 hl (k := 1) rfl rfl (by decide) rfl (fun ls hl => ?_)
        refine lv_goto (tgt := 50) hx hb d_Mo_walk_87 (by decide) ?_
        have hv : g_Mo_walk_50 a0 a1 u4 u6 (n + 1) v5 v7 ar sc = g_Mo_walk_50 a0 a1 u4 u6 n 1 (v7 + 1) ar sc := by rw [g_Mo_walk_50, if_neg c54, if_neg c59]
        rw [hv] at hk
        exact ih 1 (v7 + 1) ar sc h _ _ hP hS ls (lv_sub hl [1, 0, 2, 3, 4, 5, 6] rfl) hk
      · have h := h.1 c59
        refine lv_lload_n hx hb d_Mo_walk_62 rfl (lv_at hl 3 rfl) ?_
        refine lv_iload hx hb d_Mo_walk_63 (lv_at hl 1 rfl) ?_
        refine r_Mo_placeOf hF m_330 hl.1 ⟨Nat.le_of_ble_eq_true rfl, Nat.le_of_ble_eq_true rfl⟩ ⟨Nat.zero_le _, Nat.zero_le _⟩ (Nat.le_of_ble_eq_true rfl) d_Mo_walk_65 ?_
        refine lv_lload_n hx hb d_Mo_walk_68 rfl (lv_at hl 3 rfl) ?_
        refine lv_iload hx hb d_Mo_walk_69 (lv_at hl 6 rfl) ?_
        refine r_Mo_placeOf hF m_330 hl.1 ⟨Nat.le_of_ble_eq_true rfl, Nat.le_of_ble_eq_true rfl⟩ ⟨Nat.zero_le _, Nat.zero_le _⟩ (Nat.le_of_ble_eq_true rfl) d_Mo_walk_71 ?_
        refine lv_icmp_ne (tgt := 81) hx hb d_Mo_walk_74 (by decide) (fun c74 => ?_) (fun c74 => ?_)
        · have h := h.2 c74
          refine lv_iconst (v := 0) hx hb d_Mo_walk_81 (by decide) ?_
          refine lv_istore (lv' := [(5, .int 0), (7, .int v7), (0, .ref (L 0)), (1, .long a0), (3, .int a1), (4, .int u4), (6, .int u6)]) hx hb d_Mo_walk_82 hl (by decide) rfl (fun ls hl => ?_)
          refine lv_iinc (v := v7 + 1) (lv' := [(7, .int (v7 + 1)), (5, .int 0), (0, .ref (L 0)), (1, .long a0), (3, .int a1), (4, .int u4), (6, .int u6)]) hx hb d_Mo_walk_84 hl (k := 1) rfl rfl (by decide) rfl (fun ls hl => ?_)
          refine lv_goto (tgt := 50) hx hb d_Mo_walk_87 (by decide) ?_
          have hv : g_Mo_walk_50 a0 a1 u4 u6 (n + 1) v5 v7 ar sc = g_Mo_walk_50 a0 a1 u4 u6 n 0 (v7 + 1) ar sc := by rw [g_Mo_walk_50, if_neg c54, if_pos c59, if_neg c74]
          rw [hv] at hk
          exact ih 0 (v7 + 1) ar sc h _ _ hP hS ls (lv_sub hl [1, 0, 2, 3, 4, 5, 6] rfl) hk
        · have h := h.1 c74
          refine lv_iconst (v := 1) hx hb d_Mo_walk_77 (by decide) ?_
          refine lv_goto (tgt := 82) hx hb d_Mo_walk_78 (by decide) ?_
          refine lv_istore (lv' := [(5, .int 1), (7, .int v7), (0, .ref (L 0)), (1, .long a0), (3, .int a1), (4, .int u4), (6, .int u6)]) hx hb d_Mo_walk_82 hl (by decide) rfl (fun ls hl => ?_)
          refine lv_iinc (v := v7 + 1) (lv' := [(7, .int (v7 + 1)), (5, .int 1), (0, .ref (L 0)), (1, .long a0), (3, .int a1), (4, .int u4), (6, .int u6)]) hx hb d_Mo_walk_84 hl (k := 1) rfl rfl (by decide) rfl (fun ls hl => ?_)
          refine lv_goto (tgt := 50) hx hb d_Mo_walk_87 (by decide) ?_
          have hv : g_Mo_walk_50 a0 a1 u4 u6 (n + 1) v5 v7 ar sc = g_Mo_walk_50 a0 a1 u4 u6 n 1 (v7 + 1) ar sc := by rw [g_Mo_walk_50, if_neg c54, if_pos c59, if_pos c74]
          rw [hv] at hk
          exact ih 1 (v7 + 1) ar sc h _ _ hP hS ls (lv_sub hl [1, 0, 2, 3, 4, 5, 6] rfl) hk
set_option maxHeartbeats 4000000 in
set_option maxRecDepth 100000 in
theorem l_Mo_walk_9 {p : Program} {l : Launch} {e : Env} {s : State} {m : MethodId} {args : Array Value} {below : List Frame} {meth : Method} {c : Code} {dC : Nat → ClassId} {dI : Nat → Nat → Nat} {L : Nat → Nat} {cA : Nat → ClassId} {Q : State → Prop} (a0 : Int64) (a1 : Int32)  (hF : CallFix p m c b_Mo_walk 15 s args w_all R_Mo) (hK : kW_M dC dI cA s) (hL : ij 25 L) : ∀ (n : Nat) (v4 : Int32) (v5 : Int32) (v6 : Int32) (ar : Nat → Nat → Int32) (sc : Nat → Int32), q_Mo_walk_9 a0 a1 n v4 v5 v6 ar sc → ∀ (H : Heap) (locs : List Loc), va_P (dC, dI) classes (wM L cA ar sc) H → va_S (aM L) s.heap H locs → ∀ (ls : Array Slot), lv_has ls 15 [(4, .int v4), (5, .int v5), (6, .int v6), (0, .ref (L 0)), (1, .long a0), (3, .int a1)] → (∀ (H : Heap) (locs : List Loc) (ls : Array Slot), va_P (dC, dI) classes (wM L cA ((g_Mo_walk_9 a0 a1 n v4 v5 v6 ar sc).2.2.2.1) ((g_Mo_walk_9 a0 a1 n v4 v5 v6 ar sc).2.2.2.2)) H → va_S (aM L) s.heap H locs → lv_has ls 15 [(4, .int ((g_Mo_walk_9 a0 a1 n v4 v5 v6 ar sc).1)), (5, .int ((g_Mo_walk_9 a0 a1 n v4 v5 v6 ar sc).2.1)), (6, .int ((g_Mo_walk_9 a0 a1 n v4 v5 v6 ar sc).2.2.1)), (0, .ref (L 0)), (1, .long a0), (3, .int a1)] → W p l e (rmD 5) s m args below meth c H locs 0 0 Q (F0 m 96 ls [])) → W p l e (rmD 5) s m args below meth c H locs 0 0 Q (F0 m 9 ls []) := by
  have hx := hF.1
  have hb := hF.2.1
  have hown := hF.2.2.2.1
  have hts := hF.2.2.2.2
  intro n
  induction n with
  | zero => intro v4 v5 v6 ar sc h; exact False.elim h
  | succ n ih =>
    intro v4 v5 v6 ar sc h H locs hP hS ls hl hk
    rw [q_Mo_walk_9] at h
    refine lv_iload hx hb d_Mo_walk_9 (lv_at hl 2 rfl) ?_
    refine lv_iload_n hx hb d_Mo_walk_11 rfl (lv_at hl 5 rfl) ?_
    refine lv_icmp_ge (tgt := 96) hx hb d_Mo_walk_12 (by decide) (fun c12 => ?_) (fun c12 => ?_)
    · have h := h.1 c12
      have hv : g_Mo_walk_9 a0 a1 (n + 1) v4 v5 v6 ar sc = ((v4, v5, v6, ar, sc) : Int32 × Int32 × Int32 × (Nat → Nat → Int32) × (Nat → Int32)) := by rw [g_Mo_walk_9, if_pos c12]
      rw [hv] at hk
      exact hk _ _ ls hP hS (lv_sub hl [0, 1, 2, 3, 4, 5] rfl)
    · have h := h.2 c12
      refine lv_iload hx hb d_Mo_walk_15 (lv_at hl 2 rfl) ?_
      refine lv_bipush (v := 7) hx hb d_Mo_walk_17 (by decide) ?_
      refine lv_icmp_ge (tgt := 96) hx hb d_Mo_walk_19 (by decide) (fun c19 => ?_) (fun c19 => ?_)
      · have h := h.1 c19
        have hv : g_Mo_walk_9 a0 a1 (n + 1) v4 v5 v6 ar sc = ((v4, v5, v6, ar, sc) : Int32 × Int32 × Int32 × (Nat → Nat → Int32) × (Nat → Int32)) := by rw [g_Mo_walk_9, if_neg c12, if_pos c19]
        rw [hv] at hk
        exact hk _ _ ls hP hS (lv_sub hl [0, 1, 2, 3, 4, 5] rfl)
      · have h := h.2 c19
        refine lv_iload hx hb d_Mo_walk_22 (lv_at hl 0 rfl) ?_
        refine lv_if_ne (tgt := 40) hx hb d_Mo_walk_24 (by decide) (fun c24 => ?_) (fun c24 => ?_)
        · have h := h.2 c24
          refine lv_iconst (v := 1) hx hb d_Mo_walk_40 (by decide) ?_
          refine lv_goto (tgt := 45) hx hb d_Mo_walk_41 (by decide) ?_
          refine lv_istore (lv' := [(4, .int 1), (5, .int v5), (6, .int v6), (0, .ref (L 0)), (1, .long a0), (3, .int a1)]) hx hb d_Mo_walk_45 hl (by decide) rfl (fun ls hl => ?_)
          refine lv_iconst (v := 0) hx hb d_Mo_walk_47 (by decide) ?_
          refine lv_istore (lv' := [(7, .int 0), (4, .int 1), (5, .int v5), (6, .int v6), (0, .ref (L 0)), (1, .long a0), (3, .int a1)]) hx hb d_Mo_walk_48 hl (by decide) rfl (fun ls hl => ?_)
          have kL50 := h.1
          have h := h.2
          refine l_Mo_walk_50 a0 a1 1 v6 hF hK hL 200 v5 0 ar sc kL50 _ _ hP hS ls (lv_sub hl [2, 0, 4, 5, 6, 1, 3] rfl) (fun H locs ls hP hS hl => ?_)
          refine lv_iinc (v := v6 + 1) (lv' := [(6, .int (v6 + 1)), (5, .int ((g_Mo_walk_50 a0 a1 1 v6 200 v5 0 ar sc).1)), (7, .int ((g_Mo_walk_50 a0 a1 1 v6 200 v5 0 ar sc).2.1)), (0, .ref (L 0)), (1, .long a0), (3, .int a1), (4, .int 1)]) hx hb d_Mo_walk_90 hl (k := 6) rfl rfl (by decide) rfl (fun ls hl => ?_)
          refine lv_goto (tgt := 9) hx hb d_Mo_walk_93 (by decide) ?_
          have hv : g_Mo_walk_9 a0 a1 (n + 1) v4 v5 v6 ar sc = g_Mo_walk_9 a0 a1 n 1 ((g_Mo_walk_50 a0 a1 1 v6 200 v5 0 ar sc).1) (v6 + 1) ((g_Mo_walk_50 a0 a1 1 v6 200 v5 0 ar sc).2.2.1) ((g_Mo_walk_50 a0 a1 1 v6 200 v5 0 ar sc).2.2.2) := by rw [g_Mo_walk_9, if_neg c12, if_neg c19, if_neg c24]
          rw [hv] at hk
          exact ih 1 ((g_Mo_walk_50 a0 a1 1 v6 200 v5 0 ar sc).1) (v6 + 1) ((g_Mo_walk_50 a0 a1 1 v6 200 v5 0 ar sc).2.2.1) ((g_Mo_walk_50 a0 a1 1 v6 200 v5 0 ar sc).2.2.2) h _ _ hP hS ls (lv_sub hl [6, 1, 0, 3, 4, 5] rfl) hk
        · have h := h.1 c24
          refine lv_aload_n hx hb d_Mo_walk_27 rfl (lv_at hl 3 rfl) ?_
          refine lv_lload_n hx hb d_Mo_walk_28 rfl (lv_at hl 4 rfl) ?_
          refine lv_iload hx hb d_Mo_walk_29 (lv_at hl 2 rfl) ?_
          refine r_Mo_placeOf hF m_330 hl.1 ⟨Nat.le_of_ble_eq_true rfl, Nat.le_of_ble_eq_true rfl⟩ ⟨Nat.zero_le _, Nat.zero_le _⟩ (Nat.le_of_ble_eq_true rfl) d_Mo_walk_31 ?_
          refine r_Mo_isPoint hF hK hP m_302 hl.1 ⟨Nat.le_of_ble_eq_true rfl, Nat.le_of_ble_eq_true rfl⟩ ⟨Nat.zero_le _, Nat.zero_le _⟩ (Nat.le_of_ble_eq_true rfl) d_Mo_walk_34 ?_
          refine lv_if_ne (tgt := 44) hx hb d_Mo_walk_37 (by decide) (fun c37 => ?_) (fun c37 => ?_)
          · have h := h.2 c37
            refine lv_iconst (v := 0) hx hb d_Mo_walk_44 (by decide) ?_
            refine lv_istore (lv' := [(4, .int 0), (5, .int v5), (6, .int v6), (0, .ref (L 0)), (1, .long a0), (3, .int a1)]) hx hb d_Mo_walk_45 hl (by decide) rfl (fun ls hl => ?_)
            refine lv_iconst (v := 0) hx hb d_Mo_walk_47 (by decide) ?_
            refine lv_istore (lv' := [(7, .int 0), (4, .int 0), (5, .int v5), (6, .int v6), (0, .ref (L 0)), (1, .long a0), (3, .int a1)]) hx hb d_Mo_walk_48 hl (by decide) rfl (fun ls hl => ?_)
            have kL50 := h.1
            have h := h.2
            refine l_Mo_walk_50 a0 a1 0 v6 hF hK hL 200 v5 0 ar sc kL50 _ _ hP hS ls (lv_sub hl [2, 0, 4, 5, 6, 1, 3] rfl) (fun H locs ls hP hS hl => ?_)
            refine lv_iinc (v := v6 + 1) (lv' := [(6, .int (v6 + 1)), (5, .int ((g_Mo_walk_50 a0 a1 0 v6 200 v5 0 ar sc).1)), (7, .int ((g_Mo_walk_50 a0 a1 0 v6 200 v5 0 ar sc).2.1)), (0, .ref (L 0)), (1, .long a0), (3, .int a1), (4, .int 0)]) hx hb d_Mo_walk_90 hl (k := 6) rfl rfl (by decide) rfl (fun ls hl => ?_)
            refine lv_goto (tgt := 9) hx hb d_Mo_walk_93 (by decide) ?_
            have hv : g_Mo_walk_9 a0 a1 (n + 1) v4 v5 v6 ar sc = g_Mo_walk_9 a0 a1 n 0 ((g_Mo_walk_50 a0 a1 0 v6 200 v5 0 ar sc).1) (v6 + 1) ((g_Mo_walk_50 a0 a1 0 v6 200 v5 0 ar sc).2.2.1) ((g_Mo_walk_50 a0 a1 0 v6 200 v5 0 ar sc).2.2.2) := by rw [g_Mo_walk_9, if_neg c12, if_neg c19, if_pos c24, if_neg c37]
            rw [hv] at hk
            exact ih 0 ((g_Mo_walk_50 a0 a1 0 v6 200 v5 0 ar sc).1) (v6 + 1) ((g_Mo_walk_50 a0 a1 0 v6 200 v5 0 ar sc).2.2.1) ((g_Mo_walk_50 a0 a1 0 v6 200 v5 0 ar sc).2.2.2) h _ _ hP hS ls (lv_sub hl [6, 1, 0, 3, 4, 5] rfl) hk
          · have h := h.1 c37
            refine lv_iconst (v := 1) hx hb d_Mo_walk_40 (by decide) ?_
            refine lv_goto (tgt := 45) hx hb d_Mo_walk_41 (by decide) ?_
            refine lv_istore (lv' := [(4, .int 1), (5, .int v5), (6, .int v6), (0, .ref (L 0)), (1, .long a0), (3, .int a1)]) hx hb d_Mo_walk_45 hl (by decide) rfl (fun ls hl => ?_)
            refine lv_iconst (v := 0) hx hb d_Mo_walk_47 (by decide) ?_
            refine lv_istore (lv' := [(7, .int 0), (4, .int 1), (5, .int v5), (6, .int v6), (0, .ref (L 0)), (1, .long a0), (3, .int a1)]) hx hb d_Mo_walk_48 hl (by decide) rfl (fun ls hl => ?_)
            have kL50 := h.1
            have h := h.2
            refine l_Mo_walk_50 a0 a1 1 v6 hF hK hL 200 v5 0 ar sc kL50 _ _ hP hS ls (lv_sub hl [2, 0, 4, 5, 6, 1, 3] rfl) (fun H locs ls hP hS hl => ?_)
            refine lv_iinc (v := v6 + 1) (lv' := [(6, .int (v6 + 1)), (5, .int ((g_Mo_walk_50 a0 a1 1 v6 200 v5 0 ar sc).1)), (7, .int ((g_Mo_walk_50 a0 a1 1 v6 200 v5 0 ar sc).2.1)), (0, .ref (L 0)), (1, .long a0), (3, .int a1), (4, .int 1)]) hx hb d_Mo_walk_90 hl (k := 6) rfl rfl (by decide) rfl (fun ls hl => ?_)
            refine lv_goto (tgt := 9) hx hb d_Mo_walk_93 (by decide) ?_
            have hv : g_Mo_walk_9 a0 a1 (n + 1) v4 v5 v6 ar sc = g_Mo_walk_9 a0 a1 n 1 ((g_Mo_walk_50 a0 a1 1 v6 200 v5 0 ar sc).1) (v6 + 1) ((g_Mo_walk_50 a0 a1 1 v6 200 v5 0 ar sc).2.2.1) ((g_Mo_walk_50 a0 a1 1 v6 200 v5 0 ar sc).2.2.2) := by rw [g_Mo_walk_9, if_neg c12, if_neg c19, if_pos c24, if_pos c37]
            rw [hv] at hk
            exact ih 1 ((g_Mo_walk_50 a0 a1 1 v6 200 v5 0 ar sc).1) (v6 + 1) ((g_Mo_walk_50 a0 a1 1 v6 200 v5 0 ar sc).2.2.1) ((g_Mo_walk_50 a0 a1 1 v6 200 v5 0 ar sc).2.2.2) h _ _ hP hS ls (lv_sub hl [6, 1, 0, 3, 4, 5] rfl) hk
set_option maxHeartbeats 4000000 in
set_option maxRecDepth 100000 in
theorem l_Mo_walk_131 {p : Program} {l : Launch} {e : Env} {s : State} {m : MethodId} {args : Array Value} {below : List Frame} {meth : Method} {c : Code} {dC : Nat → ClassId} {dI : Nat → Nat → Nat} {L : Nat → Nat} {cA : Nat → ClassId} {Q : State → Prop} (a0 : Int64) (a1 : Int32) (u4 : Int32) (u5 : Int32) (hF : CallFix p m c b_Mo_walk 15 s args w_all R_Mo) (hK : kW_M dC dI cA s) (hL : ij 25 L) : ∀ (n : Nat) (v6 : Int32) (ar : Nat → Nat → Int32) (sc : Nat → Int32), q_Mo_walk_131 a0 a1 u4 u5 n v6 ar sc → ∀ (H : Heap) (locs : List Loc), va_P (dC, dI) classes (wM L cA ar sc) H → va_S (aM L) s.heap H locs → ∀ (ls : Array Slot), lv_has ls 15 [(6, .int v6), (0, .ref (L 0)), (1, .long a0), (3, .int a1), (4, .int u4), (5, .int u5)] → (∀ (H : Heap) (locs : List Loc) (ls : Array Slot), va_P (dC, dI) classes (wM L cA ((g_Mo_walk_131 a0 a1 u4 u5 n v6 ar sc).2.1) ((g_Mo_walk_131 a0 a1 u4 u5 n v6 ar sc).2.2)) H → va_S (aM L) s.heap H locs → lv_has ls 15 [(6, .int ((g_Mo_walk_131 a0 a1 u4 u5 n v6 ar sc).1)), (0, .ref (L 0)), (1, .long a0), (3, .int a1), (4, .int u4), (5, .int u5)] → W p l e (rmD 5) s m args below meth c H locs 0 0 Q (F0 m 156 ls [])) → W p l e (rmD 5) s m args below meth c H locs 0 0 Q (F0 m 131 ls []) := by
  have hx := hF.1
  have hb := hF.2.1
  have hown := hF.2.2.2.1
  have hts := hF.2.2.2.2
  intro n
  induction n with
  | zero => intro v6 ar sc h; exact False.elim h
  | succ n ih =>
    intro v6 ar sc h H locs hP hS ls hl hk
    rw [q_Mo_walk_131] at h
    refine lv_iload hx hb d_Mo_walk_131 (lv_at hl 0 rfl) ?_
    refine lv_iload_n hx hb d_Mo_walk_133 rfl (lv_at hl 3 rfl) ?_
    refine lv_icmp_ge (tgt := 156) hx hb d_Mo_walk_134 (by decide) (fun c134 => ?_) (fun c134 => ?_)
    · have h := h.1 c134
      have hv : g_Mo_walk_131 a0 a1 u4 u5 (n + 1) v6 ar sc = ((v6, ar, sc) : Int32 × (Nat → Nat → Int32) × (Nat → Int32)) := by rw [g_Mo_walk_131, if_pos c134]
      rw [hv] at hk
      exact hk _ _ ls hP hS (lv_sub hl [0, 1, 2, 3, 4, 5] rfl)
    · have h := h.2 c134
      refine lv_aload_n hx hb d_Mo_walk_137 rfl (lv_at hl 1 rfl) ?_
      refine gf_Mo_list hF hK hP m_254 d_Mo_walk_138 ?_
      refine lv_iload hx hb d_Mo_walk_141 (lv_at hl 0 rfl) ?_
      refine lv_lload_n hx hb d_Mo_walk_143 rfl (lv_at hl 2 rfl) ?_
      refine lv_iload hx hb d_Mo_walk_144 (lv_at hl 0 rfl) ?_
      refine r_Mo_placeOf hF m_330 hl.1 ⟨Nat.le_of_ble_eq_true rfl, Nat.le_of_ble_eq_true rfl⟩ ⟨Nat.zero_le _, Nat.zero_le _⟩ (Nat.le_of_ble_eq_true rfl) d_Mo_walk_146 ?_
      have k149 := h.1
      have h := h.2
      refine asM_20 hF hK hP hL hS k149 d_Mo_walk_149 (fun H locs hP hS => ?_)
      refine lv_iinc (v := v6 + 1) (lv' := [(6, .int (v6 + 1)), (0, .ref (L 0)), (1, .long a0), (3, .int a1), (4, .int u4), (5, .int u5)]) hx hb d_Mo_walk_150 hl (k := 0) rfl rfl (by decide) rfl (fun ls hl => ?_)
      refine lv_goto (tgt := 131) hx hb d_Mo_walk_153 (by decide) ?_
      have hv : g_Mo_walk_131 a0 a1 u4 u5 (n + 1) v6 ar sc = g_Mo_walk_131 a0 a1 u4 u5 n (v6 + 1) (s2 ar 20 v6.toNatClampNeg (f_Mo_placeOf a0 v6)) sc := by rw [g_Mo_walk_131, if_neg c134]
      rw [hv] at hk
      exact ih (v6 + 1) (s2 ar 20 v6.toNatClampNeg (f_Mo_placeOf a0 v6)) sc h _ _ hP hS ls (lv_sub hl [0, 1, 2, 3, 4, 5] rfl) hk
set_option maxHeartbeats 4000000 in
set_option maxRecDepth 100000 in
theorem l_Mo_walk_176 {p : Program} {l : Launch} {e : Env} {s : State} {m : MethodId} {args : Array Value} {below : List Frame} {meth : Method} {c : Code} {dC : Nat → ClassId} {dI : Nat → Nat → Nat} {L : Nat → Nat} {cA : Nat → ClassId} {Q : State → Prop} (a0 : Int64) (a1 : Int32) (u4 : Int32) (u5 : Int32) (hF : CallFix p m c b_Mo_walk 15 s args w_all R_Mo) (hK : kW_M dC dI cA s) (hL : ij 25 L) : ∀ (n : Nat) (v6 : Int32) (v7 : Int32) (ar : Nat → Nat → Int32) (sc : Nat → Int32), q_Mo_walk_176 a0 a1 u4 u5 n v6 v7 ar sc → ∀ (H : Heap) (locs : List Loc), va_P (dC, dI) classes (wM L cA ar sc) H → va_S (aM L) s.heap H locs → ∀ (ls : Array Slot), lv_has ls 15 [(6, .int v6), (7, .int v7), (0, .ref (L 0)), (1, .long a0), (3, .int a1), (4, .int u4), (5, .int u5)] → (∀ (H : Heap) (locs : List Loc) (ls : Array Slot), va_P (dC, dI) classes (wM L cA ((g_Mo_walk_176 a0 a1 u4 u5 n v6 v7 ar sc).2.2.1) ((g_Mo_walk_176 a0 a1 u4 u5 n v6 v7 ar sc).2.2.2)) H → va_S (aM L) s.heap H locs → lv_has ls 15 [(6, .int ((g_Mo_walk_176 a0 a1 u4 u5 n v6 v7 ar sc).1)), (7, .int ((g_Mo_walk_176 a0 a1 u4 u5 n v6 v7 ar sc).2.1)), (0, .ref (L 0)), (1, .long a0), (3, .int a1), (4, .int u4), (5, .int u5)] → W p l e (rmD 5) s m args below meth c H locs 0 0 Q (F0 m 233 ls [])) → W p l e (rmD 5) s m args below meth c H locs 0 0 Q (F0 m 176 ls []) := by
  have hx := hF.1
  have hb := hF.2.1
  have hown := hF.2.2.2.1
  have hts := hF.2.2.2.2
  intro n
  induction n with
  | zero => intro v6 v7 ar sc h; exact False.elim h
  | succ n ih =>
    intro v6 v7 ar sc h H locs hP hS ls hl hk
    rw [q_Mo_walk_176] at h
    refine lv_iload hx hb d_Mo_walk_176 (lv_at hl 1 rfl) ?_
    refine lv_iload_n hx hb d_Mo_walk_178 rfl (lv_at hl 4 rfl) ?_
    refine lv_icmp_ge (tgt := 233) hx hb d_Mo_walk_179 (by decide) (fun c179 => ?_) (fun c179 => ?_)
    · have h := h.1 c179
      have hv : g_Mo_walk_176 a0 a1 u4 u5 (n + 1) v6 v7 ar sc = ((v6, v7, ar, sc) : Int32 × Int32 × (Nat → Nat → Int32) × (Nat → Int32)) := by rw [g_Mo_walk_176, if_pos c179]
      rw [hv] at hk
      exact hk _ _ ls hP hS (lv_sub hl [0, 1, 2, 3, 4, 5, 6] rfl)
    · have h := h.2 c179
      refine lv_aload_n hx hb d_Mo_walk_182 rfl (lv_at hl 2 rfl) ?_
      refine lv_aload_n hx hb d_Mo_walk_183 rfl (lv_at hl 2 rfl) ?_
      refine gf_Mo_list hF hK hP m_254 d_Mo_walk_184 ?_
      refine lv_iload hx hb d_Mo_walk_187 (lv_at hl 1 rfl) ?_
      have k189 := h.1
      have h := h.2
      refine alM_20 hF hK hP k189 d_Mo_walk_189 ?_
      have k190 := h.1
      have h := h.2
      refine r_Mo_home hF hK hP k190 m_258 hl.1 ⟨Nat.le_of_ble_eq_true rfl, Nat.le_of_ble_eq_true rfl⟩ ⟨Nat.zero_le _, Nat.zero_le _⟩ (Nat.le_of_ble_eq_true rfl) d_Mo_walk_190 ?_
      refine lv_aload_n hx hb d_Mo_walk_193 rfl (lv_at hl 2 rfl) ?_
      refine gf_Mo_least hF hK hP m_256 d_Mo_walk_194 ?_
      refine lv_bipush (v := 7) hx hb d_Mo_walk_197 (by decide) ?_
      refine lv_iconst (v := 1) hx hb d_Mo_walk_199 (by decide) ?_
      refine lv_iload hx hb d_Mo_walk_200 (lv_at hl 1 rfl) ?_
      refine lv_ishl hx hb d_Mo_walk_202 ?_
      refine lv_imul hx hb d_Mo_walk_203 ?_
      refine lv_iload hx hb d_Mo_walk_204 (lv_at hl 1 rfl) ?_
      refine lv_iadd hx hb d_Mo_walk_206 ?_
      have k207 := h.1
      have h := h.2
      refine alM_21 hF hK hP k207 d_Mo_walk_207 ?_
      refine lv_iadd hx hb d_Mo_walk_208 ?_
      refine lv_istore (lv' := [(8, .int ((f_Mo_home ar sc (ar 20 v7.toNatClampNeg)) + (ar 21 (((7 * ((1 : Int32) <<< (v7 &&& 31))) + v7).toNatClampNeg)))), (6, .int v6), (7, .int v7), (0, .ref (L 0)), (1, .long a0), (3, .int a1), (4, .int u4), (5, .int u5)]) hx hb d_Mo_walk_209 hl (by decide) rfl (fun ls hl => ?_)
      refine lv_iload hx hb d_Mo_walk_211 (lv_at hl 0 rfl) ?_
      refine lv_iload hx hb d_Mo_walk_213 (lv_at hl 1 rfl) ?_
      refine lv_icmp_ge (tgt := 223) hx hb d_Mo_walk_215 (by decide) (fun c215 => ?_) (fun c215 => ?_)
      · have h := h.1 c215
        refine lv_iload hx hb d_Mo_walk_223 (lv_at hl 1 rfl) ?_
        refine lv_istore (lv' := [(6, .int v6), (8, .int ((f_Mo_home ar sc (ar 20 v7.toNatClampNeg)) + (ar 21 (((7 * ((1 : Int32) <<< (v7 &&& 31))) + v7).toNatClampNeg)))), (7, .int v7), (0, .ref (L 0)), (1, .long a0), (3, .int a1), (4, .int u4), (5, .int u5)]) hx hb d_Mo_walk_225 hl (by decide) rfl (fun ls hl => ?_)
        refine lv_iinc (v := v7 + 1) (lv' := [(7, .int (v7 + 1)), (6, .int v6), (8, .int ((f_Mo_home ar sc (ar 20 v7.toNatClampNeg)) + (ar 21 (((7 * ((1 : Int32) <<< (v7 &&& 31))) + v7).toNatClampNeg)))), (0, .ref (L 0)), (1, .long a0), (3, .int a1), (4, .int u4), (5, .int u5)]) hx hb d_Mo_walk_227 hl (k := 2) rfl rfl (by decide) rfl (fun ls hl => ?_)
        refine lv_goto (tgt := 176) hx hb d_Mo_walk_230 (by decide) ?_
        have hv : g_Mo_walk_176 a0 a1 u4 u5 (n + 1) v6 v7 ar sc = g_Mo_walk_176 a0 a1 u4 u5 n v6 (v7 + 1) ar sc := by rw [g_Mo_walk_176, if_neg c179, if_pos c215]
        rw [hv] at hk
        exact ih v6 (v7 + 1) ar sc h _ _ hP hS ls (lv_sub hl [1, 0, 3, 4, 5, 6, 7] rfl) hk
      · have h := h.2 c215
        refine lv_iload hx hb d_Mo_walk_218 (lv_at hl 0 rfl) ?_
        refine lv_goto (tgt := 225) hx hb d_Mo_walk_220 (by decide) ?_
        refine lv_istore (lv' := [(6, .int ((f_Mo_home ar sc (ar 20 v7.toNatClampNeg)) + (ar 21 (((7 * ((1 : Int32) <<< (v7 &&& 31))) + v7).toNatClampNeg)))), (8, .int ((f_Mo_home ar sc (ar 20 v7.toNatClampNeg)) + (ar 21 (((7 * ((1 : Int32) <<< (v7 &&& 31))) + v7).toNatClampNeg)))), (7, .int v7), (0, .ref (L 0)), (1, .long a0), (3, .int a1), (4, .int u4), (5, .int u5)]) hx hb d_Mo_walk_225 hl (by decide) rfl (fun ls hl => ?_)
        refine lv_iinc (v := v7 + 1) (lv' := [(7, .int (v7 + 1)), (6, .int ((f_Mo_home ar sc (ar 20 v7.toNatClampNeg)) + (ar 21 (((7 * ((1 : Int32) <<< (v7 &&& 31))) + v7).toNatClampNeg)))), (8, .int ((f_Mo_home ar sc (ar 20 v7.toNatClampNeg)) + (ar 21 (((7 * ((1 : Int32) <<< (v7 &&& 31))) + v7).toNatClampNeg)))), (0, .ref (L 0)), (1, .long a0), (3, .int a1), (4, .int u4), (5, .int u5)]) hx hb d_Mo_walk_227 hl (k := 2) rfl rfl (by decide) rfl (fun ls hl => ?_)
        refine lv_goto (tgt := 176) hx hb d_Mo_walk_230 (by decide) ?_
        have hv : g_Mo_walk_176 a0 a1 u4 u5 (n + 1) v6 v7 ar sc = g_Mo_walk_176 a0 a1 u4 u5 n ((f_Mo_home ar sc (ar 20 v7.toNatClampNeg)) + (ar 21 (((7 * ((1 : Int32) <<< (v7 &&& 31))) + v7).toNatClampNeg))) (v7 + 1) ar sc := by rw [g_Mo_walk_176, if_neg c179, if_neg c215]
        rw [hv] at hk
        exact ih ((f_Mo_home ar sc (ar 20 v7.toNatClampNeg)) + (ar 21 (((7 * ((1 : Int32) <<< (v7 &&& 31))) + v7).toNatClampNeg))) (v7 + 1) ar sc h _ _ hP hS ls (lv_sub hl [1, 0, 3, 4, 5, 6, 7] rfl) hk
set_option maxHeartbeats 4000000 in
set_option maxRecDepth 100000 in
theorem l_Mo_walk_268 {p : Program} {l : Launch} {e : Env} {s : State} {m : MethodId} {args : Array Value} {below : List Frame} {meth : Method} {c : Code} {dC : Nat → ClassId} {dI : Nat → Nat → Nat} {L : Nat → Nat} {cA : Nat → ClassId} {Q : State → Prop} (a0 : Int64) (a1 : Int32) (u4 : Int32) (u5 : Int32) (u6 : Int32) (u7 : Int32) (u8 : Int32) (u9 : Int32) (u10 : Int32) (hF : CallFix p m c b_Mo_walk 15 s args w_all R_Mo) (hK : kW_M dC dI cA s) (hL : ij 25 L) : ∀ (n : Nat) (v11 : Int32) (v12 : Int32) (v13 : Int32) (ar : Nat → Nat → Int32) (sc : Nat → Int32), q_Mo_walk_268 a0 a1 u4 u5 u6 u7 u8 u9 u10 n v11 v12 v13 ar sc → ∀ (H : Heap) (locs : List Loc), va_P (dC, dI) classes (wM L cA ar sc) H → va_S (aM L) s.heap H locs → ∀ (ls : Array Slot), lv_has ls 15 [(11, .int v11), (12, .int v12), (13, .int v13), (0, .ref (L 0)), (1, .long a0), (3, .int a1), (4, .int u4), (5, .int u5), (6, .int u6), (7, .int u7), (8, .int u8), (9, .int u9), (10, .int u10)] → (∀ (H : Heap) (locs : List Loc) (ls : Array Slot), va_P (dC, dI) classes (wM L cA ((g_Mo_walk_268 a0 a1 u4 u5 u6 u7 u8 u9 u10 n v11 v12 v13 ar sc).2.2.2.1) ((g_Mo_walk_268 a0 a1 u4 u5 u6 u7 u8 u9 u10 n v11 v12 v13 ar sc).2.2.2.2)) H → va_S (aM L) s.heap H locs → lv_has ls 15 [(11, .int ((g_Mo_walk_268 a0 a1 u4 u5 u6 u7 u8 u9 u10 n v11 v12 v13 ar sc).1)), (12, .int ((g_Mo_walk_268 a0 a1 u4 u5 u6 u7 u8 u9 u10 n v11 v12 v13 ar sc).2.1)), (13, .int ((g_Mo_walk_268 a0 a1 u4 u5 u6 u7 u8 u9 u10 n v11 v12 v13 ar sc).2.2.1)), (0, .ref (L 0)), (1, .long a0), (3, .int a1), (4, .int u4), (5, .int u5), (6, .int u6), (7, .int u7), (8, .int u8), (9, .int u9), (10, .int u10)] → W p l e (rmD 5) s m args below meth c H locs 0 0 Q (F0 m 362 ls [])) → W p l e (rmD 5) s m args below meth c H locs 0 0 Q (F0 m 268 ls []) := by
  have hx := hF.1
  have hb := hF.2.1
  have hown := hF.2.2.2.1
  have hts := hF.2.2.2.2
  intro n
  induction n with
  | zero => intro v11 v12 v13 ar sc h; exact False.elim h
  | succ n ih =>
    intro v11 v12 v13 ar sc h H locs hP hS ls hl hk
    rw [q_Mo_walk_268] at h
    refine lv_iload hx hb d_Mo_walk_268 (lv_at hl 2 rfl) ?_
    refine lv_if_lt (tgt := 362) hx hb d_Mo_walk_270 (by decide) (fun c270 => ?_) (fun c270 => ?_)
    · have h := h.1 c270
      have hv : g_Mo_walk_268 a0 a1 u4 u5 u6 u7 u8 u9 u10 (n + 1) v11 v12 v13 ar sc = ((v11, v12, v13, ar, sc) : Int32 × Int32 × Int32 × (Nat → Nat → Int32) × (Nat → Int32)) := by rw [g_Mo_walk_268, if_pos c270]
      rw [hv] at hk
      exact hk _ _ ls hP hS (lv_sub hl [0, 1, 2, 3, 4, 5, 6, 7, 8, 9, 10, 11, 12] rfl)
    · have h := h.2 c270
      refine lv_iload hx hb d_Mo_walk_273 (lv_at hl 10 rfl) ?_
      refine lv_if_ge (tgt := 292) hx hb d_Mo_walk_275 (by decide) (fun c275 => ?_) (fun c275 => ?_)
      · have h := h.1 c275
        refine lv_aload_n hx hb d_Mo_walk_292 rfl (lv_at hl 3 rfl) ?_
        refine lv_aload_n hx hb d_Mo_walk_293 rfl (lv_at hl 3 rfl) ?_
        refine gf_Mo_list hF hK hP m_254 d_Mo_walk_294 ?_
        refine lv_iload hx hb d_Mo_walk_297 (lv_at hl 10 rfl) ?_
        have k299 := h.1
        have h := h.2
        refine alM_20 hF hK hP k299 d_Mo_walk_299 ?_
        refine lv_aload_n hx hb d_Mo_walk_300 rfl (lv_at hl 3 rfl) ?_
        refine gf_Mo_list hF hK hP m_254 d_Mo_walk_301 ?_
        refine lv_iload hx hb d_Mo_walk_304 (lv_at hl 2 rfl) ?_
        have k306 := h.1
        have h := h.2
        refine alM_20 hF hK hP k306 d_Mo_walk_306 ?_
        have k307 := h.1
        have h := h.2
        refine r_Mo_between hF hK hP k307 m_255 hl.1 ⟨Nat.le_of_ble_eq_true rfl, Nat.le_of_ble_eq_true rfl⟩ ⟨Nat.zero_le _, Nat.zero_le _⟩ (Nat.le_of_ble_eq_true rfl) d_Mo_walk_307 ?_
        refine lv_istore (lv' := [(14, .int (f_Mo_between ar sc (ar 20 u8.toNatClampNeg) (ar 20 v13.toNatClampNeg))), (11, .int v11), (12, .int v12), (13, .int v13), (0, .ref (L 0)), (1, .long a0), (3, .int a1), (4, .int u4), (5, .int u5), (6, .int u6), (7, .int u7), (8, .int u8), (9, .int u9), (10, .int u10)]) hx hb d_Mo_walk_310 hl (by decide) rfl (fun ls hl => ?_)
        refine lv_iload hx hb d_Mo_walk_312 (lv_at hl 10 rfl) ?_
        refine lv_iload hx hb d_Mo_walk_314 (lv_at hl 3 rfl) ?_
        refine lv_ishr hx hb d_Mo_walk_316 ?_
        refine lv_iconst (v := 1) hx hb d_Mo_walk_317 (by decide) ?_
        refine lv_iand hx hb d_Mo_walk_318 ?_
        refine lv_if_ne (tgt := 356) hx hb d_Mo_walk_319 (by decide) (fun c319 => ?_) (fun c319 => ?_)
        · have h := h.2 c319
          refine lv_iinc (v := v13 + (-1)) (lv' := [(13, .int (v13 + (-1))), (14, .int (f_Mo_between ar sc (ar 20 u8.toNatClampNeg) (ar 20 v13.toNatClampNeg))), (11, .int v11), (12, .int v12), (0, .ref (L 0)), (1, .long a0), (3, .int a1), (4, .int u4), (5, .int u5), (6, .int u6), (7, .int u7), (8, .int u8), (9, .int u9), (10, .int u10)]) hx hb d_Mo_walk_356 hl (k := 3) rfl (congrArg (fun z => v13 + z) (by decide)) (by decide) rfl (fun ls hl => ?_)
          refine lv_goto (tgt := 268) hx hb d_Mo_walk_359 (by decide) ?_
          have hv : g_Mo_walk_268 a0 a1 u4 u5 u6 u7 u8 u9 u10 (n + 1) v11 v12 v13 ar sc = g_Mo_walk_268 a0 a1 u4 u5 u6 u7 u8 u9 u10 n v11 v12 (v13 + (-1)) ar sc := by rw [g_Mo_walk_268, if_neg c270, if_pos c275, if_neg c319]
          rw [hv] at hk
          exact ih v11 v12 (v13 + (-1)) ar sc h _ _ hP hS ls (lv_sub hl [2, 3, 0, 4, 5, 6, 7, 8, 9, 10, 11, 12, 13] rfl) hk
        · have h := h.1 c319
          refine lv_iload hx hb d_Mo_walk_322 (lv_at hl 0 rfl) ?_
          refine lv_aload_n hx hb d_Mo_walk_324 rfl (lv_at hl 4 rfl) ?_
          refine gf_Mo_least hF hK hP m_256 d_Mo_walk_325 ?_
          refine lv_bipush (v := 7) hx hb d_Mo_walk_328 (by decide) ?_
          refine lv_iload hx hb d_Mo_walk_330 (lv_at hl 10 rfl) ?_
          refine lv_iconst (v := 1) hx hb d_Mo_walk_332 (by decide) ?_
          refine lv_iload hx hb d_Mo_walk_333 (lv_at hl 3 rfl) ?_
          refine lv_ishl hx hb d_Mo_walk_335 ?_
          refine lv_ior hx hb d_Mo_walk_336 ?_
          refine lv_imul hx hb d_Mo_walk_337 ?_
          refine lv_iload hx hb d_Mo_walk_338 (lv_at hl 3 rfl) ?_
          refine lv_iadd hx hb d_Mo_walk_340 ?_
          have k341 := h.1
          have h := h.2
          refine alM_21 hF hK hP k341 d_Mo_walk_341 ?_
          refine lv_iadd hx hb d_Mo_walk_342 ?_
          refine lv_iload hx hb d_Mo_walk_343 (lv_at hl 12 rfl) ?_
          refine lv_icmp_ne (tgt := 356) hx hb d_Mo_walk_345 (by decide) (fun c345 => ?_) (fun c345 => ?_)
          · have h := h.2 c345
            refine lv_iinc (v := v13 + (-1)) (lv' := [(13, .int (v13 + (-1))), (14, .int (f_Mo_between ar sc (ar 20 u8.toNatClampNeg) (ar 20 v13.toNatClampNeg))), (11, .int v11), (12, .int v12), (0, .ref (L 0)), (1, .long a0), (3, .int a1), (4, .int u4), (5, .int u5), (6, .int u6), (7, .int u7), (8, .int u8), (9, .int u9), (10, .int u10)]) hx hb d_Mo_walk_356 hl (k := 3) rfl (congrArg (fun z => v13 + z) (by decide)) (by decide) rfl (fun ls hl => ?_)
            refine lv_goto (tgt := 268) hx hb d_Mo_walk_359 (by decide) ?_
            have hv : g_Mo_walk_268 a0 a1 u4 u5 u6 u7 u8 u9 u10 (n + 1) v11 v12 v13 ar sc = g_Mo_walk_268 a0 a1 u4 u5 u6 u7 u8 u9 u10 n v11 v12 (v13 + (-1)) ar sc := by rw [g_Mo_walk_268, if_neg c270, if_pos c275, if_pos c319, if_neg c345]
            rw [hv] at hk
            exact ih v11 v12 (v13 + (-1)) ar sc h _ _ hP hS ls (lv_sub hl [2, 3, 0, 4, 5, 6, 7, 8, 9, 10, 11, 12, 13] rfl) hk
          · have h := h.1 c345
            refine lv_iload hx hb d_Mo_walk_348 (lv_at hl 3 rfl) ?_
            refine lv_istore (lv' := [(11, .int v13), (14, .int (f_Mo_between ar sc (ar 20 u8.toNatClampNeg) (ar 20 v13.toNatClampNeg))), (12, .int v12), (13, .int v13), (0, .ref (L 0)), (1, .long a0), (3, .int a1), (4, .int u4), (5, .int u5), (6, .int u6), (7, .int u7), (8, .int u8), (9, .int u9), (10, .int u10)]) hx hb d_Mo_walk_350 hl (by decide) rfl (fun ls hl => ?_)
            refine lv_iload hx hb d_Mo_walk_352 (lv_at hl 1 rfl) ?_
            refine lv_istore (lv' := [(12, .int (f_Mo_between ar sc (ar 20 u8.toNatClampNeg) (ar 20 v13.toNatClampNeg))), (11, .int v13), (14, .int (f_Mo_between ar sc (ar 20 u8.toNatClampNeg) (ar 20 v13.toNatClampNeg))), (13, .int v13), (0, .ref (L 0)), (1, .long a0), (3, .int a1), (4, .int u4), (5, .int u5), (6, .int u6), (7, .int u7), (8, .int u8), (9, .int u9), (10, .int u10)]) hx hb d_Mo_walk_354 hl (by decide) rfl (fun ls hl => ?_)
            refine lv_iinc (v := v13 + (-1)) (lv' := [(13, .int (v13 + (-1))), (12, .int (f_Mo_between ar sc (ar 20 u8.toNatClampNeg) (ar 20 v13.toNatClampNeg))), (11, .int v13), (14, .int (f_Mo_between ar sc (ar 20 u8.toNatClampNeg) (ar 20 v13.toNatClampNeg))), (0, .ref (L 0)), (1, .long a0), (3, .int a1), (4, .int u4), (5, .int u5), (6, .int u6), (7, .int u7), (8, .int u8), (9, .int u9), (10, .int u10)]) hx hb d_Mo_walk_356 hl (k := 3) rfl (congrArg (fun z => v13 + z) (by decide)) (by decide) rfl (fun ls hl => ?_)
            refine lv_goto (tgt := 268) hx hb d_Mo_walk_359 (by decide) ?_
            have hv : g_Mo_walk_268 a0 a1 u4 u5 u6 u7 u8 u9 u10 (n + 1) v11 v12 v13 ar sc = g_Mo_walk_268 a0 a1 u4 u5 u6 u7 u8 u9 u10 n v13 (f_Mo_between ar sc (ar 20 u8.toNatClampNeg) (ar 20 v13.toNatClampNeg)) (v13 + (-1)) ar sc := by rw [g_Mo_walk_268, if_neg c270, if_pos c275, if_pos c319, if_pos c345]
            rw [hv] at hk
            exact ih v13 (f_Mo_between ar sc (ar 20 u8.toNatClampNeg) (ar 20 v13.toNatClampNeg)) (v13 + (-1)) ar sc h _ _ hP hS ls (lv_sub hl [2, 1, 0, 4, 5, 6, 7, 8, 9, 10, 11, 12, 13] rfl) hk
      · have h := h.2 c275
        refine lv_aload_n hx hb d_Mo_walk_278 rfl (lv_at hl 3 rfl) ?_
        refine lv_aload_n hx hb d_Mo_walk_279 rfl (lv_at hl 3 rfl) ?_
        refine gf_Mo_list hF hK hP m_254 d_Mo_walk_280 ?_
        refine lv_iload hx hb d_Mo_walk_283 (lv_at hl 2 rfl) ?_
        have k285 := h.1
        have h := h.2
        refine alM_20 hF hK hP k285 d_Mo_walk_285 ?_
        have k286 := h.1
        have h := h.2
        refine r_Mo_home hF hK hP k286 m_258 hl.1 ⟨Nat.le_of_ble_eq_true rfl, Nat.le_of_ble_eq_true rfl⟩ ⟨Nat.zero_le _, Nat.zero_le _⟩ (Nat.le_of_ble_eq_true rfl) d_Mo_walk_286 ?_
        refine lv_goto (tgt := 310) hx hb d_Mo_walk_289 (by decide) ?_
        refine lv_istore (lv' := [(14, .int (f_Mo_home ar sc (ar 20 v13.toNatClampNeg))), (11, .int v11), (12, .int v12), (13, .int v13), (0, .ref (L 0)), (1, .long a0), (3, .int a1), (4, .int u4), (5, .int u5), (6, .int u6), (7, .int u7), (8, .int u8), (9, .int u9), (10, .int u10)]) hx hb d_Mo_walk_310 hl (by decide) rfl (fun ls hl => ?_)
        refine lv_iload hx hb d_Mo_walk_312 (lv_at hl 10 rfl) ?_
        refine lv_iload hx hb d_Mo_walk_314 (lv_at hl 3 rfl) ?_
        refine lv_ishr hx hb d_Mo_walk_316 ?_
        refine lv_iconst (v := 1) hx hb d_Mo_walk_317 (by decide) ?_
        refine lv_iand hx hb d_Mo_walk_318 ?_
        refine lv_if_ne (tgt := 356) hx hb d_Mo_walk_319 (by decide) (fun c319 => ?_) (fun c319 => ?_)
        · have h := h.2 c319
          refine lv_iinc (v := v13 + (-1)) (lv' := [(13, .int (v13 + (-1))), (14, .int (f_Mo_home ar sc (ar 20 v13.toNatClampNeg))), (11, .int v11), (12, .int v12), (0, .ref (L 0)), (1, .long a0), (3, .int a1), (4, .int u4), (5, .int u5), (6, .int u6), (7, .int u7), (8, .int u8), (9, .int u9), (10, .int u10)]) hx hb d_Mo_walk_356 hl (k := 3) rfl (congrArg (fun z => v13 + z) (by decide)) (by decide) rfl (fun ls hl => ?_)
          refine lv_goto (tgt := 268) hx hb d_Mo_walk_359 (by decide) ?_
          have hv : g_Mo_walk_268 a0 a1 u4 u5 u6 u7 u8 u9 u10 (n + 1) v11 v12 v13 ar sc = g_Mo_walk_268 a0 a1 u4 u5 u6 u7 u8 u9 u10 n v11 v12 (v13 + (-1)) ar sc := by rw [g_Mo_walk_268, if_neg c270, if_neg c275, if_neg c319]
          rw [hv] at hk
          exact ih v11 v12 (v13 + (-1)) ar sc h _ _ hP hS ls (lv_sub hl [2, 3, 0, 4, 5, 6, 7, 8, 9, 10, 11, 12, 13] rfl) hk
        · have h := h.1 c319
          refine lv_iload hx hb d_Mo_walk_322 (lv_at hl 0 rfl) ?_
          refine lv_aload_n hx hb d_Mo_walk_324 rfl (lv_at hl 4 rfl) ?_
          refine gf_Mo_least hF hK hP m_256 d_Mo_walk_325 ?_
          refine lv_bipush (v := 7) hx hb d_Mo_walk_328 (by decide) ?_
          refine lv_iload hx hb d_Mo_walk_330 (lv_at hl 10 rfl) ?_
          refine lv_iconst (v := 1) hx hb d_Mo_walk_332 (by decide) ?_
          refine lv_iload hx hb d_Mo_walk_333 (lv_at hl 3 rfl) ?_
          refine lv_ishl hx hb d_Mo_walk_335 ?_
          refine lv_ior hx hb d_Mo_walk_336 ?_
          refine lv_imul hx hb d_Mo_walk_337 ?_
          refine lv_iload hx hb d_Mo_walk_338 (lv_at hl 3 rfl) ?_
          refine lv_iadd hx hb d_Mo_walk_340 ?_
          have k341 := h.1
          have h := h.2
          refine alM_21 hF hK hP k341 d_Mo_walk_341 ?_
          refine lv_iadd hx hb d_Mo_walk_342 ?_
          refine lv_iload hx hb d_Mo_walk_343 (lv_at hl 12 rfl) ?_
          refine lv_icmp_ne (tgt := 356) hx hb d_Mo_walk_345 (by decide) (fun c345 => ?_) (fun c345 => ?_)
          · have h := h.2 c345
            refine lv_iinc (v := v13 + (-1)) (lv' := [(13, .int (v13 + (-1))), (14, .int (f_Mo_home ar sc (ar 20 v13.toNatClampNeg))), (11, .int v11), (12, .int v12), (0, .ref (L 0)), (1, .long a0), (3, .int a1), (4, .int u4), (5, .int u5), (6, .int u6), (7, .int u7), (8, .int u8), (9, .int u9), (10, .int u10)]) hx hb d_Mo_walk_356 hl (k := 3) rfl (congrArg (fun z => v13 + z) (by decide)) (by decide) rfl (fun ls hl => ?_)
            refine lv_goto (tgt := 268) hx hb d_Mo_walk_359 (by decide) ?_
            have hv : g_Mo_walk_268 a0 a1 u4 u5 u6 u7 u8 u9 u10 (n + 1) v11 v12 v13 ar sc = g_Mo_walk_268 a0 a1 u4 u5 u6 u7 u8 u9 u10 n v11 v12 (v13 + (-1)) ar sc := by rw [g_Mo_walk_268, if_neg c270, if_neg c275, if_pos c319, if_neg c345]
            rw [hv] at hk
            exact ih v11 v12 (v13 + (-1)) ar sc h _ _ hP hS ls (lv_sub hl [2, 3, 0, 4, 5, 6, 7, 8, 9, 10, 11, 12, 13] rfl) hk
          · have h := h.1 c345
            refine lv_iload hx hb d_Mo_walk_348 (lv_at hl 3 rfl) ?_
            refine lv_istore (lv' := [(11, .int v13), (14, .int (f_Mo_home ar sc (ar 20 v13.toNatClampNeg))), (12, .int v12), (13, .int v13), (0, .ref (L 0)), (1, .long a0), (3, .int a1), (4, .int u4), (5, .int u5), (6, .int u6), (7, .int u7), (8, .int u8), (9, .int u9), (10, .int u10)]) hx hb d_Mo_walk_350 hl (by decide) rfl (fun ls hl => ?_)
            refine lv_iload hx hb d_Mo_walk_352 (lv_at hl 1 rfl) ?_
            refine lv_istore (lv' := [(12, .int (f_Mo_home ar sc (ar 20 v13.toNatClampNeg))), (11, .int v13), (14, .int (f_Mo_home ar sc (ar 20 v13.toNatClampNeg))), (13, .int v13), (0, .ref (L 0)), (1, .long a0), (3, .int a1), (4, .int u4), (5, .int u5), (6, .int u6), (7, .int u7), (8, .int u8), (9, .int u9), (10, .int u10)]) hx hb d_Mo_walk_354 hl (by decide) rfl (fun ls hl => ?_)
            refine lv_iinc (v := v13 + (-1)) (lv' := [(13, .int (v13 + (-1))), (12, .int (f_Mo_home ar sc (ar 20 v13.toNatClampNeg))), (11, .int v13), (14, .int (f_Mo_home ar sc (ar 20 v13.toNatClampNeg))), (0, .ref (L 0)), (1, .long a0), (3, .int a1), (4, .int u4), (5, .int u5), (6, .int u6), (7, .int u7), (8, .int u8), (9, .int u9), (10, .int u10)]) hx hb d_Mo_walk_356 hl (k := 3) rfl (congrArg (fun z => v13 + z) (by decide)) (by decide) rfl (fun ls hl => ?_)
            refine lv_goto (tgt := 268) hx hb d_Mo_walk_359 (by decide) ?_
            have hv : g_Mo_walk_268 a0 a1 u4 u5 u6 u7 u8 u9 u10 (n + 1) v11 v12 v13 ar sc = g_Mo_walk_268 a0 a1 u4 u5 u6 u7 u8 u9 u10 n v13 (f_Mo_home ar sc (ar 20 v13.toNatClampNeg)) (v13 + (-1)) ar sc := by rw [g_Mo_walk_268, if_neg c270, if_neg c275, if_pos c319, if_pos c345]
            rw [hv] at hk
            exact ih v13 (f_Mo_home ar sc (ar 20 v13.toNatClampNeg)) (v13 + (-1)) ar sc h _ _ hP hS ls (lv_sub hl [2, 1, 0, 4, 5, 6, 7, 8, 9, 10, 11, 12, 13] rfl) hk
set_option maxHeartbeats 4000000 in
set_option maxRecDepth 100000 in
theorem l_Mo_walk_251 {p : Program} {l : Launch} {e : Env} {s : State} {m : MethodId} {args : Array Value} {below : List Frame} {meth : Method} {c : Code} {dC : Nat → ClassId} {dI : Nat → Nat → Nat} {L : Nat → Nat} {cA : Nat → ClassId} {Q : State → Prop} (a0 : Int64) (a1 : Int32) (u4 : Int32) (u5 : Int32) (u6 : Int32) (hF : CallFix p m c b_Mo_walk 15 s args w_all R_Mo) (hK : kW_M dC dI cA s) (hL : ij 25 L) : ∀ (n : Nat) (v7 : Int32) (v8 : Int32) (v9 : Int32) (v10 : Int32) (ar : Nat → Nat → Int32) (sc : Nat → Int32), q_Mo_walk_251 a0 a1 u4 u5 u6 n v7 v8 v9 v10 ar sc → ∀ (H : Heap) (locs : List Loc), va_P (dC, dI) classes (wM L cA ar sc) H → va_S (aM L) s.heap H locs → ∀ (ls : Array Slot), lv_has ls 15 [(7, .int v7), (8, .int v8), (9, .int v9), (10, .int v10), (0, .ref (L 0)), (1, .long a0), (3, .int a1), (4, .int u4), (5, .int u5), (6, .int u6)] → (∀ (H : Heap) (locs : List Loc) (ls : Array Slot), va_P (dC, dI) classes (wM L cA ((g_Mo_walk_251 a0 a1 u4 u5 u6 n v7 v8 v9 v10 ar sc).2.2.2.2.1) ((g_Mo_walk_251 a0 a1 u4 u5 u6 n v7 v8 v9 v10 ar sc).2.2.2.2.2)) H → va_S (aM L) s.heap H locs → lv_has ls 15 [(7, .int ((g_Mo_walk_251 a0 a1 u4 u5 u6 n v7 v8 v9 v10 ar sc).1)), (8, .int ((g_Mo_walk_251 a0 a1 u4 u5 u6 n v7 v8 v9 v10 ar sc).2.1)), (9, .int ((g_Mo_walk_251 a0 a1 u4 u5 u6 n v7 v8 v9 v10 ar sc).2.2.1)), (10, .int ((g_Mo_walk_251 a0 a1 u4 u5 u6 n v7 v8 v9 v10 ar sc).2.2.2.1)), (0, .ref (L 0)), (1, .long a0), (3, .int a1), (4, .int u4), (5, .int u5), (6, .int u6)] → W p l e (rmD 5) s m args below meth c H locs 0 0 Q (F0 m 402 ls [])) → W p l e (rmD 5) s m args below meth c H locs 0 0 Q (F0 m 251 ls []) := by
  have hx := hF.1
  have hb := hF.2.1
  have hown := hF.2.2.2.1
  have hts := hF.2.2.2.2
  intro n
  induction n with
  | zero => intro v7 v8 v9 v10 ar sc h; exact False.elim h
  | succ n ih =>
    intro v7 v8 v9 v10 ar sc h H locs hP hS ls hl hk
    rw [q_Mo_walk_251] at h
    refine lv_iload hx hb d_Mo_walk_251 (lv_at hl 3 rfl) ?_
    refine lv_iload_n hx hb d_Mo_walk_253 rfl (lv_at hl 6 rfl) ?_
    refine lv_icmp_ge (tgt := 402) hx hb d_Mo_walk_254 (by decide) (fun c254 => ?_) (fun c254 => ?_)
    · have h := h.1 c254
      have hv : g_Mo_walk_251 a0 a1 u4 u5 u6 (n + 1) v7 v8 v9 v10 ar sc = ((v7, v8, v9, v10, ar, sc) : Int32 × Int32 × Int32 × Int32 × (Nat → Nat → Int32) × (Nat → Int32)) := by rw [g_Mo_walk_251, if_pos c254]
      rw [hv] at hk
      exact hk _ _ ls hP hS (lv_sub hl [0, 1, 2, 3, 4, 5, 6, 7, 8, 9] rfl)
    · have h := h.2 c254
      refine lv_iconst (v := (-1)) hx hb d_Mo_walk_257 (by decide) ?_
      refine lv_istore (lv' := [(11, .int (-1)), (7, .int v7), (8, .int v8), (9, .int v9), (10, .int v10), (0, .ref (L 0)), (1, .long a0), (3, .int a1), (4, .int u4), (5, .int u5), (6, .int u6)]) hx hb d_Mo_walk_258 hl (by decide) rfl (fun ls hl => ?_)
      refine lv_iconst (v := 0) hx hb d_Mo_walk_260 (by decide) ?_
      refine lv_istore (lv' := [(12, .int 0), (11, .int (-1)), (7, .int v7), (8, .int v8), (9, .int v9), (10, .int v10), (0, .ref (L 0)), (1, .long a0), (3, .int a1), (4, .int u4), (5, .int u5), (6, .int u6)]) hx hb d_Mo_walk_261 hl (by decide) rfl (fun ls hl => ?_)
      refine lv_iload_n hx hb d_Mo_walk_263 rfl (lv_at hl 8 rfl) ?_
      refine lv_iconst (v := 1) hx hb d_Mo_walk_264 (by decide) ?_
      refine lv_isub hx hb d_Mo_walk_265 ?_
      refine lv_istore (lv' := [(13, .int (a1 - 1)), (12, .int 0), (11, .int (-1)), (7, .int v7), (8, .int v8), (9, .int v9), (10, .int v10), (0, .ref (L 0)), (1, .long a0), (3, .int a1), (4, .int u4), (5, .int u5), (6, .int u6)]) hx hb d_Mo_walk_266 hl (by decide) rfl (fun ls hl => ?_)
      have kL268 := h.1
      have h := h.2
      refine l_Mo_walk_268 a0 a1 u4 u5 u6 v7 v8 v9 v10 hF hK hL 200 (-1) 0 (a1 - 1) ar sc kL268 _ _ hP hS ls (lv_sub hl [2, 1, 0, 7, 8, 9, 10, 11, 12, 3, 4, 5, 6] rfl) (fun H locs ls hP hS hl => ?_)
      refine lv_aload_n hx hb d_Mo_walk_362 rfl (lv_at hl 3 rfl) ?_
      refine gf_Mo_stop hF hK hP m_331 d_Mo_walk_363 ?_
      refine lv_iload hx hb d_Mo_walk_366 (lv_at hl 12 rfl) ?_
      refine lv_aload_n hx hb d_Mo_walk_368 rfl (lv_at hl 3 rfl) ?_
      refine gf_Mo_list hF hK hP m_254 d_Mo_walk_369 ?_
      refine lv_iload hx hb d_Mo_walk_372 (lv_at hl 0 rfl) ?_
      have k374 := h.1
      have h := h.2
      refine alM_20 hF hK hP k374 d_Mo_walk_374 ?_
      have k375 := h.1
      have h := h.2
      refine asM_19 hF hK hP hL hS k375 d_Mo_walk_375 (fun H locs hP hS => ?_)
      refine lv_iload hx hb d_Mo_walk_376 (lv_at hl 9 rfl) ?_
      refine lv_iconst (v := 1) hx hb d_Mo_walk_378 (by decide) ?_
      refine lv_iload hx hb d_Mo_walk_379 (lv_at hl 0 rfl) ?_
      refine lv_ishl hx hb d_Mo_walk_381 ?_
      refine lv_ior hx hb d_Mo_walk_382 ?_
      refine lv_istore (lv' := [(7, .int (v7 ||| ((1 : Int32) <<< (((g_Mo_walk_268 a0 a1 u4 u5 u6 v7 v8 v9 v10 200 (-1) 0 (a1 - 1) ar sc).1) &&& 31)))), (11, .int ((g_Mo_walk_268 a0 a1 u4 u5 u6 v7 v8 v9 v10 200 (-1) 0 (a1 - 1) ar sc).1)), (12, .int ((g_Mo_walk_268 a0 a1 u4 u5 u6 v7 v8 v9 v10 200 (-1) 0 (a1 - 1) ar sc).2.1)), (13, .int ((g_Mo_walk_268 a0 a1 u4 u5 u6 v7 v8 v9 v10 200 (-1) 0 (a1 - 1) ar sc).2.2.1)), (0, .ref (L 0)), (1, .long a0), (3, .int a1), (4, .int u4), (5, .int u5), (6, .int u6), (8, .int v8), (9, .int v9), (10, .int v10)]) hx hb d_Mo_walk_383 hl (by decide) rfl (fun ls hl => ?_)
      refine lv_iload hx hb d_Mo_walk_385 (lv_at hl 1 rfl) ?_
      refine lv_istore (lv' := [(8, .int ((g_Mo_walk_268 a0 a1 u4 u5 u6 v7 v8 v9 v10 200 (-1) 0 (a1 - 1) ar sc).1)), (7, .int (v7 ||| ((1 : Int32) <<< (((g_Mo_walk_268 a0 a1 u4 u5 u6 v7 v8 v9 v10 200 (-1) 0 (a1 - 1) ar sc).1) &&& 31)))), (11, .int ((g_Mo_walk_268 a0 a1 u4 u5 u6 v7 v8 v9 v10 200 (-1) 0 (a1 - 1) ar sc).1)), (12, .int ((g_Mo_walk_268 a0 a1 u4 u5 u6 v7 v8 v9 v10 200 (-1) 0 (a1 - 1) ar sc).2.1)), (13, .int ((g_Mo_walk_268 a0 a1 u4 u5 u6 v7 v8 v9 v10 200 (-1) 0 (a1 - 1) ar sc).2.2.1)), (0, .ref (L 0)), (1, .long a0), (3, .int a1), (4, .int u4), (5, .int u5), (6, .int u6), (9, .int v9), (10, .int v10)]) hx hb d_Mo_walk_387 hl (by decide) rfl (fun ls hl => ?_)
      refine lv_iload hx hb d_Mo_walk_389 (lv_at hl 11 rfl) ?_
      refine lv_iload hx hb d_Mo_walk_391 (lv_at hl 3 rfl) ?_
      refine lv_isub hx hb d_Mo_walk_393 ?_
      refine lv_istore (lv' := [(9, .int (v9 - ((g_Mo_walk_268 a0 a1 u4 u5 u6 v7 v8 v9 v10 200 (-1) 0 (a1 - 1) ar sc).2.1))), (8, .int ((g_Mo_walk_268 a0 a1 u4 u5 u6 v7 v8 v9 v10 200 (-1) 0 (a1 - 1) ar sc).1)), (7, .int (v7 ||| ((1 : Int32) <<< (((g_Mo_walk_268 a0 a1 u4 u5 u6 v7 v8 v9 v10 200 (-1) 0 (a1 - 1) ar sc).1) &&& 31)))), (11, .int ((g_Mo_walk_268 a0 a1 u4 u5 u6 v7 v8 v9 v10 200 (-1) 0 (a1 - 1) ar sc).1)), (12, .int ((g_Mo_walk_268 a0 a1 u4 u5 u6 v7 v8 v9 v10 200 (-1) 0 (a1 - 1) ar sc).2.1)), (13, .int ((g_Mo_walk_268 a0 a1 u4 u5 u6 v7 v8 v9 v10 200 (-1) 0 (a1 - 1) ar sc).2.2.1)), (0, .ref (L 0)), (1, .long a0), (3, .int a1), (4, .int u4), (5, .int u5), (6, .int u6), (10, .int v10)]) hx hb d_Mo_walk_394 hl (by decide) rfl (fun ls hl => ?_)
      refine lv_iinc (v := v10 + 1) (lv' := [(10, .int (v10 + 1)), (9, .int (v9 - ((g_Mo_walk_268 a0 a1 u4 u5 u6 v7 v8 v9 v10 200 (-1) 0 (a1 - 1) ar sc).2.1))), (8, .int ((g_Mo_walk_268 a0 a1 u4 u5 u6 v7 v8 v9 v10 200 (-1) 0 (a1 - 1) ar sc).1)), (7, .int (v7 ||| ((1 : Int32) <<< (((g_Mo_walk_268 a0 a1 u4 u5 u6 v7 v8 v9 v10 200 (-1) 0 (a1 - 1) ar sc).1) &&& 31)))), (11, .int ((g_Mo_walk_268 a0 a1 u4 u5 u6 v7 v8 v9 v10 200 (-1) 0 (a1 - 1) ar sc).1)), (12, .int ((g_Mo_walk_268 a0 a1 u4 u5 u6 v7 v8 v9 v10 200 (-1) 0 (a1 - 1) ar sc).2.1)), (13, .int ((g_Mo_walk_268 a0 a1 u4 u5 u6 v7 v8 v9 v10 200 (-1) 0 (a1 - 1) ar sc).2.2.1)), (0, .ref (L 0)), (1, .long a0), (3, .int a1), (4, .int u4), (5, .int u5), (6, .int u6)]) hx hb d_Mo_walk_396 hl (k := 12) rfl rfl (by decide) rfl (fun ls hl => ?_)
      refine lv_goto (tgt := 251) hx hb d_Mo_walk_399 (by decide) ?_
      have hv : g_Mo_walk_251 a0 a1 u4 u5 u6 (n + 1) v7 v8 v9 v10 ar sc = g_Mo_walk_251 a0 a1 u4 u5 u6 n (v7 ||| ((1 : Int32) <<< (((g_Mo_walk_268 a0 a1 u4 u5 u6 v7 v8 v9 v10 200 (-1) 0 (a1 - 1) ar sc).1) &&& 31))) ((g_Mo_walk_268 a0 a1 u4 u5 u6 v7 v8 v9 v10 200 (-1) 0 (a1 - 1) ar sc).1) (v9 - ((g_Mo_walk_268 a0 a1 u4 u5 u6 v7 v8 v9 v10 200 (-1) 0 (a1 - 1) ar sc).2.1)) (v10 + 1) (s2 ((g_Mo_walk_268 a0 a1 u4 u5 u6 v7 v8 v9 v10 200 (-1) 0 (a1 - 1) ar sc).2.2.2.1) 19 v10.toNatClampNeg (((g_Mo_walk_268 a0 a1 u4 u5 u6 v7 v8 v9 v10 200 (-1) 0 (a1 - 1) ar sc).2.2.2.1) 20 (((g_Mo_walk_268 a0 a1 u4 u5 u6 v7 v8 v9 v10 200 (-1) 0 (a1 - 1) ar sc).1).toNatClampNeg))) ((g_Mo_walk_268 a0 a1 u4 u5 u6 v7 v8 v9 v10 200 (-1) 0 (a1 - 1) ar sc).2.2.2.2) := by rw [g_Mo_walk_251, if_neg c254]
      rw [hv] at hk
      exact ih (v7 ||| ((1 : Int32) <<< (((g_Mo_walk_268 a0 a1 u4 u5 u6 v7 v8 v9 v10 200 (-1) 0 (a1 - 1) ar sc).1) &&& 31))) ((g_Mo_walk_268 a0 a1 u4 u5 u6 v7 v8 v9 v10 200 (-1) 0 (a1 - 1) ar sc).1) (v9 - ((g_Mo_walk_268 a0 a1 u4 u5 u6 v7 v8 v9 v10 200 (-1) 0 (a1 - 1) ar sc).2.1)) (v10 + 1) (s2 ((g_Mo_walk_268 a0 a1 u4 u5 u6 v7 v8 v9 v10 200 (-1) 0 (a1 - 1) ar sc).2.2.2.1) 19 v10.toNatClampNeg (((g_Mo_walk_268 a0 a1 u4 u5 u6 v7 v8 v9 v10 200 (-1) 0 (a1 - 1) ar sc).2.2.2.1) 20 (((g_Mo_walk_268 a0 a1 u4 u5 u6 v7 v8 v9 v10 200 (-1) 0 (a1 - 1) ar sc).1).toNatClampNeg))) ((g_Mo_walk_268 a0 a1 u4 u5 u6 v7 v8 v9 v10 200 (-1) 0 (a1 - 1) ar sc).2.2.2.2) h _ _ hP hS ls (lv_sub hl [3, 2, 1, 0, 7, 8, 9, 10, 11, 12] rfl) hk
set_option maxHeartbeats 4000000 in
set_option maxRecDepth 100000 in
theorem x_Mo_walk_251 {p : Program} {l : Launch} {e : Env} {s : State} {m : MethodId} {args : Array Value} {below : List Frame} {meth : Method} {c : Code} {dC : Nat → ClassId} {dI : Nat → Nat → Nat} {L : Nat → Nat} {cA : Nat → ClassId} {ar : Nat → Nat → Int32} {sc : Nat → Int32} (a0 : Int64) (a1 : Int32) (v7 : Int32) (v8 : Int32) (v9 : Int32) (v10 : Int32) (u4 : Int32) (u5 : Int32) (u6 : Int32) (hF : CallFix p m c b_Mo_walk 15 s args w_all R_Mo) (hK : kW_M dC dI cA s) (hL : ij 25 L) (hr : meth.sig.returnType = (some .int)) (hlocks : meth.locks = false) (H : Heap) (locs : List Loc) (hP : va_P (dC, dI) classes (wM L cA ar sc) H) (hS : va_S (aM L) s.heap H locs) (ls : Array Slot) (hl : lv_has ls 15 [(7, .int v7), (8, .int v8), (9, .int v9), (10, .int v10), (0, .ref (L 0)), (1, .long a0), (3, .int a1), (4, .int u4), (5, .int u5), (6, .int u6)]) : W p l e (rmD 5) s m args below meth c H locs 0 0 (MQ below (va_Qi (fun (r : Int32) (u : oS) => (r, u.1, u.2) = k_Mo_walk_251 a0 a1 v7 v8 v9 v10 u4 u5 u6 ar sc) (fun u t => va_P (dC, dI) classes (wM L cA u.1 u.2) t.heap) (aM L)) args s 0 0 (aM L)) (F0 m 402 ls []) := by
  have hx := hF.1
  have hb := hF.2.1
  have hown := hF.2.2.2.1
  have hts := hF.2.2.2.2
  refine lv_iload hx hb d_Mo_walk_402 (lv_at hl 9 rfl) ?_
  have hv : ((u6, ar, sc) : Int32 × (Nat → Nat → Int32) × (Nat → Int32)) = k_Mo_walk_251 a0 a1 v7 v8 v9 v10 u4 u5 u6 ar sc := by rw [k_Mo_walk_251]
  exact W.iret (v := u6) hx hb hr (fun t ht hW => ⟨⟨u6, (ar, sc), rfl, hv, by dsimp only; rw [ht]; exact hP⟩, hS.F ht⟩) hS.2.2 d_Mo_walk_404
set_option maxHeartbeats 4000000 in
set_option maxRecDepth 100000 in
theorem x_Mo_walk_176 {p : Program} {l : Launch} {e : Env} {s : State} {m : MethodId} {args : Array Value} {below : List Frame} {meth : Method} {c : Code} {dC : Nat → ClassId} {dI : Nat → Nat → Nat} {L : Nat → Nat} {cA : Nat → ClassId} {ar : Nat → Nat → Int32} {sc : Nat → Int32} (a0 : Int64) (a1 : Int32) (v6 : Int32) (v7 : Int32) (u4 : Int32) (u5 : Int32) (hF : CallFix p m c b_Mo_walk 15 s args w_all R_Mo) (hK : kW_M dC dI cA s) (hL : ij 25 L) (hr : meth.sig.returnType = (some .int)) (hlocks : meth.locks = false) (h : j_Mo_walk_176 a0 a1 v6 v7 u4 u5 ar sc) (H : Heap) (locs : List Loc) (hP : va_P (dC, dI) classes (wM L cA ar sc) H) (hS : va_S (aM L) s.heap H locs) (ls : Array Slot) (hl : lv_has ls 15 [(6, .int v6), (7, .int v7), (0, .ref (L 0)), (1, .long a0), (3, .int a1), (4, .int u4), (5, .int u5)]) : W p l e (rmD 5) s m args below meth c H locs 0 0 (MQ below (va_Qi (fun (r : Int32) (u : oS) => (r, u.1, u.2) = k_Mo_walk_176 a0 a1 v6 v7 u4 u5 ar sc) (fun u t => va_P (dC, dI) classes (wM L cA u.1 u.2) t.heap) (aM L)) args s 0 0 (aM L)) (F0 m 233 ls []) := by
  have hx := hF.1
  have hb := hF.2.1
  have hown := hF.2.2.2.1
  have hts := hF.2.2.2.2
  unfold j_Mo_walk_176 at h
  refine lv_aload_n hx hb d_Mo_walk_233 rfl (lv_at hl 2 rfl) ?_
  refine lv_iload_n hx hb d_Mo_walk_234 rfl (lv_at hl 4 rfl) ?_
  refine pf_Mo_stops hF hK hP hL hS m_332 d_Mo_walk_235 (fun H locs hP hS => ?_)
  refine lv_iconst (v := 0) hx hb d_Mo_walk_238 (by decide) ?_
  refine lv_istore (lv' := [(7, .int 0), (6, .int v6), (0, .ref (L 0)), (1, .long a0), (3, .int a1), (4, .int u4), (5, .int u5)]) hx hb d_Mo_walk_239 hl (by decide) rfl (fun ls hl => ?_)
  refine lv_iconst (v := (-1)) hx hb d_Mo_walk_241 (by decide) ?_
  refine lv_istore (lv' := [(8, .int (-1)), (7, .int 0), (6, .int v6), (0, .ref (L 0)), (1, .long a0), (3, .int a1), (4, .int u4), (5, .int u5)]) hx hb d_Mo_walk_242 hl (by decide) rfl (fun ls hl => ?_)
  refine lv_iload hx hb d_Mo_walk_244 (lv_at hl 2 rfl) ?_
  refine lv_istore (lv' := [(9, .int v6), (8, .int (-1)), (7, .int 0), (6, .int v6), (0, .ref (L 0)), (1, .long a0), (3, .int a1), (4, .int u4), (5, .int u5)]) hx hb d_Mo_walk_246 hl (by decide) rfl (fun ls hl => ?_)
  refine lv_iconst (v := 0) hx hb d_Mo_walk_248 (by decide) ?_
  refine lv_istore (lv' := [(10, .int 0), (9, .int v6), (8, .int (-1)), (7, .int 0), (6, .int v6), (0, .ref (L 0)), (1, .long a0), (3, .int a1), (4, .int u4), (5, .int u5)]) hx hb d_Mo_walk_249 hl (by decide) rfl (fun ls hl => ?_)
  have kL251 := h
  refine l_Mo_walk_251 a0 a1 u4 u5 v6 hF hK hL 200 0 (-1) v6 0 ar (sg sc 4 a1) kL251 _ _ hP hS ls (lv_sub hl [3, 2, 1, 0, 5, 6, 7, 8, 9, 4] rfl) (fun H locs ls hP hS hl => ?_)
  have hv : k_Mo_walk_176 a0 a1 v6 v7 u4 u5 ar sc = k_Mo_walk_251 a0 a1 ((g_Mo_walk_251 a0 a1 u4 u5 v6 200 0 (-1) v6 0 ar (sg sc 4 a1)).1) ((g_Mo_walk_251 a0 a1 u4 u5 v6 200 0 (-1) v6 0 ar (sg sc 4 a1)).2.1) ((g_Mo_walk_251 a0 a1 u4 u5 v6 200 0 (-1) v6 0 ar (sg sc 4 a1)).2.2.1) ((g_Mo_walk_251 a0 a1 u4 u5 v6 200 0 (-1) v6 0 ar (sg sc 4 a1)).2.2.2.1) u4 u5 v6 ((g_Mo_walk_251 a0 a1 u4 u5 v6 200 0 (-1) v6 0 ar (sg sc 4 a1)).2.2.2.2.1) ((g_Mo_walk_251 a0 a1 u4 u5 v6 200 0 (-1) v6 0 ar (sg sc 4 a1)).2.2.2.2.2) := by rw [k_Mo_walk_176]
  rw [hv]
  exact x_Mo_walk_251 a0 a1 ((g_Mo_walk_251 a0 a1 u4 u5 v6 200 0 (-1) v6 0 ar (sg sc 4 a1)).1) ((g_Mo_walk_251 a0 a1 u4 u5 v6 200 0 (-1) v6 0 ar (sg sc 4 a1)).2.1) ((g_Mo_walk_251 a0 a1 u4 u5 v6 200 0 (-1) v6 0 ar (sg sc 4 a1)).2.2.1) ((g_Mo_walk_251 a0 a1 u4 u5 v6 200 0 (-1) v6 0 ar (sg sc 4 a1)).2.2.2.1) u4 u5 v6 hF hK hL hr hlocks _ _ hP hS ls (lv_sub hl [0, 1, 2, 3, 4, 5, 6, 7, 8, 9] rfl)
set_option maxHeartbeats 4000000 in
set_option maxRecDepth 100000 in
theorem x_Mo_walk_131 {p : Program} {l : Launch} {e : Env} {s : State} {m : MethodId} {args : Array Value} {below : List Frame} {meth : Method} {c : Code} {dC : Nat → ClassId} {dI : Nat → Nat → Nat} {L : Nat → Nat} {cA : Nat → ClassId} {ar : Nat → Nat → Int32} {sc : Nat → Int32} (a0 : Int64) (a1 : Int32) (v6 : Int32) (u4 : Int32) (u5 : Int32) (hF : CallFix p m c b_Mo_walk 15 s args w_all R_Mo) (hK : kW_M dC dI cA s) (hL : ij 25 L) (hr : meth.sig.returnType = (some .int)) (hlocks : meth.locks = false) (h : j_Mo_walk_131 a0 a1 v6 u4 u5 ar sc) (H : Heap) (locs : List Loc) (hP : va_P (dC, dI) classes (wM L cA ar sc) H) (hS : va_S (aM L) s.heap H locs) (ls : Array Slot) (hl : lv_has ls 15 [(6, .int v6), (0, .ref (L 0)), (1, .long a0), (3, .int a1), (4, .int u4), (5, .int u5)]) : W p l e (rmD 5) s m args below meth c H locs 0 0 (MQ below (va_Qi (fun (r : Int32) (u : oS) => (r, u.1, u.2) = k_Mo_walk_131 a0 a1 v6 u4 u5 ar sc) (fun u t => va_P (dC, dI) classes (wM L cA u.1 u.2) t.heap) (aM L)) args s 0 0 (aM L)) (F0 m 156 ls []) := by
  have hx := hF.1
  have hb := hF.2.1
  have hown := hF.2.2.2.1
  have hts := hF.2.2.2.2
  unfold j_Mo_walk_131 at h
  refine lv_aload_n hx hb d_Mo_walk_156 rfl (lv_at hl 1 rfl) ?_
  refine lv_iload_n hx hb d_Mo_walk_157 rfl (lv_at hl 3 rfl) ?_
  have k158 := h.1
  have h := h.2
  refine r_Mo_reckon hF hK hP hL hS k158 m_333 hl.1 ⟨Nat.le_of_ble_eq_true rfl, Nat.le_of_ble_eq_true rfl⟩ ⟨Nat.zero_le _, Nat.zero_le _⟩ (Nat.le_of_ble_eq_true rfl) d_Mo_walk_158 (fun H locs hP hS => ?_)
  refine lv_iload_n hx hb d_Mo_walk_161 rfl (lv_at hl 3 rfl) ?_
  refine lv_if_ne (tgt := 169) hx hb d_Mo_walk_162 (by decide) (fun c162 => ?_) (fun c162 => ?_)
  · have h := h.2 c162
    refine lv_ldc (v := 1000000000) hx hb hown (hts _ m_257) d_Mo_walk_169 ?_
    refine lv_istore (lv' := [(6, .int 1000000000), (0, .ref (L 0)), (1, .long a0), (3, .int a1), (4, .int u4), (5, .int u5)]) hx hb d_Mo_walk_171 hl (by decide) rfl (fun ls hl => ?_)
    refine lv_iconst (v := 0) hx hb d_Mo_walk_173 (by decide) ?_
    refine lv_istore (lv' := [(7, .int 0), (6, .int 1000000000), (0, .ref (L 0)), (1, .long a0), (3, .int a1), (4, .int u4), (5, .int u5)]) hx hb d_Mo_walk_174 hl (by decide) rfl (fun ls hl => ?_)
    have kL176 := h.1
    have h := h.2
    refine l_Mo_walk_176 a0 a1 u4 u5 hF hK hL 200 1000000000 0 ((f_Mo_reckon ar sc a1).1) ((f_Mo_reckon ar sc a1).2) kL176 _ _ hP hS ls (lv_sub hl [1, 0, 2, 3, 4, 5, 6] rfl) (fun H locs ls hP hS hl => ?_)
    have kC233 := h
    have hv : k_Mo_walk_131 a0 a1 v6 u4 u5 ar sc = k_Mo_walk_176 a0 a1 ((g_Mo_walk_176 a0 a1 u4 u5 200 1000000000 0 ((f_Mo_reckon ar sc a1).1) ((f_Mo_reckon ar sc a1).2)).1) ((g_Mo_walk_176 a0 a1 u4 u5 200 1000000000 0 ((f_Mo_reckon ar sc a1).1) ((f_Mo_reckon ar sc a1).2)).2.1) u4 u5 ((g_Mo_walk_176 a0 a1 u4 u5 200 1000000000 0 ((f_Mo_reckon ar sc a1).1) ((f_Mo_reckon ar sc a1).2)).2.2.1) ((g_Mo_walk_176 a0 a1 u4 u5 200 1000000000 0 ((f_Mo_reckon ar sc a1).1) ((f_Mo_reckon ar sc a1).2)).2.2.2) := by rw [k_Mo_walk_131, if_neg c162]
    rw [hv]
    exact x_Mo_walk_176 a0 a1 ((g_Mo_walk_176 a0 a1 u4 u5 200 1000000000 0 ((f_Mo_reckon ar sc a1).1) ((f_Mo_reckon ar sc a1).2)).1) ((g_Mo_walk_176 a0 a1 u4 u5 200 1000000000 0 ((f_Mo_reckon ar sc a1).1) ((f_Mo_reckon ar sc a1).2)).2.1) u4 u5 hF hK hL hr hlocks kC233 _ _ hP hS ls (lv_sub hl [0, 1, 2, 3, 4, 5, 6] rfl)
  · have h := h.1 c162
    refine lv_iconst (v := 0) hx hb d_Mo_walk_165 (by decide) ?_
    refine lv_goto (tgt := 171) hx hb d_Mo_walk_166 (by decide) ?_
    refine lv_istore (lv' := [(6, .int 0), (0, .ref (L 0)), (1, .long a0), (3, .int a1), (4, .int u4), (5, .int u5)]) hx hb d_Mo_walk_171 hl (by decide) rfl (fun ls hl => ?_)
    refine lv_iconst (v := 0) hx hb d_Mo_walk_173 (by decide) ?_
    refine lv_istore (lv' := [(7, .int 0), (6, .int 0), (0, .ref (L 0)), (1, .long a0), (3, .int a1), (4, .int u4), (5, .int u5)]) hx hb d_Mo_walk_174 hl (by decide) rfl (fun ls hl => ?_)
    have kL176 := h.1
    have h := h.2
    refine l_Mo_walk_176 a0 a1 u4 u5 hF hK hL 200 0 0 ((f_Mo_reckon ar sc a1).1) ((f_Mo_reckon ar sc a1).2) kL176 _ _ hP hS ls (lv_sub hl [1, 0, 2, 3, 4, 5, 6] rfl) (fun H locs ls hP hS hl => ?_)
    have kC233 := h
    have hv : k_Mo_walk_131 a0 a1 v6 u4 u5 ar sc = k_Mo_walk_176 a0 a1 ((g_Mo_walk_176 a0 a1 u4 u5 200 0 0 ((f_Mo_reckon ar sc a1).1) ((f_Mo_reckon ar sc a1).2)).1) ((g_Mo_walk_176 a0 a1 u4 u5 200 0 0 ((f_Mo_reckon ar sc a1).1) ((f_Mo_reckon ar sc a1).2)).2.1) u4 u5 ((g_Mo_walk_176 a0 a1 u4 u5 200 0 0 ((f_Mo_reckon ar sc a1).1) ((f_Mo_reckon ar sc a1).2)).2.2.1) ((g_Mo_walk_176 a0 a1 u4 u5 200 0 0 ((f_Mo_reckon ar sc a1).1) ((f_Mo_reckon ar sc a1).2)).2.2.2) := by rw [k_Mo_walk_131, if_pos c162]
    rw [hv]
    exact x_Mo_walk_176 a0 a1 ((g_Mo_walk_176 a0 a1 u4 u5 200 0 0 ((f_Mo_reckon ar sc a1).1) ((f_Mo_reckon ar sc a1).2)).1) ((g_Mo_walk_176 a0 a1 u4 u5 200 0 0 ((f_Mo_reckon ar sc a1).1) ((f_Mo_reckon ar sc a1).2)).2.1) u4 u5 hF hK hL hr hlocks kC233 _ _ hP hS ls (lv_sub hl [0, 1, 2, 3, 4, 5, 6] rfl)
set_option maxHeartbeats 4000000 in
set_option maxRecDepth 100000 in
theorem x_Mo_walk_9 {p : Program} {l : Launch} {e : Env} {s : State} {m : MethodId} {args : Array Value} {below : List Frame} {meth : Method} {c : Code} {dC : Nat → ClassId} {dI : Nat → Nat → Nat} {L : Nat → Nat} {cA : Nat → ClassId} {ar : Nat → Nat → Int32} {sc : Nat → Int32} (a0 : Int64) (a1 : Int32) (v4 : Int32) (v5 : Int32) (v6 : Int32) (hF : CallFix p m c b_Mo_walk 15 s args w_all R_Mo) (hK : kW_M dC dI cA s) (hL : ij 25 L) (hr : meth.sig.returnType = (some .int)) (hlocks : meth.locks = false) (h : j_Mo_walk_9 a0 a1 v4 v5 v6 ar sc) (H : Heap) (locs : List Loc) (hP : va_P (dC, dI) classes (wM L cA ar sc) H) (hS : va_S (aM L) s.heap H locs) (ls : Array Slot) (hl : lv_has ls 15 [(4, .int v4), (5, .int v5), (6, .int v6), (0, .ref (L 0)), (1, .long a0), (3, .int a1)]) : W p l e (rmD 5) s m args below meth c H locs 0 0 (MQ below (va_Qi (fun (r : Int32) (u : oS) => (r, u.1, u.2) = k_Mo_walk_9 a0 a1 v4 v5 v6 ar sc) (fun u t => va_P (dC, dI) classes (wM L cA u.1 u.2) t.heap) (aM L)) args s 0 0 (aM L)) (F0 m 96 ls []) := by
  have hx := hF.1
  have hb := hF.2.1
  have hown := hF.2.2.2.1
  have hts := hF.2.2.2.2
  unfold j_Mo_walk_9 at h
  refine lv_aload_n hx hb d_Mo_walk_96 rfl (lv_at hl 3 rfl) ?_
  refine lv_iload hx hb d_Mo_walk_97 (lv_at hl 0 rfl) ?_
  refine lv_iload_n hx hb d_Mo_walk_99 rfl (lv_at hl 5 rfl) ?_
  refine lv_iconst (v := 0) hx hb d_Mo_walk_100 (by decide) ?_
  refine lv_bipush (v := 7) hx hb d_Mo_walk_101 (by decide) ?_
  refine r_Mo_in hF m_195 hl.1 ⟨Nat.le_of_ble_eq_true rfl, Nat.le_of_ble_eq_true rfl⟩ ⟨Nat.zero_le _, Nat.zero_le _⟩ (Nat.le_of_ble_eq_true rfl) d_Mo_walk_103 ?_
  refine lv_if_eq (tgt := 114) hx hb d_Mo_walk_106 (by decide) (fun c106 => ?_) (fun c106 => ?_)
  · have h := h.1 c106
    refine lv_iconst (v := 1) hx hb d_Mo_walk_114 (by decide) ?_
    refine lv_goto (tgt := 119) hx hb d_Mo_walk_115 (by decide) ?_
    refine lv_iconst (v := 0) hx hb d_Mo_walk_119 (by decide) ?_
    refine r_Mo_throwing hF hK hP hL hS m_283 hl.1 ⟨Nat.le_of_ble_eq_true rfl, Nat.le_of_ble_eq_true rfl⟩ ⟨Nat.zero_le _, Nat.zero_le _⟩ (Nat.le_of_ble_eq_true rfl) d_Mo_walk_120 (fun H locs hP hS => ?_)
    refine lv_if_eq (tgt := 128) hx hb d_Mo_walk_123 (by decide) (fun c123 => ?_) (fun c123 => ?_)
    · have h := h.1 c123
      refine lv_iconst (v := 0) hx hb d_Mo_walk_128 (by decide) ?_
      refine lv_istore (lv' := [(6, .int 0), (4, .int v4), (5, .int v5), (0, .ref (L 0)), (1, .long a0), (3, .int a1)]) hx hb d_Mo_walk_129 hl (by decide) rfl (fun ls hl => ?_)
      have kL131 := h.1
      have h := h.2
      refine l_Mo_walk_131 a0 a1 v4 v5 hF hK hL 200 0 ((f_Mo_throwing ar sc v4 1 0).2.1) ((f_Mo_throwing ar sc v4 1 0).2.2) kL131 _ _ hP hS ls (lv_sub hl [0, 3, 4, 5, 1, 2] rfl) (fun H locs ls hP hS hl => ?_)
      have kC156 := h
      have hv : k_Mo_walk_9 a0 a1 v4 v5 v6 ar sc = k_Mo_walk_131 a0 a1 ((g_Mo_walk_131 a0 a1 v4 v5 200 0 ((f_Mo_throwing ar sc v4 1 0).2.1) ((f_Mo_throwing ar sc v4 1 0).2.2)).1) v4 v5 ((g_Mo_walk_131 a0 a1 v4 v5 200 0 ((f_Mo_throwing ar sc v4 1 0).2.1) ((f_Mo_throwing ar sc v4 1 0).2.2)).2.1) ((g_Mo_walk_131 a0 a1 v4 v5 200 0 ((f_Mo_throwing ar sc v4 1 0).2.1) ((f_Mo_throwing ar sc v4 1 0).2.2)).2.2) := by rw [k_Mo_walk_9, if_pos c106, if_pos c123]
      rw [hv]
      exact x_Mo_walk_131 a0 a1 ((g_Mo_walk_131 a0 a1 v4 v5 200 0 ((f_Mo_throwing ar sc v4 1 0).2.1) ((f_Mo_throwing ar sc v4 1 0).2.2)).1) v4 v5 hF hK hL hr hlocks kC156 _ _ hP hS ls (lv_sub hl [0, 1, 2, 3, 4, 5] rfl)
    · have h := h.2 c123
      refine lv_iconst (v := 0) hx hb d_Mo_walk_126 (by decide) ?_
      have hv : ((0, (f_Mo_throwing ar sc v4 1 0).2.1, (f_Mo_throwing ar sc v4 1 0).2.2) : Int32 × (Nat → Nat → Int32) × (Nat → Int32)) = k_Mo_walk_9 a0 a1 v4 v5 v6 ar sc := by rw [k_Mo_walk_9, if_pos c106, if_neg c123]
      exact W.iret (v := 0) hx hb hr (fun t ht hW => ⟨⟨0, ((f_Mo_throwing ar sc v4 1 0).2.1, (f_Mo_throwing ar sc v4 1 0).2.2), rfl, hv, by dsimp only; rw [ht]; exact hP⟩, hS.F ht⟩) hS.2.2 d_Mo_walk_127
  · have h := h.2 c106
    refine lv_iload hx hb d_Mo_walk_109 (lv_at hl 1 rfl) ?_
    refine lv_if_eq (tgt := 118) hx hb d_Mo_walk_111 (by decide) (fun c111 => ?_) (fun c111 => ?_)
    · have h := h.1 c111
      refine lv_iconst (v := 0) hx hb d_Mo_walk_118 (by decide) ?_
      refine lv_iconst (v := 0) hx hb d_Mo_walk_119 (by decide) ?_
      refine r_Mo_throwing hF hK hP hL hS m_283 hl.1 ⟨Nat.le_of_ble_eq_true rfl, Nat.le_of_ble_eq_true rfl⟩ ⟨Nat.zero_le _, Nat.zero_le _⟩ (Nat.le_of_ble_eq_true rfl) d_Mo_walk_120 (fun H locs hP hS => ?_)
      refine lv_if_eq (tgt := 128) hx hb d_Mo_walk_123 (by decide) (fun c123 => ?_) (fun c123 => ?_)
      · have h := h.1 c123
        refine lv_iconst (v := 0) hx hb d_Mo_walk_128 (by decide) ?_
        refine lv_istore (lv' := [(6, .int 0), (4, .int v4), (5, .int v5), (0, .ref (L 0)), (1, .long a0), (3, .int a1)]) hx hb d_Mo_walk_129 hl (by decide) rfl (fun ls hl => ?_)
        have kL131 := h.1
        have h := h.2
        refine l_Mo_walk_131 a0 a1 v4 v5 hF hK hL 200 0 ((f_Mo_throwing ar sc v4 0 0).2.1) ((f_Mo_throwing ar sc v4 0 0).2.2) kL131 _ _ hP hS ls (lv_sub hl [0, 3, 4, 5, 1, 2] rfl) (fun H locs ls hP hS hl => ?_)
        have kC156 := h
        have hv : k_Mo_walk_9 a0 a1 v4 v5 v6 ar sc = k_Mo_walk_131 a0 a1 ((g_Mo_walk_131 a0 a1 v4 v5 200 0 ((f_Mo_throwing ar sc v4 0 0).2.1) ((f_Mo_throwing ar sc v4 0 0).2.2)).1) v4 v5 ((g_Mo_walk_131 a0 a1 v4 v5 200 0 ((f_Mo_throwing ar sc v4 0 0).2.1) ((f_Mo_throwing ar sc v4 0 0).2.2)).2.1) ((g_Mo_walk_131 a0 a1 v4 v5 200 0 ((f_Mo_throwing ar sc v4 0 0).2.1) ((f_Mo_throwing ar sc v4 0 0).2.2)).2.2) := by rw [k_Mo_walk_9, if_neg c106, if_pos c111, if_pos c123]
        rw [hv]
        exact x_Mo_walk_131 a0 a1 ((g_Mo_walk_131 a0 a1 v4 v5 200 0 ((f_Mo_throwing ar sc v4 0 0).2.1) ((f_Mo_throwing ar sc v4 0 0).2.2)).1) v4 v5 hF hK hL hr hlocks kC156 _ _ hP hS ls (lv_sub hl [0, 1, 2, 3, 4, 5] rfl)
      · have h := h.2 c123
        refine lv_iconst (v := 0) hx hb d_Mo_walk_126 (by decide) ?_
        have hv : ((0, (f_Mo_throwing ar sc v4 0 0).2.1, (f_Mo_throwing ar sc v4 0 0).2.2) : Int32 × (Nat → Nat → Int32) × (Nat → Int32)) = k_Mo_walk_9 a0 a1 v4 v5 v6 ar sc := by rw [k_Mo_walk_9, if_neg c106, if_pos c111, if_neg c123]
        exact W.iret (v := 0) hx hb hr (fun t ht hW => ⟨⟨0, ((f_Mo_throwing ar sc v4 0 0).2.1, (f_Mo_throwing ar sc v4 0 0).2.2), rfl, hv, by dsimp only; rw [ht]; exact hP⟩, hS.F ht⟩) hS.2.2 d_Mo_walk_127
    · have h := h.2 c111
      refine lv_iconst (v := 1) hx hb d_Mo_walk_114 (by decide) ?_
      refine lv_goto (tgt := 119) hx hb d_Mo_walk_115 (by decide) ?_
      refine lv_iconst (v := 0) hx hb d_Mo_walk_119 (by decide) ?_
      refine r_Mo_throwing hF hK hP hL hS m_283 hl.1 ⟨Nat.le_of_ble_eq_true rfl, Nat.le_of_ble_eq_true rfl⟩ ⟨Nat.zero_le _, Nat.zero_le _⟩ (Nat.le_of_ble_eq_true rfl) d_Mo_walk_120 (fun H locs hP hS => ?_)
      refine lv_if_eq (tgt := 128) hx hb d_Mo_walk_123 (by decide) (fun c123 => ?_) (fun c123 => ?_)
      · have h := h.1 c123
        refine lv_iconst (v := 0) hx hb d_Mo_walk_128 (by decide) ?_
        refine lv_istore (lv' := [(6, .int 0), (4, .int v4), (5, .int v5), (0, .ref (L 0)), (1, .long a0), (3, .int a1)]) hx hb d_Mo_walk_129 hl (by decide) rfl (fun ls hl => ?_)
        have kL131 := h.1
        have h := h.2
        refine l_Mo_walk_131 a0 a1 v4 v5 hF hK hL 200 0 ((f_Mo_throwing ar sc v4 1 0).2.1) ((f_Mo_throwing ar sc v4 1 0).2.2) kL131 _ _ hP hS ls (lv_sub hl [0, 3, 4, 5, 1, 2] rfl) (fun H locs ls hP hS hl => ?_)
        have kC156 := h
        have hv : k_Mo_walk_9 a0 a1 v4 v5 v6 ar sc = k_Mo_walk_131 a0 a1 ((g_Mo_walk_131 a0 a1 v4 v5 200 0 ((f_Mo_throwing ar sc v4 1 0).2.1) ((f_Mo_throwing ar sc v4 1 0).2.2)).1) v4 v5 ((g_Mo_walk_131 a0 a1 v4 v5 200 0 ((f_Mo_throwing ar sc v4 1 0).2.1) ((f_Mo_throwing ar sc v4 1 0).2.2)).2.1) ((g_Mo_walk_131 a0 a1 v4 v5 200 0 ((f_Mo_throwing ar sc v4 1 0).2.1) ((f_Mo_throwing ar sc v4 1 0).2.2)).2.2) := by rw [k_Mo_walk_9, if_neg c106, if_neg c111, if_pos c123]
        rw [hv]
        exact x_Mo_walk_131 a0 a1 ((g_Mo_walk_131 a0 a1 v4 v5 200 0 ((f_Mo_throwing ar sc v4 1 0).2.1) ((f_Mo_throwing ar sc v4 1 0).2.2)).1) v4 v5 hF hK hL hr hlocks kC156 _ _ hP hS ls (lv_sub hl [0, 1, 2, 3, 4, 5] rfl)
      · have h := h.2 c123
        refine lv_iconst (v := 0) hx hb d_Mo_walk_126 (by decide) ?_
        have hv : ((0, (f_Mo_throwing ar sc v4 1 0).2.1, (f_Mo_throwing ar sc v4 1 0).2.2) : Int32 × (Nat → Nat → Int32) × (Nat → Int32)) = k_Mo_walk_9 a0 a1 v4 v5 v6 ar sc := by rw [k_Mo_walk_9, if_neg c106, if_neg c111, if_neg c123]
        exact W.iret (v := 0) hx hb hr (fun t ht hW => ⟨⟨0, ((f_Mo_throwing ar sc v4 1 0).2.1, (f_Mo_throwing ar sc v4 1 0).2.2), rfl, hv, by dsimp only; rw [ht]; exact hP⟩, hS.F ht⟩) hS.2.2 d_Mo_walk_127
set_option maxHeartbeats 4000000 in
set_option maxRecDepth 100000 in
theorem c_Mo_walk (l : Launch) (dC : Nat → ClassId) (dI : Nat → Nat → Nat) (L : Nat → Nat) (cA : Nat → ClassId) (ar : Nat → Nat → Int32) (sc : Nat → Int32) (a0 : Int64) (a1 : Int32) (hL : ij 25 L) (h : p_Mo_walk ar sc a0 a1) : Met l y_Mo_walk z_Mo_walk (rmD 5) (va_Pc [.ref (L 0), .long a0, .int a1] (fun U => xw_M dC dI L cA ar sc U)) (va_Qi (fun (r : Int32) (u : oS) => (r, u.1, u.2) = f_Mo_walk ar sc a0 a1) (fun u t => va_P (dC, dI) classes (wM L cA u.1 u.2) t.heap) (aM L)) 0 0 (aM L) := by
  refine Met.ofW (cc := b_Mo_walk) (maxL := 15) (ret := (some .int)) (by decide) rfl ?_
  intro p e s m args below meth c s₁ B hml hv
  obtain ⟨rfl, ⟨hP, hK⟩⟩ := hv
  have hx := B.exec
  have hb := B.bytes
  have hr := B.returns
  have hts : ∀ w ∈ w_all, w.before _ s = true := fun w hw => atoms_spec (ws := z_Mo_walk) B.pre w (List.mem_cons_of_mem _ hw)
  have hown : s.vm.findClass R_Mo = some m.cls := findClass_of_methodNamed B.named
  have hlocks := B.notSynchronized
  have hF : CallFix p m c b_Mo_walk 15 s _ w_all R_Mo := ⟨hx, hb, hml, hown, hts⟩
  have hS : va_S (aM L) s.heap s.heap [] := va_S.rf
  have hl := lv_entry ([.ref (L 0), .long a0, .int a1]) (n := 15) (Nat.le_of_ble_eq_true rfl)
  rw [lg_entry_eq]
  generalize (lg_sl ([.ref (L 0), .long a0, .int a1]) ++ List.replicate (15 - (lg_sl ([.ref (L 0), .long a0, .int a1])).length) Slot.unset).toArray = ls at hl ⊢
  have hl : lv_has ls 15 [(0, .ref (L 0)), (1, .long a0), (3, .int a1)] := hl
  unfold p_Mo_walk at h
  refine lv_iconst (v := 0) hx hb d_Mo_walk_0 (by decide) ?_
  refine lv_istore (lv' := [(4, .int 0), (0, .ref (L 0)), (1, .long a0), (3, .int a1)]) hx hb d_Mo_walk_1 hl (by decide) rfl (fun ls hl => ?_)
  refine lv_iconst (v := 0) hx hb d_Mo_walk_3 (by decide) ?_
  refine lv_istore (lv' := [(5, .int 0), (4, .int 0), (0, .ref (L 0)), (1, .long a0), (3, .int a1)]) hx hb d_Mo_walk_4 hl (by decide) rfl (fun ls hl => ?_)
  refine lv_iconst (v := 0) hx hb d_Mo_walk_6 (by decide) ?_
  refine lv_istore (lv' := [(6, .int 0), (5, .int 0), (4, .int 0), (0, .ref (L 0)), (1, .long a0), (3, .int a1)]) hx hb d_Mo_walk_7 hl (by decide) rfl (fun ls hl => ?_)
  have kL9 := h.1
  have h := h.2
  refine l_Mo_walk_9 a0 a1 hF hK hL 200 0 0 0 ar sc kL9 _ _ hP hS ls (lv_sub hl [2, 1, 0, 3, 4, 5] rfl) (fun H locs ls hP hS hl => ?_)
  have kC96 := h
  have hv : f_Mo_walk ar sc a0 a1 = k_Mo_walk_9 a0 a1 ((g_Mo_walk_9 a0 a1 200 0 0 0 ar sc).1) ((g_Mo_walk_9 a0 a1 200 0 0 0 ar sc).2.1) ((g_Mo_walk_9 a0 a1 200 0 0 0 ar sc).2.2.1) ((g_Mo_walk_9 a0 a1 200 0 0 0 ar sc).2.2.2.1) ((g_Mo_walk_9 a0 a1 200 0 0 0 ar sc).2.2.2.2) := by rw [f_Mo_walk]
  rw [hv]
  exact x_Mo_walk_9 a0 a1 ((g_Mo_walk_9 a0 a1 200 0 0 0 ar sc).1) ((g_Mo_walk_9 a0 a1 200 0 0 0 ar sc).2.1) ((g_Mo_walk_9 a0 a1 200 0 0 0 ar sc).2.2.1) hF hK hL hr hlocks kC96 _ _ hP hS ls (lv_sub hl [0, 1, 2, 3, 4, 5] rfl)
set_option maxHeartbeats 1000000 in
theorem r_Mo_walk {p : Program} {l : Launch} {e : Env} {R : Room} {s : State} {m : MethodId} {args : Array Value} {below : List Frame} {meth : Method} {c : Code} {H : Heap} {locs : List Loc} {cells slots : Nat} {Q : State → Prop} {cc : ByteArray} {nL pc idx : Nat} {ls : Array Slot} {rest : List Value} {own : String} {dC : Nat → ClassId} {dI : Nat → Nat → Nat} {L : Nat → Nat} {cA : Nat → ClassId} {ar : Nat → Nat → Int32} {sc : Nat → Int32} {H0 : Heap} {a0 : Int64} {a1 : Int32} (hF : CallFix p m c cc nL s args w_all own) (hK : kW_M dC dI cA s) (hP : va_P (dC, dI) classes (wM L cA ar sc) H) (hL : ij 25 L) (hS : va_S (aM L) H0 H locs) (h : p_Mo_walk ar sc a0 a1) (hlk : Cond.methodLink own idx y_Mo_walk ∈ w_all) (hsz : ls.size = nL) (hR : (rmD 5).frames + 1 ≤ R.frames ∧ 8 + (15 + 11) + (rmD 5).locals ≤ R.locals) (hc : cells ≤ R.cells ∧ slots ≤ R.slots) (hrs : (rest.map fun v => v.category).sum ≤ 8) (hdg : decode cc pc = .ok (.invokevirtual idx, 3)) (kk : ∀ (H1 : Heap) (locs1 : List Loc), va_P (dC, dI) classes (wM L cA ((f_Mo_walk ar sc a0 a1).2.1) ((f_Mo_walk ar sc a0 a1).2.2)) H1 → va_S (aM L) H0 H1 locs1 → W p l e R s m args below meth c H1 locs1 cells slots Q (F0 m (pc + 3) ls (.int (f_Mo_walk ar sc a0 a1).1 :: rest))) : W p l e R s m args below meth c H locs cells slots Q (F0 m pc ls (.int a1 :: .long a0 :: .ref (L 0) :: rest)) :=
  va_calli (va_runV (As := [.long a0, .int a1]) (rest := rest) hF (c_Mo_walk l dC dI L cA ar sc a0 a1 hL h) (cwV 2 hF.2.2.2.2 (gV hlk m_334 m_335 m_187 m_336) rfl rfl rfl (by decide +kernel) hR) ⟨xb_M, va_recv hK.1 hP (ci := 7) (q0 := 0) rfl rfl, fun U hU hW => ⟨rfl, by rw [hU]; exact hP, kW_M_warm hW hK⟩⟩ rfl rfl hsz rfl (lv_room hrs) hdg hc) hS (fun q _ h9 => h9) (fun q h9 => h9) (fun r u t H1 locs1 ht hvm hw hB hz1 hk1 hS1 => by
    have hk9 := kk H1 locs1 (by rw [← hw, ← ht]; exact hB) hS1
    rw [← hw] at hk9
    exact hk9)
