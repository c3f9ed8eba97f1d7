theorem d_Law_0 : decode code 0 = .ok (.new 8, 3) := by decide +kernel
theorem d_Law_3 : decode code 3 = .ok (.dup, 1) := by decide +kernel
theorem d_Law_4 : decode code 4 = .ok (.invokespecial 86, 3) := by decide +kernel
theorem d_Law_7 : decode code 7 = .ok (.astore_n 1, 1) := by decide +kernel
theorem d_Law_8 : decode code 8 = .ok (.new 87, 3) := by decide +kernel
theorem d_Law_11 : decode code 11 = .ok (.dup, 1) := by decide +kernel
theorem d_Law_12 : decode code 12 = .ok (.invokespecial 89, 3) := by decide +kernel
theorem d_Law_15 : decode code 15 = .ok (.astore_n 2, 1) := by decide +kernel
theorem d_Law_16 : decode code 16 = .ok (.iconst 1, 1) := by decide +kernel
theorem d_Law_17 : decode code 17 = .ok (.newarray .long, 2) := by decide +kernel
theorem d_Law_19 : decode code 19 = .ok (.astore_n 3, 1) := by decide +kernel
theorem d_Law_20 : decode code 20 = .ok (.iconst 0, 1) := by decide +kernel
theorem d_Law_21 : decode code 21 = .ok (.istore 4, 2) := by decide +kernel
theorem d_Law_23 : decode code 23 = .ok (.iload 4, 2) := by decide +kernel
theorem d_Law_25 : decode code 25 = .ok (.aload_n 0, 1) := by decide +kernel
theorem d_Law_26 : decode code 26 = .ok (.arraylength, 1) := by decide +kernel
theorem d_Law_27 : decode code 27 = .ok (.bipush 6, 2) := by decide +kernel
theorem d_Law_29 : decode code 29 = .ok (.isub, 1) := by decide +kernel
theorem d_Law_30 : decode code 30 = .ok (.if_icmp .gt 1413, 3) := by decide +kernel
theorem d_Law_33 : decode code 33 = .ok (.aload_n 0, 1) := by decide +kernel
theorem d_Law_34 : decode code 34 = .ok (.iload 4, 2) := by decide +kernel
theorem d_Law_36 : decode code 36 = .ok (.iaload, 1) := by decide +kernel
theorem d_Law_37 : decode code 37 = .ok (.bipush 31, 2) := by decide +kernel
theorem d_Law_39 : decode code 39 = .ok (.iand, 1) := by decide +kernel
theorem d_Law_40 : decode code 40 = .ok (.tableswitch 1397 0 20 #[100, 148, 208, 268, 372, 408, 444, 524, 572, 640, 708, 776, 848, 916, 1016, 1072, 1120, 1200, 1272, 1285, 1341], 100) := by decide +kernel
theorem d_Law_140 : decode code 140 = .ok (.aload_n 1, 1) := by decide +kernel
theorem d_Law_141 : decode code 141 = .ok (.aload_n 0, 1) := by decide +kernel
theorem d_Law_142 : decode code 142 = .ok (.iload 4, 2) := by decide +kernel
theorem d_Law_144 : decode code 144 = .ok (.iconst 1, 1) := by decide +kernel
theorem d_Law_145 : decode code 145 = .ok (.iadd, 1) := by decide +kernel
theorem d_Law_146 : decode code 146 = .ok (.iaload, 1) := by decide +kernel
theorem d_Law_147 : decode code 147 = .ok (.aload_n 0, 1) := by decide +kernel
theorem d_Law_148 : decode code 148 = .ok (.iload 4, 2) := by decide +kernel
theorem d_Law_150 : decode code 150 = .ok (.iconst 2, 1) := by decide +kernel
theorem d_Law_151 : decode code 151 = .ok (.iadd, 1) := by decide +kernel
theorem d_Law_152 : decode code 152 = .ok (.iaload, 1) := by decide +kernel
theorem d_Law_153 : decode code 153 = .ok (.invokestatic 90, 3) := by decide +kernel
theorem d_Law_156 : decode code 156 = .ok (.istore 5, 2) := by decide +kernel
theorem d_Law_158 : decode code 158 = .ok (.aload_n 2, 1) := by decide +kernel
theorem d_Law_159 : decode code 159 = .ok (.aload_n 0, 1) := by decide +kernel
theorem d_Law_160 : decode code 160 = .ok (.iload 4, 2) := by decide +kernel
theorem d_Law_162 : decode code 162 = .ok (.iconst 1, 1) := by decide +kernel
theorem d_Law_163 : decode code 163 = .ok (.iadd, 1) := by decide +kernel
theorem d_Law_164 : decode code 164 = .ok (.iaload, 1) := by decide +kernel
theorem d_Law_165 : decode code 165 = .ok (.aload_n 0, 1) := by decide +kernel
theorem d_Law_166 : decode code 166 = .ok (.iload 4, 2) := by decide +kernel
theorem d_Law_168 : decode code 168 = .ok (.iconst 2, 1) := by decide +kernel
theorem d_Law_169 : decode code 169 = .ok (.iadd, 1) := by decide +kernel
theorem d_Law_170 : decode code 170 = .ok (.iaload, 1) := by decide +kernel
theorem d_Law_171 : decode code 171 = .ok (.invokevirtual 95, 3) := by decide +kernel
theorem d_Law_174 : decode code 174 = .ok (.aload_n 2, 1) := by decide +kernel
theorem d_Law_175 : decode code 175 = .ok (.invokevirtual 96, 3) := by decide +kernel
theorem d_Law_178 : decode code 178 = .ok (.iload 5, 2) := by decide +kernel
theorem d_Law_180 : decode code 180 = .ok (.if_icmp .eq 5, 3) := by decide +kernel
theorem d_Law_183 : decode code 183 = .ok (.iconst 0, 1) := by decide +kernel
theorem d_Law_184 : decode code 184 = .ok (.ireturn, 1) := by decide +kernel
theorem d_Law_185 : decode code 185 = .ok (.goto 1252, 3) := by decide +kernel
theorem d_Law_188 : decode code 188 = .ok (.aload_n 1, 1) := by decide +kernel
theorem d_Law_189 : decode code 189 = .ok (.aload_n 0, 1) := by decide +kernel
theorem d_Law_190 : decode code 190 = .ok (.iload 4, 2) := by decide +kernel
theorem d_Law_192 : decode code 192 = .ok (.iconst 1, 1) := by decide +kernel
theorem d_Law_193 : decode code 193 = .ok (.iadd, 1) := by decide +kernel
theorem d_Law_194 : decode code 194 = .ok (.iaload, 1) := by decide +kernel
theorem d_Law_195 : decode code 195 = .ok (.aload_n 0, 1) := by decide +kernel
theorem d_Law_196 : decode code 196 = .ok (.iload 4, 2) := by decide +kernel
theorem d_Law_198 : decode code 198 = .ok (.iconst 2, 1) := by decide +kernel
theorem d_Law_199 : decode code 199 = .ok (.iadd, 1) := by decide +kernel
theorem d_Law_200 : decode code 200 = .ok (.iaload, 1) := by decide +kernel
theorem d_Law_201 : decode code 201 = .ok (.aload_n 0, 1) := by decide +kernel
theorem d_Law_202 : decode code 202 = .ok (.iload 4, 2) := by decide +kernel
theorem d_Law_204 : decode code 204 = .ok (.iconst 3, 1) := by decide +kernel
theorem d_Law_205 : decode code 205 = .ok (.iadd, 1) := by decide +kernel
theorem d_Law_206 : decode code 206 = .ok (.iaload, 1) := by decide +kernel
theorem d_Law_207 : decode code 207 = .ok (.invokestatic 100, 3) := by decide +kernel
theorem d_Law_210 : decode code 210 = .ok (.istore 5, 2) := by decide +kernel
theorem d_Law_212 : decode code 212 = .ok (.aload_n 2, 1) := by decide +kernel
theorem d_Law_213 : decode code 213 = .ok (.aload_n 0, 1) := by decide +kernel
theorem d_Law_214 : decode code 214 = .ok (.iload 4, 2) := by decide +kernel
theorem d_Law_216 : decode code 216 = .ok (.iconst 1, 1) := by decide +kernel
theorem d_Law_217 : decode code 217 = .ok (.iadd, 1) := by decide +kernel
theorem d_Law_218 : decode code 218 = .ok (.iaload, 1) := by decide +kernel
theorem d_Law_219 : decode code 219 = .ok (.aload_n 0, 1) := by decide +kernel
theorem d_Law_220 : decode code 220 = .ok (.iload 4, 2) := by decide +kernel
theorem d_Law_222 : decode code 222 = .ok (.iconst 2, 1) := by decide +kernel
theorem d_Law_223 : decode code 223 = .ok (.iadd, 1) := by decide +kernel
theorem d_Law_224 : decode code 224 = .ok (.iaload, 1) := by decide +kernel
theorem d_Law_225 : decode code 225 = .ok (.aload_n 0, 1) := by decide +kernel
theorem d_Law_226 : decode code 226 = .ok (.iload 4, 2) := by decide +kernel
theorem d_Law_228 : decode code 228 = .ok (.iconst 3, 1) := by decide +kernel
theorem d_Law_229 : decode code 229 = .ok (.iadd, 1) := by decide +kernel
theorem d_Law_230 : decode code 230 = .ok (.iaload, 1) := by decide +kernel
theorem d_Law_231 : decode code 231 = .ok (.invokevirtual 103, 3) := by decide +kernel
theorem d_Law_234 : decode code 234 = .ok (.aload_n 2, 1) := by decide +kernel
theorem d_Law_235 : decode code 235 = .ok (.invokevirtual 96, 3) := by decide +kernel
theorem d_Law_238 : decode code 238 = .ok (.iload 5, 2) := by decide +kernel
theorem d_Law_240 : decode code 240 = .ok (.if_icmp .eq 5, 3) := by decide +kernel
theorem d_Law_243 : decode code 243 = .ok (.iconst 0, 1) := by decide +kernel
theorem d_Law_244 : decode code 244 = .ok (.ireturn, 1) := by decide +kernel
theorem d_Law_245 : decode code 245 = .ok (.goto 1192, 3) := by decide +kernel
theorem d_Law_248 : decode code 248 = .ok (.aload_n 1, 1) := by decide +kernel
theorem d_Law_249 : decode code 249 = .ok (.aload_n 0, 1) := by decide +kernel
theorem d_Law_250 : decode code 250 = .ok (.iload 4, 2) := by decide +kernel
theorem d_Law_252 : decode code 252 = .ok (.iconst 1, 1) := by decide +kernel
theorem d_Law_253 : decode code 253 = .ok (.iadd, 1) := by decide +kernel
theorem d_Law_254 : decode code 254 = .ok (.iaload, 1) := by decide +kernel
theorem d_Law_255 : decode code 255 = .ok (.aload_n 0, 1) := by decide +kernel
theorem d_Law_256 : decode code 256 = .ok (.iload 4, 2) := by decide +kernel
theorem d_Law_258 : decode code 258 = .ok (.iconst 2, 1) := by decide +kernel
theorem d_Law_259 : decode code 259 = .ok (.iadd, 1) := by decide +kernel
theorem d_Law_260 : decode code 260 = .ok (.iaload, 1) := by decide +kernel
theorem d_Law_261 : decode code 261 = .ok (.aload_n 0, 1) := by decide +kernel
theorem d_Law_262 : decode code 262 = .ok (.iload 4, 2) := by decide +kernel
theorem d_Law_264 : decode code 264 = .ok (.iconst 3, 1) := by decide +kernel
theorem d_Law_265 : decode code 265 = .ok (.iadd, 1) := by decide +kernel
theorem d_Law_266 : decode code 266 = .ok (.iaload, 1) := by decide +kernel
theorem d_Law_267 : decode code 267 = .ok (.invokestatic 104, 3) := by decide +kernel
theorem d_Law_270 : decode code 270 = .ok (.istore 5, 2) := by decide +kernel
theorem d_Law_272 : decode code 272 = .ok (.aload_n 2, 1) := by decide +kernel
theorem d_Law_273 : decode code 273 = .ok (.aload_n 0, 1) := by decide +kernel
theorem d_Law_274 : decode code 274 = .ok (.iload 4, 2) := by decide +kernel
theorem d_Law_276 : decode code 276 = .ok (.iconst 1, 1) := by decide +kernel
theorem d_Law_277 : decode code 277 = .ok (.iadd, 1) := by decide +kernel
theorem d_Law_278 : decode code 278 = .ok (.iaload, 1) := by decide +kernel
theorem d_Law_279 : decode code 279 = .ok (.aload_n 0, 1) := by decide +kernel
theorem d_Law_280 : decode code 280 = .ok (.iload 4, 2) := by decide +kernel
theorem d_Law_282 : decode code 282 = .ok (.iconst 2, 1) := by decide +kernel
theorem d_Law_283 : decode code 283 = .ok (.iadd, 1) := by decide +kernel
theorem d_Law_284 : decode code 284 = .ok (.iaload, 1) := by decide +kernel
theorem d_Law_285 : decode code 285 = .ok (.aload_n 0, 1) := by decide +kernel
theorem d_Law_286 : decode code 286 = .ok (.iload 4, 2) := by decide +kernel
theorem d_Law_288 : decode code 288 = .ok (.iconst 3, 1) := by decide +kernel
theorem d_Law_289 : decode code 289 = .ok (.iadd, 1) := by decide +kernel
theorem d_Law_290 : decode code 290 = .ok (.iaload, 1) := by decide +kernel
theorem d_Law_291 : decode code 291 = .ok (.invokevirtual 106, 3) := by decide +kernel
theorem d_Law_294 : decode code 294 = .ok (.aload_n 2, 1) := by decide +kernel
theorem d_Law_295 : decode code 295 = .ok (.invokevirtual 96, 3) := by decide +kernel
theorem d_Law_298 : decode code 298 = .ok (.iload 5, 2) := by decide +kernel
theorem d_Law_300 : decode code 300 = .ok (.if_icmp .eq 5, 3) := by decide +kernel
theorem d_Law_303 : decode code 303 = .ok (.iconst 0, 1) := by decide +kernel
theorem d_Law_304 : decode code 304 = .ok (.ireturn, 1) := by decide +kernel
theorem d_Law_305 : decode code 305 = .ok (.goto 1132, 3) := by decide +kernel
theorem d_Law_308 : decode code 308 = .ok (.aload_n 1, 1) := by decide +kernel
theorem d_Law_309 : decode code 309 = .ok (.aload_n 0, 1) := by decide +kernel
theorem d_Law_310 : decode code 310 = .ok (.iload 4, 2) := by decide +kernel
theorem d_Law_312 : decode code 312 = .ok (.iconst 1, 1) := by decide +kernel
theorem d_Law_313 : decode code 313 = .ok (.iadd, 1) := by decide +kernel
theorem d_Law_314 : decode code 314 = .ok (.iaload, 1) := by decide +kernel
theorem d_Law_315 : decode code 315 = .ok (.aload_n 0, 1) := by decide +kernel
theorem d_Law_316 : decode code 316 = .ok (.iload 4, 2) := by decide +kernel
theorem d_Law_318 : decode code 318 = .ok (.iconst 2, 1) := by decide +kernel
