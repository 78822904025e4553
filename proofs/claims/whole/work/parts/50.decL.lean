/-! decode rows of the law (by program) -/
theorem d_L_cell_0 : decode b_L_cell 0 = .ok (.iload_n 1, 1) := by decide +kernel
theorem d_L_cell_1 : decode b_L_cell 1 = .ok (.aload_n 0, 1) := by decide +kernel
theorem d_L_cell_2 : decode b_L_cell 2 = .ok (.arraylength, 1) := by decide +kernel
theorem d_L_cell_3 : decode b_L_cell 3 = .ok (.if_icmp .ge 9, 3) := by decide +kernel
theorem d_L_cell_6 : decode b_L_cell 6 = .ok (.aload_n 0, 1) := by decide +kernel
theorem d_L_cell_7 : decode b_L_cell 7 = .ok (.iload_n 1, 1) := by decide +kernel
theorem d_L_cell_8 : decode b_L_cell 8 = .ok (.iaload, 1) := by decide +kernel
theorem d_L_cell_9 : decode b_L_cell 9 = .ok (.goto 4, 3) := by decide +kernel
theorem d_L_cell_12 : decode b_L_cell 12 = .ok (.iconst 0, 1) := by decide +kernel
theorem d_L_cell_13 : decode b_L_cell 13 = .ok (.ireturn, 1) := by decide +kernel
theorem d_L_law_0 : decode b_L_law 0 = .ok (.new 7, 3) := by decide +kernel
theorem d_L_law_3 : decode b_L_law 3 = .ok (.dup, 1) := by decide +kernel
theorem d_L_law_4 : decode b_L_law 4 = .ok (.aload_n 0, 1) := by decide +kernel
theorem d_L_law_5 : decode b_L_law 5 = .ok (.iconst 0, 1) := by decide +kernel
theorem d_L_law_6 : decode b_L_law 6 = .ok (.invokestatic 9, 3) := by decide +kernel
theorem d_L_law_9 : decode b_L_law 9 = .ok (.invokespecial 15, 3) := by decide +kernel
theorem d_L_law_12 : decode b_L_law 12 = .ok (.astore_n 1, 1) := by decide +kernel
theorem d_L_law_13 : decode b_L_law 13 = .ok (.new 18, 3) := by decide +kernel
theorem d_L_law_16 : decode b_L_law 16 = .ok (.dup, 1) := by decide +kernel
theorem d_L_law_17 : decode b_L_law 17 = .ok (.aload_n 0, 1) := by decide +kernel
theorem d_L_law_18 : decode b_L_law 18 = .ok (.iconst 0, 1) := by decide +kernel
theorem d_L_law_19 : decode b_L_law 19 = .ok (.invokestatic 9, 3) := by decide +kernel
theorem d_L_law_22 : decode b_L_law 22 = .ok (.invokespecial 20, 3) := by decide +kernel
theorem d_L_law_25 : decode b_L_law 25 = .ok (.astore_n 2, 1) := by decide +kernel
theorem d_L_law_26 : decode b_L_law 26 = .ok (.iconst 1, 1) := by decide +kernel
theorem d_L_law_27 : decode b_L_law 27 = .ok (.istore_n 3, 1) := by decide +kernel
theorem d_L_law_28 : decode b_L_law 28 = .ok (.iload_n 3, 1) := by decide +kernel
theorem d_L_law_29 : decode b_L_law 29 = .ok (.aload_n 0, 1) := by decide +kernel
theorem d_L_law_30 : decode b_L_law 30 = .ok (.arraylength, 1) := by decide +kernel
theorem d_L_law_31 : decode b_L_law 31 = .ok (.iconst 5, 1) := by decide +kernel
theorem d_L_law_32 : decode b_L_law 32 = .ok (.isub, 1) := by decide +kernel
theorem d_L_law_33 : decode b_L_law 33 = .ok (.if_icmp .gt 723, 3) := by decide +kernel
theorem d_L_law_36 : decode b_L_law 36 = .ok (.aload_n 0, 1) := by decide +kernel
theorem d_L_law_37 : decode b_L_law 37 = .ok (.iload_n 3, 1) := by decide +kernel
theorem d_L_law_38 : decode b_L_law 38 = .ok (.iaload, 1) := by decide +kernel
theorem d_L_law_39 : decode b_L_law 39 = .ok (.bipush 31, 2) := by decide +kernel
theorem d_L_law_41 : decode b_L_law 41 = .ok (.iand, 1) := by decide +kernel
theorem d_L_law_42 : decode b_L_law 42 = .ok (.tableswitch 708 0 17 #[86, 139, 228, 251, 284, 327, 350, 373, 396, 419, 442, 485, 508, 532, 565, 588, 651, 674], 86) := by decide +kernel
theorem d_L_law_128 : decode b_L_law 128 = .ok (.aload_n 1, 1) := by decide +kernel
theorem d_L_law_129 : decode b_L_law 129 = .ok (.aload_n 0, 1) := by decide +kernel
theorem d_L_law_130 : decode b_L_law 130 = .ok (.iload_n 3, 1) := by decide +kernel
theorem d_L_law_131 : decode b_L_law 131 = .ok (.iconst 1, 1) := by decide +kernel
theorem d_L_law_132 : decode b_L_law 132 = .ok (.iadd, 1) := by decide +kernel
theorem d_L_law_133 : decode b_L_law 133 = .ok (.iaload, 1) := by decide +kernel
theorem d_L_law_134 : decode b_L_law 134 = .ok (.i2l, 1) := by decide +kernel
theorem d_L_law_135 : decode b_L_law 135 = .ok (.bipush 32, 2) := by decide +kernel
theorem d_L_law_137 : decode b_L_law 137 = .ok (.lshl, 1) := by decide +kernel
theorem d_L_law_138 : decode b_L_law 138 = .ok (.aload_n 0, 1) := by decide +kernel
theorem d_L_law_139 : decode b_L_law 139 = .ok (.iload_n 3, 1) := by decide +kernel
theorem d_L_law_140 : decode b_L_law 140 = .ok (.iconst 2, 1) := by decide +kernel
theorem d_L_law_141 : decode b_L_law 141 = .ok (.iadd, 1) := by decide +kernel
theorem d_L_law_142 : decode b_L_law 142 = .ok (.iaload, 1) := by decide +kernel
theorem d_L_law_143 : decode b_L_law 143 = .ok (.i2l, 1) := by decide +kernel
theorem d_L_law_144 : decode b_L_law 144 = .ok (.ldc2_w 21, 3) := by decide +kernel
theorem d_L_law_147 : decode b_L_law 147 = .ok (.land, 1) := by decide +kernel
theorem d_L_law_148 : decode b_L_law 148 = .ok (.lor, 1) := by decide +kernel
theorem d_L_law_149 : decode b_L_law 149 = .ok (.invokevirtual 23, 3) := by decide +kernel
theorem d_L_law_152 : decode b_L_law 152 = .ok (.aload_n 2, 1) := by decide +kernel
theorem d_L_law_153 : decode b_L_law 153 = .ok (.aload_n 0, 1) := by decide +kernel
theorem d_L_law_154 : decode b_L_law 154 = .ok (.iload_n 3, 1) := by decide +kernel
theorem d_L_law_155 : decode b_L_law 155 = .ok (.iconst 1, 1) := by decide +kernel
theorem d_L_law_156 : decode b_L_law 156 = .ok (.iadd, 1) := by decide +kernel
theorem d_L_law_157 : decode b_L_law 157 = .ok (.iaload, 1) := by decide +kernel
theorem d_L_law_158 : decode b_L_law 158 = .ok (.i2l, 1) := by decide +kernel
theorem d_L_law_159 : decode b_L_law 159 = .ok (.bipush 32, 2) := by decide +kernel
theorem d_L_law_161 : decode b_L_law 161 = .ok (.lshl, 1) := by decide +kernel
theorem d_L_law_162 : decode b_L_law 162 = .ok (.aload_n 0, 1) := by decide +kernel
theorem d_L_law_163 : decode b_L_law 163 = .ok (.iload_n 3, 1) := by decide +kernel
theorem d_L_law_164 : decode b_L_law 164 = .ok (.iconst 2, 1) := by decide +kernel
theorem d_L_law_165 : decode b_L_law 165 = .ok (.iadd, 1) := by decide +kernel
theorem d_L_law_166 : decode b_L_law 166 = .ok (.iaload, 1) := by decide +kernel
theorem d_L_law_167 : decode b_L_law 167 = .ok (.i2l, 1) := by decide +kernel
theorem d_L_law_168 : decode b_L_law 168 = .ok (.ldc2_w 21, 3) := by decide +kernel
theorem d_L_law_171 : decode b_L_law 171 = .ok (.land, 1) := by decide +kernel
theorem d_L_law_172 : decode b_L_law 172 = .ok (.lor, 1) := by decide +kernel
theorem d_L_law_173 : decode b_L_law 173 = .ok (.invokevirtual 27, 3) := by decide +kernel
theorem d_L_law_176 : decode b_L_law 176 = .ok (.if_icmp .eq 574, 3) := by decide +kernel
theorem d_L_law_179 : decode b_L_law 179 = .ok (.iconst 0, 1) := by decide +kernel
theorem d_L_law_180 : decode b_L_law 180 = .ok (.ireturn, 1) := by decide +kernel
theorem d_L_law_181 : decode b_L_law 181 = .ok (.aload_n 1, 1) := by decide +kernel
theorem d_L_law_182 : decode b_L_law 182 = .ok (.aload_n 0, 1) := by decide +kernel
theorem d_L_law_183 : decode b_L_law 183 = .ok (.iload_n 3, 1) := by decide +kernel
theorem d_L_law_184 : decode b_L_law 184 = .ok (.iconst 1, 1) := by decide +kernel
theorem d_L_law_185 : decode b_L_law 185 = .ok (.iadd, 1) := by decide +kernel
theorem d_L_law_186 : decode b_L_law 186 = .ok (.iaload, 1) := by decide +kernel
theorem d_L_law_187 : decode b_L_law 187 = .ok (.aload_n 0, 1) := by decide +kernel
theorem d_L_law_188 : decode b_L_law 188 = .ok (.iload_n 3, 1) := by decide +kernel
theorem d_L_law_189 : decode b_L_law 189 = .ok (.iconst 2, 1) := by decide +kernel
theorem d_L_law_190 : decode b_L_law 190 = .ok (.iadd, 1) := by decide +kernel
theorem d_L_law_191 : decode b_L_law 191 = .ok (.iaload, 1) := by decide +kernel
theorem d_L_law_192 : decode b_L_law 192 = .ok (.ifCond .eq 7, 3) := by decide +kernel
theorem d_L_law_195 : decode b_L_law 195 = .ok (.iconst 1, 1) := by decide +kernel
theorem d_L_law_196 : decode b_L_law 196 = .ok (.goto 4, 3) := by decide +kernel
theorem d_L_law_199 : decode b_L_law 199 = .ok (.iconst 0, 1) := by decide +kernel
theorem d_L_law_200 : decode b_L_law 200 = .ok (.aload_n 0, 1) := by decide +kernel
theorem d_L_law_201 : decode b_L_law 201 = .ok (.iload_n 3, 1) := by decide +kernel
theorem d_L_law_202 : decode b_L_law 202 = .ok (.iconst 3, 1) := by decide +kernel
theorem d_L_law_203 : decode b_L_law 203 = .ok (.iadd, 1) := by decide +kernel
theorem d_L_law_204 : decode b_L_law 204 = .ok (.iaload, 1) := by decide +kernel
theorem d_L_law_205 : decode b_L_law 205 = .ok (.i2l, 1) := by decide +kernel
theorem d_L_law_206 : decode b_L_law 206 = .ok (.bipush 32, 2) := by decide +kernel
theorem d_L_law_208 : decode b_L_law 208 = .ok (.lshl, 1) := by decide +kernel
theorem d_L_law_209 : decode b_L_law 209 = .ok (.aload_n 0, 1) := by decide +kernel
theorem d_L_law_210 : decode b_L_law 210 = .ok (.iload_n 3, 1) := by decide +kernel
theorem d_L_law_211 : decode b_L_law 211 = .ok (.iconst 4, 1) := by decide +kernel
theorem d_L_law_212 : decode b_L_law 212 = .ok (.iadd, 1) := by decide +kernel
theorem d_L_law_213 : decode b_L_law 213 = .ok (.iaload, 1) := by decide +kernel
theorem d_L_law_214 : decode b_L_law 214 = .ok (.i2l, 1) := by decide +kernel
theorem d_L_law_215 : decode b_L_law 215 = .ok (.ldc2_w 21, 3) := by decide +kernel
theorem d_L_law_218 : decode b_L_law 218 = .ok (.land, 1) := by decide +kernel
theorem d_L_law_219 : decode b_L_law 219 = .ok (.lor, 1) := by decide +kernel
theorem d_L_law_220 : decode b_L_law 220 = .ok (.invokevirtual 28, 3) := by decide +kernel
theorem d_L_law_223 : decode b_L_law 223 = .ok (.aload_n 2, 1) := by decide +kernel
theorem d_L_law_224 : decode b_L_law 224 = .ok (.aload_n 0, 1) := by decide +kernel
theorem d_L_law_225 : decode b_L_law 225 = .ok (.iload_n 3, 1) := by decide +kernel
theorem d_L_law_226 : decode b_L_law 226 = .ok (.iconst 1, 1) := by decide +kernel
theorem d_L_law_227 : decode b_L_law 227 = .ok (.iadd, 1) := by decide +kernel
theorem d_L_law_228 : decode b_L_law 228 = .ok (.iaload, 1) := by decide +kernel
theorem d_L_law_229 : decode b_L_law 229 = .ok (.aload_n 0, 1) := by decide +kernel
theorem d_L_law_230 : decode b_L_law 230 = .ok (.iload_n 3, 1) := by decide +kernel
theorem d_L_law_231 : decode b_L_law 231 = .ok (.iconst 2, 1) := by decide +kernel
theorem d_L_law_232 : decode b_L_law 232 = .ok (.iadd, 1) := by decide +kernel
theorem d_L_law_233 : decode b_L_law 233 = .ok (.iaload, 1) := by decide +kernel
theorem d_L_law_234 : decode b_L_law 234 = .ok (.ifCond .eq 7, 3) := by decide +kernel
theorem d_L_law_237 : decode b_L_law 237 = .ok (.iconst 1, 1) := by decide +kernel
theorem d_L_law_238 : decode b_L_law 238 = .ok (.goto 4, 3) := by decide +kernel
theorem d_L_law_241 : decode b_L_law 241 = .ok (.iconst 0, 1) := by decide +kernel
theorem d_L_law_242 : decode b_L_law 242 = .ok (.aload_n 0, 1) := by decide +kernel
theorem d_L_law_243 : decode b_L_law 243 = .ok (.iload_n 3, 1) := by decide +kernel
theorem d_L_law_244 : decode b_L_law 244 = .ok (.iconst 3, 1) := by decide +kernel
theorem d_L_law_245 : decode b_L_law 245 = .ok (.iadd, 1) := by decide +kernel
theorem d_L_law_246 : decode b_L_law 246 = .ok (.iaload, 1) := by decide +kernel
theorem d_L_law_247 : decode b_L_law 247 = .ok (.i2l, 1) := by decide +kernel
theorem d_L_law_248 : decode b_L_law 248 = .ok (.bipush 32, 2) := by decide +kernel
theorem d_L_law_250 : decode b_L_law 250 = .ok (.lshl, 1) := by decide +kernel
theorem d_L_law_251 : decode b_L_law 251 = .ok (.aload_n 0, 1) := by decide +kernel
theorem d_L_law_252 : decode b_L_law 252 = .ok (.iload_n 3, 1) := by decide +kernel
theorem d_L_law_253 : decode b_L_law 253 = .ok (.iconst 4, 1) := by decide +kernel
theorem d_L_law_254 : decode b_L_law 254 = .ok (.iadd, 1) := by decide +kernel
theorem d_L_law_255 : decode b_L_law 255 = .ok (.iaload, 1) := by decide +kernel
theorem d_L_law_256 : decode b_L_law 256 = .ok (.i2l, 1) := by decide +kernel
theorem d_L_law_257 : decode b_L_law 257 = .ok (.ldc2_w 21, 3) := by decide +kernel
theorem d_L_law_260 : decode b_L_law 260 = .ok (.land, 1) := by decide +kernel
theorem d_L_law_261 : decode b_L_law 261 = .ok (.lor, 1) := by decide +kernel
theorem d_L_law_262 : decode b_L_law 262 = .ok (.invokevirtual 32, 3) := by decide +kernel
theorem d_L_law_265 : decode b_L_law 265 = .ok (.if_icmp .eq 485, 3) := by decide +kernel
theorem d_L_law_268 : decode b_L_law 268 = .ok (.iconst 0, 1) := by decide +kernel
theorem d_L_law_269 : decode b_L_law 269 = .ok (.ireturn, 1) := by decide +kernel
theorem d_L_law_270 : decode b_L_law 270 = .ok (.aload_n 1, 1) := by decide +kernel
theorem d_L_law_271 : decode b_L_law 271 = .ok (.aload_n 0, 1) := by decide +kernel
theorem d_L_law_272 : decode b_L_law 272 = .ok (.iload_n 3, 1) := by decide +kernel
theorem d_L_law_273 : decode b_L_law 273 = .ok (.iconst 1, 1) := by decide +kernel
theorem d_L_law_274 : decode b_L_law 274 = .ok (.iadd, 1) := by decide +kernel
theorem d_L_law_275 : decode b_L_law 275 = .ok (.iaload, 1) := by decide +kernel
theorem d_L_law_276 : decode b_L_law 276 = .ok (.invokevirtual 33, 3) := by decide +kernel
theorem d_L_law_279 : decode b_L_law 279 = .ok (.aload_n 2, 1) := by decide +kernel
theorem d_L_law_280 : decode b_L_law 280 = .ok (.aload_n 0, 1) := by decide +kernel
theorem d_L_law_281 : decode b_L_law 281 = .ok (.iload_n 3, 1) := by decide +kernel
theorem d_L_law_282 : decode b_L_law 282 = .ok (.iconst 1, 1) := by decide +kernel
theorem d_L_law_283 : decode b_L_law 283 = .ok (.iadd, 1) := by decide +kernel
theorem d_L_law_284 : decode b_L_law 284 = .ok (.iaload, 1) := by decide +kernel
theorem d_L_law_285 : decode b_L_law 285 = .ok (.invokevirtual 37, 3) := by decide +kernel
theorem d_L_law_288 : decode b_L_law 288 = .ok (.if_icmp .eq 462, 3) := by decide +kernel
theorem d_L_law_291 : decode b_L_law 291 = .ok (.iconst 0, 1) := by decide +kernel
theorem d_L_law_292 : decode b_L_law 292 = .ok (.ireturn, 1) := by decide +kernel
theorem d_L_law_293 : decode b_L_law 293 = .ok (.aload_n 1, 1) := by decide +kernel
theorem d_L_law_294 : decode b_L_law 294 = .ok (.aload_n 0, 1) := by decide +kernel
theorem d_L_law_295 : decode b_L_law 295 = .ok (.iload_n 3, 1) := by decide +kernel
theorem d_L_law_296 : decode b_L_law 296 = .ok (.iconst 1, 1) := by decide +kernel
theorem d_L_law_297 : decode b_L_law 297 = .ok (.iadd, 1) := by decide +kernel
theorem d_L_law_298 : decode b_L_law 298 = .ok (.iaload, 1) := by decide +kernel
theorem d_L_law_299 : decode b_L_law 299 = .ok (.aload_n 0, 1) := by decide +kernel
theorem d_L_law_300 : decode b_L_law 300 = .ok (.iload_n 3, 1) := by decide +kernel
theorem d_L_law_301 : decode b_L_law 301 = .ok (.iconst 2, 1) := by decide +kernel
theorem d_L_law_302 : decode b_L_law 302 = .ok (.iadd, 1) := by decide +kernel
theorem d_L_law_303 : decode b_L_law 303 = .ok (.iaload, 1) := by decide +kernel
theorem d_L_law_304 : decode b_L_law 304 = .ok (.invokevirtual 38, 3) := by decide +kernel
theorem d_L_law_307 : decode b_L_law 307 = .ok (.aload_n 2, 1) := by decide +kernel
theorem d_L_law_308 : decode b_L_law 308 = .ok (.aload_n 0, 1) := by decide +kernel
theorem d_L_law_309 : decode b_L_law 309 = .ok (.iload_n 3, 1) := by decide +kernel
theorem d_L_law_310 : decode b_L_law 310 = .ok (.iconst 1, 1) := by decide +kernel
theorem d_L_law_311 : decode b_L_law 311 = .ok (.iadd, 1) := by decide +kernel
theorem d_L_law_312 : decode b_L_law 312 = .ok (.iaload, 1) := by decide +kernel
theorem d_L_law_313 : decode b_L_law 313 = .ok (.aload_n 0, 1) := by decide +kernel
theorem d_L_law_314 : decode b_L_law 314 = .ok (.iload_n 3, 1) := by decide +kernel
theorem d_L_law_315 : decode b_L_law 315 = .ok (.iconst 2, 1) := by decide +kernel
theorem d_L_law_316 : decode b_L_law 316 = .ok (.iadd, 1) := by decide +kernel
theorem d_L_law_317 : decode b_L_law 317 = .ok (.iaload, 1) := by decide +kernel
theorem d_L_law_318 : decode b_L_law 318 = .ok (.invokevirtual 42, 3) := by decide +kernel
theorem d_L_law_321 : decode b_L_law 321 = .ok (.if_icmp .eq 429, 3) := by decide +kernel
theorem d_L_law_324 : decode b_L_law 324 = .ok (.iconst 0, 1) := by decide +kernel
theorem d_L_law_325 : decode b_L_law 325 = .ok (.ireturn, 1) := by decide +kernel
theorem d_L_law_326 : decode b_L_law 326 = .ok (.aload_n 1, 1) := by decide +kernel
theorem d_L_law_327 : decode b_L_law 327 = .ok (.aload_n 0, 1) := by decide +kernel
theorem d_L_law_328 : decode b_L_law 328 = .ok (.iload_n 3, 1) := by decide +kernel
theorem d_L_law_329 : decode b_L_law 329 = .ok (.iconst 1, 1) := by decide +kernel
theorem d_L_law_330 : decode b_L_law 330 = .ok (.iadd, 1) := by decide +kernel
theorem d_L_law_331 : decode b_L_law 331 = .ok (.iaload, 1) := by decide +kernel
theorem d_L_law_332 : decode b_L_law 332 = .ok (.aload_n 0, 1) := by decide +kernel
theorem d_L_law_333 : decode b_L_law 333 = .ok (.iload_n 3, 1) := by decide +kernel
theorem d_L_law_334 : decode b_L_law 334 = .ok (.iconst 2, 1) := by decide +kernel
theorem d_L_law_335 : decode b_L_law 335 = .ok (.iadd, 1) := by decide +kernel
theorem d_L_law_336 : decode b_L_law 336 = .ok (.iaload, 1) := by decide +kernel
theorem d_L_law_337 : decode b_L_law 337 = .ok (.aload_n 0, 1) := by decide +kernel
theorem d_L_law_338 : decode b_L_law 338 = .ok (.iload_n 3, 1) := by decide +kernel
theorem d_L_law_339 : decode b_L_law 339 = .ok (.iconst 3, 1) := by decide +kernel
theorem d_L_law_340 : decode b_L_law 340 = .ok (.iadd, 1) := by decide +kernel
theorem d_L_law_341 : decode b_L_law 341 = .ok (.iaload, 1) := by decide +kernel
theorem d_L_law_342 : decode b_L_law 342 = .ok (.invokevirtual 43, 3) := by decide +kernel
theorem d_L_law_345 : decode b_L_law 345 = .ok (.aload_n 2, 1) := by decide +kernel
theorem d_L_law_346 : decode b_L_law 346 = .ok (.aload_n 0, 1) := by decide +kernel
theorem d_L_law_347 : decode b_L_law 347 = .ok (.iload_n 3, 1) := by decide +kernel
theorem d_L_law_348 : decode b_L_law 348 = .ok (.iconst 1, 1) := by decide +kernel
theorem d_L_law_349 : decode b_L_law 349 = .ok (.iadd, 1) := by decide +kernel
theorem d_L_law_350 : decode b_L_law 350 = .ok (.iaload, 1) := by decide +kernel
theorem d_L_law_351 : decode b_L_law 351 = .ok (.aload_n 0, 1) := by decide +kernel
theorem d_L_law_352 : decode b_L_law 352 = .ok (.iload_n 3, 1) := by decide +kernel
theorem d_L_law_353 : decode b_L_law 353 = .ok (.iconst 2, 1) := by decide +kernel
theorem d_L_law_354 : decode b_L_law 354 = .ok (.iadd, 1) := by decide +kernel
theorem d_L_law_355 : decode b_L_law 355 = .ok (.iaload, 1) := by decide +kernel
theorem d_L_law_356 : decode b_L_law 356 = .ok (.aload_n 0, 1) := by decide +kernel
theorem d_L_law_357 : decode b_L_law 357 = .ok (.iload_n 3, 1) := by decide +kernel
theorem d_L_law_358 : decode b_L_law 358 = .ok (.iconst 3, 1) := by decide +kernel
theorem d_L_law_359 : decode b_L_law 359 = .ok (.iadd, 1) := by decide +kernel
theorem d_L_law_360 : decode b_L_law 360 = .ok (.iaload, 1) := by decide +kernel
theorem d_L_law_361 : decode b_L_law 361 = .ok (.invokevirtual 47, 3) := by decide +kernel
theorem d_L_law_364 : decode b_L_law 364 = .ok (.if_icmp .eq 386, 3) := by decide +kernel
theorem d_L_law_367 : decode b_L_law 367 = .ok (.iconst 0, 1) := by decide +kernel
theorem d_L_law_368 : decode b_L_law 368 = .ok (.ireturn, 1) := by decide +kernel
theorem d_L_law_369 : decode b_L_law 369 = .ok (.aload_n 1, 1) := by decide +kernel
theorem d_L_law_370 : decode b_L_law 370 = .ok (.aload_n 0, 1) := by decide +kernel
theorem d_L_law_371 : decode b_L_law 371 = .ok (.iload_n 3, 1) := by decide +kernel
theorem d_L_law_372 : decode b_L_law 372 = .ok (.iconst 1, 1) := by decide +kernel
theorem d_L_law_373 : decode b_L_law 373 = .ok (.iadd, 1) := by decide +kernel
theorem d_L_law_374 : decode b_L_law 374 = .ok (.iaload, 1) := by decide +kernel
theorem d_L_law_375 : decode b_L_law 375 = .ok (.invokevirtual 48, 3) := by decide +kernel
theorem d_L_law_378 : decode b_L_law 378 = .ok (.aload_n 2, 1) := by decide +kernel
theorem d_L_law_379 : decode b_L_law 379 = .ok (.aload_n 0, 1) := by decide +kernel
theorem d_L_law_380 : decode b_L_law 380 = .ok (.iload_n 3, 1) := by decide +kernel
theorem d_L_law_381 : decode b_L_law 381 = .ok (.iconst 1, 1) := by decide +kernel
theorem d_L_law_382 : decode b_L_law 382 = .ok (.iadd, 1) := by decide +kernel
theorem d_L_law_383 : decode b_L_law 383 = .ok (.iaload, 1) := by decide +kernel
theorem d_L_law_384 : decode b_L_law 384 = .ok (.invokevirtual 51, 3) := by decide +kernel
theorem d_L_law_387 : decode b_L_law 387 = .ok (.if_icmp .eq 363, 3) := by decide +kernel
theorem d_L_law_390 : decode b_L_law 390 = .ok (.iconst 0, 1) := by decide +kernel
theorem d_L_law_391 : decode b_L_law 391 = .ok (.ireturn, 1) := by decide +kernel
theorem d_L_law_392 : decode b_L_law 392 = .ok (.aload_n 1, 1) := by decide +kernel
theorem d_L_law_393 : decode b_L_law 393 = .ok (.aload_n 0, 1) := by decide +kernel
theorem d_L_law_394 : decode b_L_law 394 = .ok (.iload_n 3, 1) := by decide +kernel
theorem d_L_law_395 : decode b_L_law 395 = .ok (.iconst 1, 1) := by decide +kernel
theorem d_L_law_396 : decode b_L_law 396 = .ok (.iadd, 1) := by decide +kernel
theorem d_L_law_397 : decode b_L_law 397 = .ok (.iaload, 1) := by decide +kernel
theorem d_L_law_398 : decode b_L_law 398 = .ok (.invokevirtual 52, 3) := by decide +kernel
theorem d_L_law_401 : decode b_L_law 401 = .ok (.aload_n 2, 1) := by decide +kernel
theorem d_L_law_402 : decode b_L_law 402 = .ok (.aload_n 0, 1) := by decide +kernel
theorem d_L_law_403 : decode b_L_law 403 = .ok (.iload_n 3, 1) := by decide +kernel
theorem d_L_law_404 : decode b_L_law 404 = .ok (.iconst 1, 1) := by decide +kernel
theorem d_L_law_405 : decode b_L_law 405 = .ok (.iadd, 1) := by decide +kernel
theorem d_L_law_406 : decode b_L_law 406 = .ok (.iaload, 1) := by decide +kernel
theorem d_L_law_407 : decode b_L_law 407 = .ok (.invokevirtual 55, 3) := by decide +kernel
theorem d_L_law_410 : decode b_L_law 410 = .ok (.if_icmp .eq 340, 3) := by decide +kernel
theorem d_L_law_413 : decode b_L_law 413 = .ok (.iconst 0, 1) := by decide +kernel
theorem d_L_law_414 : decode b_L_law 414 = .ok (.ireturn, 1) := by decide +kernel
theorem d_L_law_415 : decode b_L_law 415 = .ok (.aload_n 1, 1) := by decide +kernel
theorem d_L_law_416 : decode b_L_law 416 = .ok (.aload_n 0, 1) := by decide +kernel
theorem d_L_law_417 : decode b_L_law 417 = .ok (.iload_n 3, 1) := by decide +kernel
theorem d_L_law_418 : decode b_L_law 418 = .ok (.iconst 1, 1) := by decide +kernel
theorem d_L_law_419 : decode b_L_law 419 = .ok (.iadd, 1) := by decide +kernel
theorem d_L_law_420 : decode b_L_law 420 = .ok (.iaload, 1) := by decide +kernel
theorem d_L_law_421 : decode b_L_law 421 = .ok (.invokevirtual 56, 3) := by decide +kernel
theorem d_L_law_424 : decode b_L_law 424 = .ok (.aload_n 2, 1) := by decide +kernel
theorem d_L_law_425 : decode b_L_law 425 = .ok (.aload_n 0, 1) := by decide +kernel
theorem d_L_law_426 : decode b_L_law 426 = .ok (.iload_n 3, 1) := by decide +kernel
theorem d_L_law_427 : decode b_L_law 427 = .ok (.iconst 1, 1) := by decide +kernel
theorem d_L_law_428 : decode b_L_law 428 = .ok (.iadd, 1) := by decide +kernel
theorem d_L_law_429 : decode b_L_law 429 = .ok (.iaload, 1) := by decide +kernel
theorem d_L_law_430 : decode b_L_law 430 = .ok (.invokevirtual 59, 3) := by decide +kernel
theorem d_L_law_433 : decode b_L_law 433 = .ok (.if_icmp .eq 317, 3) := by decide +kernel
theorem d_L_law_436 : decode b_L_law 436 = .ok (.iconst 0, 1) := by decide +kernel
theorem d_L_law_437 : decode b_L_law 437 = .ok (.ireturn, 1) := by decide +kernel
theorem d_L_law_438 : decode b_L_law 438 = .ok (.aload_n 1, 1) := by decide +kernel
theorem d_L_law_439 : decode b_L_law 439 = .ok (.aload_n 0, 1) := by decide +kernel
theorem d_L_law_440 : decode b_L_law 440 = .ok (.iload_n 3, 1) := by decide +kernel
theorem d_L_law_441 : decode b_L_law 441 = .ok (.iconst 1, 1) := by decide +kernel
theorem d_L_law_442 : decode b_L_law 442 = .ok (.iadd, 1) := by decide +kernel
theorem d_L_law_443 : decode b_L_law 443 = .ok (.iaload, 1) := by decide +kernel
theorem d_L_law_444 : decode b_L_law 444 = .ok (.invokevirtual 60, 3) := by decide +kernel
theorem d_L_law_447 : decode b_L_law 447 = .ok (.aload_n 2, 1) := by decide +kernel
theorem d_L_law_448 : decode b_L_law 448 = .ok (.aload_n 0, 1) := by decide +kernel
theorem d_L_law_449 : decode b_L_law 449 = .ok (.iload_n 3, 1) := by decide +kernel
theorem d_L_law_450 : decode b_L_law 450 = .ok (.iconst 1, 1) := by decide +kernel
theorem d_L_law_451 : decode b_L_law 451 = .ok (.iadd, 1) := by decide +kernel
theorem d_L_law_452 : decode b_L_law 452 = .ok (.iaload, 1) := by decide +kernel
theorem d_L_law_453 : decode b_L_law 453 = .ok (.invokevirtual 63, 3) := by decide +kernel
theorem d_L_law_456 : decode b_L_law 456 = .ok (.if_icmp .eq 294, 3) := by decide +kernel
theorem d_L_law_459 : decode b_L_law 459 = .ok (.iconst 0, 1) := by decide +kernel
theorem d_L_law_460 : decode b_L_law 460 = .ok (.ireturn, 1) := by decide +kernel
theorem d_L_law_461 : decode b_L_law 461 = .ok (.aload_n 1, 1) := by decide +kernel
theorem d_L_law_462 : decode b_L_law 462 = .ok (.aload_n 0, 1) := by decide +kernel
theorem d_L_law_463 : decode b_L_law 463 = .ok (.iload_n 3, 1) := by decide +kernel
theorem d_L_law_464 : decode b_L_law 464 = .ok (.iconst 1, 1) := by decide +kernel
theorem d_L_law_465 : decode b_L_law 465 = .ok (.iadd, 1) := by decide +kernel
theorem d_L_law_466 : decode b_L_law 466 = .ok (.iaload, 1) := by decide +kernel
theorem d_L_law_467 : decode b_L_law 467 = .ok (.invokevirtual 64, 3) := by decide +kernel
theorem d_L_law_470 : decode b_L_law 470 = .ok (.aload_n 2, 1) := by decide +kernel
theorem d_L_law_471 : decode b_L_law 471 = .ok (.aload_n 0, 1) := by decide +kernel
theorem d_L_law_472 : decode b_L_law 472 = .ok (.iload_n 3, 1) := by decide +kernel
theorem d_L_law_473 : decode b_L_law 473 = .ok (.iconst 1, 1) := by decide +kernel
theorem d_L_law_474 : decode b_L_law 474 = .ok (.iadd, 1) := by decide +kernel
theorem d_L_law_475 : decode b_L_law 475 = .ok (.iaload, 1) := by decide +kernel
theorem d_L_law_476 : decode b_L_law 476 = .ok (.invokevirtual 68, 3) := by decide +kernel
theorem d_L_law_479 : decode b_L_law 479 = .ok (.if_icmp .eq 271, 3) := by decide +kernel
theorem d_L_law_482 : decode b_L_law 482 = .ok (.iconst 0, 1) := by decide +kernel
theorem d_L_law_483 : decode b_L_law 483 = .ok (.ireturn, 1) := by decide +kernel
theorem d_L_law_484 : decode b_L_law 484 = .ok (.aload_n 1, 1) := by decide +kernel
theorem d_L_law_485 : decode b_L_law 485 = .ok (.aload_n 0, 1) := by decide +kernel
theorem d_L_law_486 : decode b_L_law 486 = .ok (.iload_n 3, 1) := by decide +kernel
theorem d_L_law_487 : decode b_L_law 487 = .ok (.iconst 1, 1) := by decide +kernel
theorem d_L_law_488 : decode b_L_law 488 = .ok (.iadd, 1) := by decide +kernel
theorem d_L_law_489 : decode b_L_law 489 = .ok (.iaload, 1) := by decide +kernel
theorem d_L_law_490 : decode b_L_law 490 = .ok (.aload_n 0, 1) := by decide +kernel
theorem d_L_law_491 : decode b_L_law 491 = .ok (.iload_n 3, 1) := by decide +kernel
theorem d_L_law_492 : decode b_L_law 492 = .ok (.iconst 2, 1) := by decide +kernel
theorem d_L_law_493 : decode b_L_law 493 = .ok (.iadd, 1) := by decide +kernel
theorem d_L_law_494 : decode b_L_law 494 = .ok (.iaload, 1) := by decide +kernel
theorem d_L_law_495 : decode b_L_law 495 = .ok (.aload_n 0, 1) := by decide +kernel
theorem d_L_law_496 : decode b_L_law 496 = .ok (.iload_n 3, 1) := by decide +kernel
theorem d_L_law_497 : decode b_L_law 497 = .ok (.iconst 3, 1) := by decide +kernel
theorem d_L_law_498 : decode b_L_law 498 = .ok (.iadd, 1) := by decide +kernel
theorem d_L_law_499 : decode b_L_law 499 = .ok (.iaload, 1) := by decide +kernel
theorem d_L_law_500 : decode b_L_law 500 = .ok (.invokevirtual 69, 3) := by decide +kernel
theorem d_L_law_503 : decode b_L_law 503 = .ok (.aload_n 2, 1) := by decide +kernel
theorem d_L_law_504 : decode b_L_law 504 = .ok (.aload_n 0, 1) := by decide +kernel
theorem d_L_law_505 : decode b_L_law 505 = .ok (.iload_n 3, 1) := by decide +kernel
theorem d_L_law_506 : decode b_L_law 506 = .ok (.iconst 1, 1) := by decide +kernel
theorem d_L_law_507 : decode b_L_law 507 = .ok (.iadd, 1) := by decide +kernel
theorem d_L_law_508 : decode b_L_law 508 = .ok (.iaload, 1) := by decide +kernel
theorem d_L_law_509 : decode b_L_law 509 = .ok (.aload_n 0, 1) := by decide +kernel
theorem d_L_law_510 : decode b_L_law 510 = .ok (.iload_n 3, 1) := by decide +kernel
theorem d_L_law_511 : decode b_L_law 511 = .ok (.iconst 2, 1) := by decide +kernel
theorem d_L_law_512 : decode b_L_law 512 = .ok (.iadd, 1) := by decide +kernel
theorem d_L_law_513 : decode b_L_law 513 = .ok (.iaload, 1) := by decide +kernel
theorem d_L_law_514 : decode b_L_law 514 = .ok (.aload_n 0, 1) := by decide +kernel
theorem d_L_law_515 : decode b_L_law 515 = .ok (.iload_n 3, 1) := by decide +kernel
theorem d_L_law_516 : decode b_L_law 516 = .ok (.iconst 3, 1) := by decide +kernel
theorem d_L_law_517 : decode b_L_law 517 = .ok (.iadd, 1) := by decide +kernel
theorem d_L_law_518 : decode b_L_law 518 = .ok (.iaload, 1) := by decide +kernel
theorem d_L_law_519 : decode b_L_law 519 = .ok (.invokevirtual 73, 3) := by decide +kernel
theorem d_L_law_522 : decode b_L_law 522 = .ok (.if_icmp .eq 228, 3) := by decide +kernel
theorem d_L_law_525 : decode b_L_law 525 = .ok (.iconst 0, 1) := by decide +kernel
theorem d_L_law_526 : decode b_L_law 526 = .ok (.ireturn, 1) := by decide +kernel
theorem d_L_law_527 : decode b_L_law 527 = .ok (.aload_n 1, 1) := by decide +kernel
theorem d_L_law_528 : decode b_L_law 528 = .ok (.aload_n 0, 1) := by decide +kernel
theorem d_L_law_529 : decode b_L_law 529 = .ok (.iload_n 3, 1) := by decide +kernel
theorem d_L_law_530 : decode b_L_law 530 = .ok (.iconst 1, 1) := by decide +kernel
theorem d_L_law_531 : decode b_L_law 531 = .ok (.iadd, 1) := by decide +kernel
theorem d_L_law_532 : decode b_L_law 532 = .ok (.iaload, 1) := by decide +kernel
theorem d_L_law_533 : decode b_L_law 533 = .ok (.invokevirtual 74, 3) := by decide +kernel
theorem d_L_law_536 : decode b_L_law 536 = .ok (.aload_n 2, 1) := by decide +kernel
theorem d_L_law_537 : decode b_L_law 537 = .ok (.aload_n 0, 1) := by decide +kernel
theorem d_L_law_538 : decode b_L_law 538 = .ok (.iload_n 3, 1) := by decide +kernel
theorem d_L_law_539 : decode b_L_law 539 = .ok (.iconst 1, 1) := by decide +kernel
theorem d_L_law_540 : decode b_L_law 540 = .ok (.iadd, 1) := by decide +kernel
theorem d_L_law_541 : decode b_L_law 541 = .ok (.iaload, 1) := by decide +kernel
theorem d_L_law_542 : decode b_L_law 542 = .ok (.invokevirtual 77, 3) := by decide +kernel
theorem d_L_law_545 : decode b_L_law 545 = .ok (.if_icmp .eq 205, 3) := by decide +kernel
theorem d_L_law_548 : decode b_L_law 548 = .ok (.iconst 0, 1) := by decide +kernel
theorem d_L_law_549 : decode b_L_law 549 = .ok (.ireturn, 1) := by decide +kernel
theorem d_L_law_550 : decode b_L_law 550 = .ok (.aload_n 1, 1) := by decide +kernel
theorem d_L_law_551 : decode b_L_law 551 = .ok (.aload_n 0, 1) := by decide +kernel
theorem d_L_law_552 : decode b_L_law 552 = .ok (.iload_n 3, 1) := by decide +kernel
theorem d_L_law_553 : decode b_L_law 553 = .ok (.iconst 1, 1) := by decide +kernel
theorem d_L_law_554 : decode b_L_law 554 = .ok (.iadd, 1) := by decide +kernel
theorem d_L_law_555 : decode b_L_law 555 = .ok (.iaload, 1) := by decide +kernel
theorem d_L_law_556 : decode b_L_law 556 = .ok (.invokevirtual 78, 3) := by decide +kernel
theorem d_L_law_559 : decode b_L_law 559 = .ok (.aload_n 2, 1) := by decide +kernel
theorem d_L_law_560 : decode b_L_law 560 = .ok (.aload_n 0, 1) := by decide +kernel
theorem d_L_law_561 : decode b_L_law 561 = .ok (.iload_n 3, 1) := by decide +kernel
theorem d_L_law_562 : decode b_L_law 562 = .ok (.iconst 1, 1) := by decide +kernel
theorem d_L_law_563 : decode b_L_law 563 = .ok (.iadd, 1) := by decide +kernel
theorem d_L_law_564 : decode b_L_law 564 = .ok (.iaload, 1) := by decide +kernel
theorem d_L_law_565 : decode b_L_law 565 = .ok (.invokevirtual 82, 3) := by decide +kernel
theorem d_L_law_568 : decode b_L_law 568 = .ok (.lcmp, 1) := by decide +kernel
theorem d_L_law_569 : decode b_L_law 569 = .ok (.ifCond .eq 181, 3) := by decide +kernel
theorem d_L_law_572 : decode b_L_law 572 = .ok (.iconst 0, 1) := by decide +kernel
theorem d_L_law_573 : decode b_L_law 573 = .ok (.ireturn, 1) := by decide +kernel
theorem d_L_law_574 : decode b_L_law 574 = .ok (.aload_n 1, 1) := by decide +kernel
theorem d_L_law_575 : decode b_L_law 575 = .ok (.aload_n 0, 1) := by decide +kernel
theorem d_L_law_576 : decode b_L_law 576 = .ok (.iload_n 3, 1) := by decide +kernel
theorem d_L_law_577 : decode b_L_law 577 = .ok (.iconst 1, 1) := by decide +kernel
theorem d_L_law_578 : decode b_L_law 578 = .ok (.iadd, 1) := by decide +kernel
theorem d_L_law_579 : decode b_L_law 579 = .ok (.iaload, 1) := by decide +kernel
theorem d_L_law_580 : decode b_L_law 580 = .ok (.aload_n 0, 1) := by decide +kernel
theorem d_L_law_581 : decode b_L_law 581 = .ok (.iload_n 3, 1) := by decide +kernel
theorem d_L_law_582 : decode b_L_law 582 = .ok (.iconst 2, 1) := by decide +kernel
theorem d_L_law_583 : decode b_L_law 583 = .ok (.iadd, 1) := by decide +kernel
theorem d_L_law_584 : decode b_L_law 584 = .ok (.iaload, 1) := by decide +kernel
theorem d_L_law_585 : decode b_L_law 585 = .ok (.invokevirtual 83, 3) := by decide +kernel
theorem d_L_law_588 : decode b_L_law 588 = .ok (.aload_n 2, 1) := by decide +kernel
theorem d_L_law_589 : decode b_L_law 589 = .ok (.aload_n 0, 1) := by decide +kernel
theorem d_L_law_590 : decode b_L_law 590 = .ok (.iload_n 3, 1) := by decide +kernel
theorem d_L_law_591 : decode b_L_law 591 = .ok (.iconst 1, 1) := by decide +kernel
theorem d_L_law_592 : decode b_L_law 592 = .ok (.iadd, 1) := by decide +kernel
theorem d_L_law_593 : decode b_L_law 593 = .ok (.iaload, 1) := by decide +kernel
theorem d_L_law_594 : decode b_L_law 594 = .ok (.aload_n 0, 1) := by decide +kernel
theorem d_L_law_595 : decode b_L_law 595 = .ok (.iload_n 3, 1) := by decide +kernel
theorem d_L_law_596 : decode b_L_law 596 = .ok (.iconst 2, 1) := by decide +kernel
theorem d_L_law_597 : decode b_L_law 597 = .ok (.iadd, 1) := by decide +kernel
theorem d_L_law_598 : decode b_L_law 598 = .ok (.iaload, 1) := by decide +kernel
theorem d_L_law_599 : decode b_L_law 599 = .ok (.invokevirtual 87, 3) := by decide +kernel
theorem d_L_law_602 : decode b_L_law 602 = .ok (.if_icmp .eq 148, 3) := by decide +kernel
theorem d_L_law_605 : decode b_L_law 605 = .ok (.iconst 0, 1) := by decide +kernel
theorem d_L_law_606 : decode b_L_law 606 = .ok (.ireturn, 1) := by decide +kernel
theorem d_L_law_607 : decode b_L_law 607 = .ok (.aload_n 1, 1) := by decide +kernel
theorem d_L_law_608 : decode b_L_law 608 = .ok (.aload_n 0, 1) := by decide +kernel
theorem d_L_law_609 : decode b_L_law 609 = .ok (.iload_n 3, 1) := by decide +kernel
theorem d_L_law_610 : decode b_L_law 610 = .ok (.iconst 1, 1) := by decide +kernel
theorem d_L_law_611 : decode b_L_law 611 = .ok (.iadd, 1) := by decide +kernel
theorem d_L_law_612 : decode b_L_law 612 = .ok (.iaload, 1) := by decide +kernel
theorem d_L_law_613 : decode b_L_law 613 = .ok (.invokevirtual 88, 3) := by decide +kernel
theorem d_L_law_616 : decode b_L_law 616 = .ok (.aload_n 2, 1) := by decide +kernel
theorem d_L_law_617 : decode b_L_law 617 = .ok (.aload_n 0, 1) := by decide +kernel
theorem d_L_law_618 : decode b_L_law 618 = .ok (.iload_n 3, 1) := by decide +kernel
theorem d_L_law_619 : decode b_L_law 619 = .ok (.iconst 1, 1) := by decide +kernel
theorem d_L_law_620 : decode b_L_law 620 = .ok (.iadd, 1) := by decide +kernel
theorem d_L_law_621 : decode b_L_law 621 = .ok (.iaload, 1) := by decide +kernel
theorem d_L_law_622 : decode b_L_law 622 = .ok (.invokevirtual 91, 3) := by decide +kernel
theorem d_L_law_625 : decode b_L_law 625 = .ok (.if_icmp .eq 125, 3) := by decide +kernel
theorem d_L_law_628 : decode b_L_law 628 = .ok (.iconst 0, 1) := by decide +kernel
theorem d_L_law_629 : decode b_L_law 629 = .ok (.ireturn, 1) := by decide +kernel
theorem d_L_law_630 : decode b_L_law 630 = .ok (.aload_n 1, 1) := by decide +kernel
theorem d_L_law_631 : decode b_L_law 631 = .ok (.aload_n 0, 1) := by decide +kernel
theorem d_L_law_632 : decode b_L_law 632 = .ok (.iload_n 3, 1) := by decide +kernel
theorem d_L_law_633 : decode b_L_law 633 = .ok (.iconst 1, 1) := by decide +kernel
theorem d_L_law_634 : decode b_L_law 634 = .ok (.iadd, 1) := by decide +kernel
theorem d_L_law_635 : decode b_L_law 635 = .ok (.iaload, 1) := by decide +kernel
theorem d_L_law_636 : decode b_L_law 636 = .ok (.aload_n 0, 1) := by decide +kernel
theorem d_L_law_637 : decode b_L_law 637 = .ok (.iload_n 3, 1) := by decide +kernel
theorem d_L_law_638 : decode b_L_law 638 = .ok (.iconst 2, 1) := by decide +kernel
theorem d_L_law_639 : decode b_L_law 639 = .ok (.iadd, 1) := by decide +kernel
theorem d_L_law_640 : decode b_L_law 640 = .ok (.iaload, 1) := by decide +kernel
theorem d_L_law_641 : decode b_L_law 641 = .ok (.i2l, 1) := by decide +kernel
theorem d_L_law_642 : decode b_L_law 642 = .ok (.bipush 32, 2) := by decide +kernel
theorem d_L_law_644 : decode b_L_law 644 = .ok (.lshl, 1) := by decide +kernel
theorem d_L_law_645 : decode b_L_law 645 = .ok (.aload_n 0, 1) := by decide +kernel
theorem d_L_law_646 : decode b_L_law 646 = .ok (.iload_n 3, 1) := by decide +kernel
theorem d_L_law_647 : decode b_L_law 647 = .ok (.iconst 3, 1) := by decide +kernel
theorem d_L_law_648 : decode b_L_law 648 = .ok (.iadd, 1) := by decide +kernel
theorem d_L_law_649 : decode b_L_law 649 = .ok (.iaload, 1) := by decide +kernel
theorem d_L_law_650 : decode b_L_law 650 = .ok (.i2l, 1) := by decide +kernel
theorem d_L_law_651 : decode b_L_law 651 = .ok (.ldc2_w 21, 3) := by decide +kernel
theorem d_L_law_654 : decode b_L_law 654 = .ok (.land, 1) := by decide +kernel
theorem d_L_law_655 : decode b_L_law 655 = .ok (.lor, 1) := by decide +kernel
theorem d_L_law_656 : decode b_L_law 656 = .ok (.invokevirtual 92, 3) := by decide +kernel
theorem d_L_law_659 : decode b_L_law 659 = .ok (.aload_n 2, 1) := by decide +kernel
theorem d_L_law_660 : decode b_L_law 660 = .ok (.aload_n 0, 1) := by decide +kernel
theorem d_L_law_661 : decode b_L_law 661 = .ok (.iload_n 3, 1) := by decide +kernel
theorem d_L_law_662 : decode b_L_law 662 = .ok (.iconst 1, 1) := by decide +kernel
theorem d_L_law_663 : decode b_L_law 663 = .ok (.iadd, 1) := by decide +kernel
theorem d_L_law_664 : decode b_L_law 664 = .ok (.iaload, 1) := by decide +kernel
theorem d_L_law_665 : decode b_L_law 665 = .ok (.aload_n 0, 1) := by decide +kernel
theorem d_L_law_666 : decode b_L_law 666 = .ok (.iload_n 3, 1) := by decide +kernel
theorem d_L_law_667 : decode b_L_law 667 = .ok (.iconst 2, 1) := by decide +kernel
theorem d_L_law_668 : decode b_L_law 668 = .ok (.iadd, 1) := by decide +kernel
theorem d_L_law_669 : decode b_L_law 669 = .ok (.iaload, 1) := by decide +kernel
theorem d_L_law_670 : decode b_L_law 670 = .ok (.i2l, 1) := by decide +kernel
theorem d_L_law_671 : decode b_L_law 671 = .ok (.bipush 32, 2) := by decide +kernel
theorem d_L_law_673 : decode b_L_law 673 = .ok (.lshl, 1) := by decide +kernel
theorem d_L_law_674 : decode b_L_law 674 = .ok (.aload_n 0, 1) := by decide +kernel
theorem d_L_law_675 : decode b_L_law 675 = .ok (.iload_n 3, 1) := by decide +kernel
theorem d_L_law_676 : decode b_L_law 676 = .ok (.iconst 3, 1) := by decide +kernel
theorem d_L_law_677 : decode b_L_law 677 = .ok (.iadd, 1) := by decide +kernel
theorem d_L_law_678 : decode b_L_law 678 = .ok (.iaload, 1) := by decide +kernel
theorem d_L_law_679 : decode b_L_law 679 = .ok (.i2l, 1) := by decide +kernel
theorem d_L_law_680 : decode b_L_law 680 = .ok (.ldc2_w 21, 3) := by decide +kernel
theorem d_L_law_683 : decode b_L_law 683 = .ok (.land, 1) := by decide +kernel
theorem d_L_law_684 : decode b_L_law 684 = .ok (.lor, 1) := by decide +kernel
theorem d_L_law_685 : decode b_L_law 685 = .ok (.invokevirtual 96, 3) := by decide +kernel
theorem d_L_law_688 : decode b_L_law 688 = .ok (.if_icmp .eq 62, 3) := by decide +kernel
theorem d_L_law_691 : decode b_L_law 691 = .ok (.iconst 0, 1) := by decide +kernel
theorem d_L_law_692 : decode b_L_law 692 = .ok (.ireturn, 1) := by decide +kernel
theorem d_L_law_693 : decode b_L_law 693 = .ok (.aload_n 1, 1) := by decide +kernel
theorem d_L_law_694 : decode b_L_law 694 = .ok (.aload_n 0, 1) := by decide +kernel
theorem d_L_law_695 : decode b_L_law 695 = .ok (.iload_n 3, 1) := by decide +kernel
theorem d_L_law_696 : decode b_L_law 696 = .ok (.iconst 1, 1) := by decide +kernel
theorem d_L_law_697 : decode b_L_law 697 = .ok (.iadd, 1) := by decide +kernel
theorem d_L_law_698 : decode b_L_law 698 = .ok (.iaload, 1) := by decide +kernel
theorem d_L_law_699 : decode b_L_law 699 = .ok (.invokevirtual 97, 3) := by decide +kernel
theorem d_L_law_702 : decode b_L_law 702 = .ok (.aload_n 2, 1) := by decide +kernel
theorem d_L_law_703 : decode b_L_law 703 = .ok (.aload_n 0, 1) := by decide +kernel
theorem d_L_law_704 : decode b_L_law 704 = .ok (.iload_n 3, 1) := by decide +kernel
theorem d_L_law_705 : decode b_L_law 705 = .ok (.iconst 1, 1) := by decide +kernel
theorem d_L_law_706 : decode b_L_law 706 = .ok (.iadd, 1) := by decide +kernel
theorem d_L_law_707 : decode b_L_law 707 = .ok (.iaload, 1) := by decide +kernel
theorem d_L_law_708 : decode b_L_law 708 = .ok (.invokevirtual 100, 3) := by decide +kernel
theorem d_L_law_711 : decode b_L_law 711 = .ok (.if_icmp .eq 39, 3) := by decide +kernel
theorem d_L_law_714 : decode b_L_law 714 = .ok (.iconst 0, 1) := by decide +kernel
theorem d_L_law_715 : decode b_L_law 715 = .ok (.ireturn, 1) := by decide +kernel
theorem d_L_law_716 : decode b_L_law 716 = .ok (.aload_n 1, 1) := by decide +kernel
theorem d_L_law_717 : decode b_L_law 717 = .ok (.aload_n 0, 1) := by decide +kernel
theorem d_L_law_718 : decode b_L_law 718 = .ok (.iload_n 3, 1) := by decide +kernel
theorem d_L_law_719 : decode b_L_law 719 = .ok (.iconst 1, 1) := by decide +kernel
theorem d_L_law_720 : decode b_L_law 720 = .ok (.iadd, 1) := by decide +kernel
theorem d_L_law_721 : decode b_L_law 721 = .ok (.iaload, 1) := by decide +kernel
theorem d_L_law_722 : decode b_L_law 722 = .ok (.aload_n 0, 1) := by decide +kernel
theorem d_L_law_723 : decode b_L_law 723 = .ok (.iload_n 3, 1) := by decide +kernel
theorem d_L_law_724 : decode b_L_law 724 = .ok (.iconst 2, 1) := by decide +kernel
theorem d_L_law_725 : decode b_L_law 725 = .ok (.iadd, 1) := by decide +kernel
theorem d_L_law_726 : decode b_L_law 726 = .ok (.iaload, 1) := by decide +kernel
theorem d_L_law_727 : decode b_L_law 727 = .ok (.invokevirtual 101, 3) := by decide +kernel
theorem d_L_law_730 : decode b_L_law 730 = .ok (.aload_n 2, 1) := by decide +kernel
theorem d_L_law_731 : decode b_L_law 731 = .ok (.aload_n 0, 1) := by decide +kernel
theorem d_L_law_732 : decode b_L_law 732 = .ok (.iload_n 3, 1) := by decide +kernel
theorem d_L_law_733 : decode b_L_law 733 = .ok (.iconst 1, 1) := by decide +kernel
theorem d_L_law_734 : decode b_L_law 734 = .ok (.iadd, 1) := by decide +kernel
theorem d_L_law_735 : decode b_L_law 735 = .ok (.iaload, 1) := by decide +kernel
theorem d_L_law_736 : decode b_L_law 736 = .ok (.aload_n 0, 1) := by decide +kernel
theorem d_L_law_737 : decode b_L_law 737 = .ok (.iload_n 3, 1) := by decide +kernel
theorem d_L_law_738 : decode b_L_law 738 = .ok (.iconst 2, 1) := by decide +kernel
theorem d_L_law_739 : decode b_L_law 739 = .ok (.iadd, 1) := by decide +kernel
theorem d_L_law_740 : decode b_L_law 740 = .ok (.iaload, 1) := by decide +kernel
theorem d_L_law_741 : decode b_L_law 741 = .ok (.invokevirtual 105, 3) := by decide +kernel
theorem d_L_law_744 : decode b_L_law 744 = .ok (.lcmp, 1) := by decide +kernel
theorem d_L_law_745 : decode b_L_law 745 = .ok (.ifCond .eq 5, 3) := by decide +kernel
theorem d_L_law_748 : decode b_L_law 748 = .ok (.iconst 0, 1) := by decide +kernel
theorem d_L_law_749 : decode b_L_law 749 = .ok (.ireturn, 1) := by decide +kernel
theorem d_L_law_750 : decode b_L_law 750 = .ok (.iinc 3 5, 3) := by decide +kernel
theorem d_L_law_753 : decode b_L_law 753 = .ok (.goto (-725), 3) := by decide +kernel
theorem d_L_law_756 : decode b_L_law 756 = .ok (.iconst 1, 1) := by decide +kernel
theorem d_L_law_757 : decode b_L_law 757 = .ok (.ireturn, 1) := by decide +kernel
