theorem dL_ticks_131 : decode cL_ticks 131 = .ok (.if_icmp .ne 23, 3) := by decide +kernel
theorem dL_ticks_134 : decode cL_ticks 134 = .ok (.iload 9, 2) := by decide +kernel
theorem dL_ticks_136 : decode cL_ticks 136 = .ok (.aload_n 0, 1) := by decide +kernel
theorem dL_ticks_137 : decode cL_ticks 137 = .ok (.iconst 0, 1) := by decide +kernel
theorem dL_ticks_138 : decode cL_ticks 138 = .ok (.invokevirtual 63, 3) := by decide +kernel
theorem dL_ticks_141 : decode cL_ticks 141 = .ok (.ifCond .ne 7, 3) := by decide +kernel
theorem dL_ticks_144 : decode cL_ticks 144 = .ok (.iconst 1, 1) := by decide +kernel
theorem dL_ticks_145 : decode cL_ticks 145 = .ok (.goto 4, 3) := by decide +kernel
theorem dL_ticks_148 : decode cL_ticks 148 = .ok (.iconst 0, 1) := by decide +kernel
theorem dL_ticks_149 : decode cL_ticks 149 = .ok (.if_icmp .eq 5, 3) := by decide +kernel
theorem dL_ticks_152 : decode cL_ticks 152 = .ok (.iconst 0, 1) := by decide +kernel
theorem dL_ticks_153 : decode cL_ticks 153 = .ok (.ireturn, 1) := by decide +kernel
theorem dL_ticks_154 : decode cL_ticks 154 = .ok (.iconst 1, 1) := by decide +kernel
theorem dL_ticks_155 : decode cL_ticks 155 = .ok (.istore 10, 2) := by decide +kernel
theorem dL_ticks_157 : decode cL_ticks 157 = .ok (.iconst 0, 1) := by decide +kernel
theorem dL_ticks_158 : decode cL_ticks 158 = .ok (.istore 11, 2) := by decide +kernel
theorem dL_ticks_160 : decode cL_ticks 160 = .ok (.iload 11, 2) := by decide +kernel
theorem dL_ticks_162 : decode cL_ticks 162 = .ok (.iconst 3, 1) := by decide +kernel
theorem dL_ticks_163 : decode cL_ticks 163 = .ok (.if_icmp .ge 61, 3) := by decide +kernel
theorem dL_ticks_166 : decode cL_ticks 166 = .ok (.iload 10, 2) := by decide +kernel
theorem dL_ticks_168 : decode cL_ticks 168 = .ok (.ifCond .eq 47, 3) := by decide +kernel
theorem dL_ticks_171 : decode cL_ticks 171 = .ok (.aload_n 0, 1) := by decide +kernel
theorem dL_ticks_172 : decode cL_ticks 172 = .ok (.iload 11, 2) := by decide +kernel
theorem dL_ticks_174 : decode cL_ticks 174 = .ok (.iconst 0, 1) := by decide +kernel
theorem dL_ticks_175 : decode cL_ticks 175 = .ok (.invokevirtual 56, 3) := by decide +kernel
theorem dL_ticks_178 : decode cL_ticks 178 = .ok (.aload_n 0, 1) := by decide +kernel
theorem dL_ticks_179 : decode cL_ticks 179 = .ok (.iload 11, 2) := by decide +kernel
theorem dL_ticks_181 : decode cL_ticks 181 = .ok (.bipush 6, 2) := by decide +kernel
theorem dL_ticks_183 : decode cL_ticks 183 = .ok (.invokevirtual 56, 3) := by decide +kernel
theorem dL_ticks_186 : decode cL_ticks 186 = .ok (.lsub, 1) := by decide +kernel
theorem dL_ticks_187 : decode cL_ticks 187 = .ok (.invokestatic 76, 3) := by decide +kernel
theorem dL_ticks_190 : decode cL_ticks 190 = .ok (.iload_n 3, 1) := by decide +kernel
theorem dL_ticks_191 : decode cL_ticks 191 = .ok (.i2l, 1) := by decide +kernel
theorem dL_ticks_192 : decode cL_ticks 192 = .ok (.lcmp, 1) := by decide +kernel
theorem dL_ticks_193 : decode cL_ticks 193 = .ok (.ifCond .gt 22, 3) := by decide +kernel
theorem dL_ticks_196 : decode cL_ticks 196 = .ok (.aload_n 0, 1) := by decide +kernel
theorem dL_ticks_197 : decode cL_ticks 197 = .ok (.iload 11, 2) := by decide +kernel
theorem dL_ticks_199 : decode cL_ticks 199 = .ok (.iconst 2, 1) := by decide +kernel
theorem dL_ticks_200 : decode cL_ticks 200 = .ok (.invokevirtual 56, 3) := by decide +kernel
theorem dL_ticks_203 : decode cL_ticks 203 = .ok (.invokestatic 76, 3) := by decide +kernel
theorem dL_ticks_206 : decode cL_ticks 206 = .ok (.lconst 1, 1) := by decide +kernel
theorem dL_ticks_207 : decode cL_ticks 207 = .ok (.lcmp, 1) := by decide +kernel
theorem dL_ticks_208 : decode cL_ticks 208 = .ok (.ifCond .gt 7, 3) := by decide +kernel
theorem dL_ticks_211 : decode cL_ticks 211 = .ok (.iconst 1, 1) := by decide +kernel
theorem dL_ticks_212 : decode cL_ticks 212 = .ok (.goto 4, 3) := by decide +kernel
theorem dL_ticks_215 : decode cL_ticks 215 = .ok (.iconst 0, 1) := by decide +kernel
theorem dL_ticks_216 : decode cL_ticks 216 = .ok (.istore 10, 2) := by decide +kernel
theorem dL_ticks_218 : decode cL_ticks 218 = .ok (.iinc 11 1, 3) := by decide +kernel
theorem dL_ticks_221 : decode cL_ticks 221 = .ok (.goto (-61), 3) := by decide +kernel
theorem dL_ticks_224 : decode cL_ticks 224 = .ok (.iload 7, 2) := by decide +kernel
theorem dL_ticks_226 : decode cL_ticks 226 = .ok (.iload_n 2, 1) := by decide +kernel
theorem dL_ticks_227 : decode cL_ticks 227 = .ok (.if_icmp .ne 8, 3) := by decide +kernel
theorem dL_ticks_230 : decode cL_ticks 230 = .ok (.iload 10, 2) := by decide +kernel
theorem dL_ticks_232 : decode cL_ticks 232 = .ok (.ifCond .eq 21, 3) := by decide +kernel
theorem dL_ticks_235 : decode cL_ticks 235 = .ok (.iload 10, 2) := by decide +kernel
theorem dL_ticks_237 : decode cL_ticks 237 = .ok (.ifCond .eq 18, 3) := by decide +kernel
theorem dL_ticks_240 : decode cL_ticks 240 = .ok (.iload 7, 2) := by decide +kernel
theorem dL_ticks_242 : decode cL_ticks 242 = .ok (.ldc 66, 2) := by decide +kernel
theorem dL_ticks_244 : decode cL_ticks 244 = .ok (.if_icmp .eq 9, 3) := by decide +kernel
theorem dL_ticks_247 : decode cL_ticks 247 = .ok (.iload 7, 2) := by decide +kernel
theorem dL_ticks_249 : decode cL_ticks 249 = .ok (.iload_n 2, 1) := by decide +kernel
theorem dL_ticks_250 : decode cL_ticks 250 = .ok (.if_icmp .le 5, 3) := by decide +kernel
theorem dL_ticks_253 : decode cL_ticks 253 = .ok (.iconst 0, 1) := by decide +kernel
theorem dL_ticks_254 : decode cL_ticks 254 = .ok (.ireturn, 1) := by decide +kernel
theorem dL_ticks_255 : decode cL_ticks 255 = .ok (.iconst 0, 1) := by decide +kernel
theorem dL_ticks_256 : decode cL_ticks 256 = .ok (.istore 11, 2) := by decide +kernel
theorem dL_ticks_258 : decode cL_ticks 258 = .ok (.iload 11, 2) := by decide +kernel
theorem dL_ticks_260 : decode cL_ticks 260 = .ok (.iload_n 1, 1) := by decide +kernel
theorem dL_ticks_261 : decode cL_ticks 261 = .ok (.if_icmp .ge 78, 3) := by decide +kernel
theorem dL_ticks_264 : decode cL_ticks 264 = .ok (.aload_n 0, 1) := by decide +kernel
theorem dL_ticks_265 : decode cL_ticks 265 = .ok (.iload 11, 2) := by decide +kernel
theorem dL_ticks_267 : decode cL_ticks 267 = .ok (.bipush 7, 2) := by decide +kernel
theorem dL_ticks_269 : decode cL_ticks 269 = .ok (.invokevirtual 31, 3) := by decide +kernel
theorem dL_ticks_272 : decode cL_ticks 272 = .ok (.i2l, 1) := by decide +kernel
theorem dL_ticks_273 : decode cL_ticks 273 = .ok (.invokestatic 76, 3) := by decide +kernel
theorem dL_ticks_276 : decode cL_ticks 276 = .ok (.aload_n 0, 1) := by decide +kernel
theorem dL_ticks_277 : decode cL_ticks 277 = .ok (.iload 11, 2) := by decide +kernel
theorem dL_ticks_279 : decode cL_ticks 279 = .ok (.iconst 5, 1) := by decide +kernel
theorem dL_ticks_280 : decode cL_ticks 280 = .ok (.invokevirtual 31, 3) := by decide +kernel
theorem dL_ticks_283 : decode cL_ticks 283 = .ok (.i2l, 1) := by decide +kernel
theorem dL_ticks_284 : decode cL_ticks 284 = .ok (.lcmp, 1) := by decide +kernel
theorem dL_ticks_285 : decode cL_ticks 285 = .ok (.ifCond .gt 46, 3) := by decide +kernel
theorem dL_ticks_288 : decode cL_ticks 288 = .ok (.aload_n 0, 1) := by decide +kernel
theorem dL_ticks_289 : decode cL_ticks 289 = .ok (.iload 11, 2) := by decide +kernel
theorem dL_ticks_291 : decode cL_ticks 291 = .ok (.bipush 6, 2) := by decide +kernel
theorem dL_ticks_293 : decode cL_ticks 293 = .ok (.invokevirtual 31, 3) := by decide +kernel
theorem dL_ticks_296 : decode cL_ticks 296 = .ok (.iconst 1, 1) := by decide +kernel
theorem dL_ticks_297 : decode cL_ticks 297 = .ok (.if_icmp .ne 14, 3) := by decide +kernel
theorem dL_ticks_300 : decode cL_ticks 300 = .ok (.aload_n 0, 1) := by decide +kernel
theorem dL_ticks_301 : decode cL_ticks 301 = .ok (.iload 11, 2) := by decide +kernel
theorem dL_ticks_303 : decode cL_ticks 303 = .ok (.bipush 7, 2) := by decide +kernel
theorem dL_ticks_305 : decode cL_ticks 305 = .ok (.invokevirtual 31, 3) := by decide +kernel
theorem dL_ticks_308 : decode cL_ticks 308 = .ok (.ifCond .ne 23, 3) := by decide +kernel
theorem dL_ticks_311 : decode cL_ticks 311 = .ok (.aload_n 0, 1) := by decide +kernel
theorem dL_ticks_312 : decode cL_ticks 312 = .ok (.iconst 0, 1) := by decide +kernel
theorem dL_ticks_313 : decode cL_ticks 313 = .ok (.invokevirtual 63, 3) := by decide +kernel
theorem dL_ticks_316 : decode cL_ticks 316 = .ok (.iconst 1, 1) := by decide +kernel
theorem dL_ticks_317 : decode cL_ticks 317 = .ok (.if_icmp .ne 16, 3) := by decide +kernel
theorem dL_ticks_320 : decode cL_ticks 320 = .ok (.aload_n 0, 1) := by decide +kernel
theorem dL_ticks_321 : decode cL_ticks 321 = .ok (.iload 11, 2) := by decide +kernel
theorem dL_ticks_323 : decode cL_ticks 323 = .ok (.bipush 7, 2) := by decide +kernel
theorem dL_ticks_325 : decode cL_ticks 325 = .ok (.invokevirtual 31, 3) := by decide +kernel
theorem dL_ticks_328 : decode cL_ticks 328 = .ok (.ifCond .eq 5, 3) := by decide +kernel
theorem dL_ticks_331 : decode cL_ticks 331 = .ok (.iconst 0, 1) := by decide +kernel
theorem dL_ticks_332 : decode cL_ticks 332 = .ok (.ireturn, 1) := by decide +kernel
theorem dL_ticks_333 : decode cL_ticks 333 = .ok (.iinc 11 1, 3) := by decide +kernel
theorem dL_ticks_336 : decode cL_ticks 336 = .ok (.goto (-78), 3) := by decide +kernel
theorem dL_ticks_339 : decode cL_ticks 339 = .ok (.aload_n 0, 1) := by decide +kernel
theorem dL_ticks_340 : decode cL_ticks 340 = .ok (.invokevirtual 9, 3) := by decide +kernel
theorem dL_ticks_343 : decode cL_ticks 343 = .ok (.lstore 11, 2) := by decide +kernel
theorem dL_ticks_345 : decode cL_ticks 345 = .ok (.aload_n 0, 1) := by decide +kernel
theorem dL_ticks_346 : decode cL_ticks 346 = .ok (.invokevirtual 91, 3) := by decide +kernel
theorem dL_ticks_349 : decode cL_ticks 349 = .ok (.ifCond .lt 37, 3) := by decide +kernel
theorem dL_ticks_352 : decode cL_ticks 352 = .ok (.aload_n 0, 1) := by decide +kernel
theorem dL_ticks_353 : decode cL_ticks 353 = .ok (.invokevirtual 9, 3) := by decide +kernel
theorem dL_ticks_356 : decode cL_ticks 356 = .ok (.lload 4, 2) := by decide +kernel
theorem dL_ticks_358 : decode cL_ticks 358 = .ok (.lcmp, 1) := by decide +kernel
theorem dL_ticks_359 : decode cL_ticks 359 = .ok (.ifCond .ne 27, 3) := by decide +kernel
theorem dL_ticks_362 : decode cL_ticks 362 = .ok (.aload_n 0, 1) := by decide +kernel
theorem dL_ticks_363 : decode cL_ticks 363 = .ok (.iload_n 2, 1) := by decide +kernel
theorem dL_ticks_364 : decode cL_ticks 364 = .ok (.invokevirtual 53, 3) := by decide +kernel
theorem dL_ticks_367 : decode cL_ticks 367 = .ok (.iload 9, 2) := by decide +kernel
theorem dL_ticks_369 : decode cL_ticks 369 = .ok (.if_icmp .ne 17, 3) := by decide +kernel
theorem dL_ticks_372 : decode cL_ticks 372 = .ok (.aload_n 0, 1) := by decide +kernel
theorem dL_ticks_373 : decode cL_ticks 373 = .ok (.invokevirtual 9, 3) := by decide +kernel
theorem dL_ticks_376 : decode cL_ticks 376 = .ok (.lload 11, 2) := by decide +kernel
theorem dL_ticks_378 : decode cL_ticks 378 = .ok (.lcmp, 1) := by decide +kernel
theorem dL_ticks_379 : decode cL_ticks 379 = .ok (.ifCond .ne 7, 3) := by decide +kernel
