theorem dL_arePanes_220 : decode cL_arePanes 220 = .ok (.iload 5, 2) := by decide +kernel
theorem dL_arePanes_222 : decode cL_arePanes 222 = .ok (.iconst 4, 1) := by decide +kernel
theorem dL_arePanes_223 : decode cL_arePanes 223 = .ok (.invokevirtual 32, 3) := by decide +kernel
theorem dL_arePanes_226 : decode cL_arePanes 226 = .ok (.aload_n 0, 1) := by decide +kernel
theorem dL_arePanes_227 : decode cL_arePanes 227 = .ok (.iconst 5, 1) := by decide +kernel
theorem dL_arePanes_228 : decode cL_arePanes 228 = .ok (.invokevirtual 13, 3) := by decide +kernel
theorem dL_arePanes_231 : decode cL_arePanes 231 = .ok (.if_icmp .le 38, 3) := by decide +kernel
theorem dL_arePanes_234 : decode cL_arePanes 234 = .ok (.aload_n 0, 1) := by decide +kernel
theorem dL_arePanes_235 : decode cL_arePanes 235 = .ok (.iload 5, 2) := by decide +kernel
theorem dL_arePanes_237 : decode cL_arePanes 237 = .ok (.iconst 4, 1) := by decide +kernel
theorem dL_arePanes_238 : decode cL_arePanes 238 = .ok (.invokevirtual 32, 3) := by decide +kernel
theorem dL_arePanes_241 : decode cL_arePanes 241 = .ok (.ldc 62, 2) := by decide +kernel
theorem dL_arePanes_243 : decode cL_arePanes 243 = .ok (.if_icmp .ne 7, 3) := by decide +kernel
theorem dL_arePanes_246 : decode cL_arePanes 246 = .ok (.iconst 1, 1) := by decide +kernel
theorem dL_arePanes_247 : decode cL_arePanes 247 = .ok (.goto 4, 3) := by decide +kernel
theorem dL_arePanes_250 : decode cL_arePanes 250 = .ok (.iconst 0, 1) := by decide +kernel
theorem dL_arePanes_251 : decode cL_arePanes 251 = .ok (.iload 6, 2) := by decide +kernel
theorem dL_arePanes_253 : decode cL_arePanes 253 = .ok (.iconst 2, 1) := by decide +kernel
theorem dL_arePanes_254 : decode cL_arePanes 254 = .ok (.if_icmp .eq 7, 3) := by decide +kernel
theorem dL_arePanes_257 : decode cL_arePanes 257 = .ok (.iconst 1, 1) := by decide +kernel
theorem dL_arePanes_258 : decode cL_arePanes 258 = .ok (.goto 4, 3) := by decide +kernel
theorem dL_arePanes_261 : decode cL_arePanes 261 = .ok (.iconst 0, 1) := by decide +kernel
theorem dL_arePanes_262 : decode cL_arePanes 262 = .ok (.if_icmp .ne 7, 3) := by decide +kernel
theorem dL_arePanes_265 : decode cL_arePanes 265 = .ok (.iconst 1, 1) := by decide +kernel
theorem dL_arePanes_266 : decode cL_arePanes 266 = .ok (.goto 4, 3) := by decide +kernel
theorem dL_arePanes_269 : decode cL_arePanes 269 = .ok (.iconst 0, 1) := by decide +kernel
theorem dL_arePanes_270 : decode cL_arePanes 270 = .ok (.istore 4, 2) := by decide +kernel
theorem dL_arePanes_272 : decode cL_arePanes 272 = .ok (.aload_n 0, 1) := by decide +kernel
theorem dL_arePanes_273 : decode cL_arePanes 273 = .ok (.iload 5, 2) := by decide +kernel
theorem dL_arePanes_275 : decode cL_arePanes 275 = .ok (.invokevirtual 29, 3) := by decide +kernel
theorem dL_arePanes_278 : decode cL_arePanes 278 = .ok (.istore 5, 2) := by decide +kernel
theorem dL_arePanes_280 : decode cL_arePanes 280 = .ok (.goto (-264), 3) := by decide +kernel
theorem dL_arePanes_283 : decode cL_arePanes 283 = .ok (.iload 4, 2) := by decide +kernel
theorem dL_arePanes_285 : decode cL_arePanes 285 = .ok (.ifCond .eq 43, 3) := by decide +kernel
theorem dL_arePanes_288 : decode cL_arePanes 288 = .ok (.iload_n 1, 1) := by decide +kernel
theorem dL_arePanes_289 : decode cL_arePanes 289 = .ok (.aload_n 0, 1) := by decide +kernel
theorem dL_arePanes_290 : decode cL_arePanes 290 = .ok (.iconst 1, 1) := by decide +kernel
theorem dL_arePanes_291 : decode cL_arePanes 291 = .ok (.invokevirtual 13, 3) := by decide +kernel
theorem dL_arePanes_294 : decode cL_arePanes 294 = .ok (.if_icmp .ne 34, 3) := by decide +kernel
theorem dL_arePanes_297 : decode cL_arePanes 297 = .ok (.iload_n 2, 1) := by decide +kernel
theorem dL_arePanes_298 : decode cL_arePanes 298 = .ok (.aload_n 0, 1) := by decide +kernel
theorem dL_arePanes_299 : decode cL_arePanes 299 = .ok (.bipush 8, 2) := by decide +kernel
theorem dL_arePanes_301 : decode cL_arePanes 301 = .ok (.invokevirtual 13, 3) := by decide +kernel
theorem dL_arePanes_304 : decode cL_arePanes 304 = .ok (.aload_n 0, 1) := by decide +kernel
theorem dL_arePanes_305 : decode cL_arePanes 305 = .ok (.bipush 9, 2) := by decide +kernel
theorem dL_arePanes_307 : decode cL_arePanes 307 = .ok (.invokevirtual 13, 3) := by decide +kernel
theorem dL_arePanes_310 : decode cL_arePanes 310 = .ok (.isub, 1) := by decide +kernel
theorem dL_arePanes_311 : decode cL_arePanes 311 = .ok (.if_icmp .ne 17, 3) := by decide +kernel
theorem dL_arePanes_314 : decode cL_arePanes 314 = .ok (.iload_n 3, 1) := by decide +kernel
theorem dL_arePanes_315 : decode cL_arePanes 315 = .ok (.aload_n 0, 1) := by decide +kernel
theorem dL_arePanes_316 : decode cL_arePanes 316 = .ok (.bipush 10, 2) := by decide +kernel
theorem dL_arePanes_318 : decode cL_arePanes 318 = .ok (.invokevirtual 13, 3) := by decide +kernel
theorem dL_arePanes_321 : decode cL_arePanes 321 = .ok (.if_icmp .ne 7, 3) := by decide +kernel
theorem dL_arePanes_324 : decode cL_arePanes 324 = .ok (.iconst 1, 1) := by decide +kernel
theorem dL_arePanes_325 : decode cL_arePanes 325 = .ok (.goto 4, 3) := by decide +kernel
theorem dL_arePanes_328 : decode cL_arePanes 328 = .ok (.iconst 0, 1) := by decide +kernel
theorem dL_arePanes_329 : decode cL_arePanes 329 = .ok (.ireturn, 1) := by decide +kernel
