theorem dL_view_210 : decode cL_view 210 = .ok (.iload_n 3, 1) := by decide +kernel
theorem dL_view_211 : decode cL_view 211 = .ok (.iload 4, 2) := by decide +kernel
theorem dL_view_213 : decode cL_view 213 = .ok (.invokevirtual 32, 3) := by decide +kernel
theorem dL_view_216 : decode cL_view 216 = .ok (.i2l, 1) := by decide +kernel
theorem dL_view_217 : decode cL_view 217 = .ok (.ladd, 1) := by decide +kernel
theorem dL_view_218 : decode cL_view 218 = .ok (.lstore_n 1, 1) := by decide +kernel
theorem dL_view_219 : decode cL_view 219 = .ok (.iinc 4 1, 3) := by decide +kernel
theorem dL_view_222 : decode cL_view 222 = .ok (.goto (-25), 3) := by decide +kernel
theorem dL_view_225 : decode cL_view 225 = .ok (.ldc2_w 11, 3) := by decide +kernel
theorem dL_view_228 : decode cL_view 228 = .ok (.ldc2_w 11, 3) := by decide +kernel
theorem dL_view_231 : decode cL_view 231 = .ok (.lload_n 1, 1) := by decide +kernel
theorem dL_view_232 : decode cL_view 232 = .ok (.lmul, 1) := by decide +kernel
theorem dL_view_233 : decode cL_view 233 = .ok (.aload_n 0, 1) := by decide +kernel
theorem dL_view_234 : decode cL_view 234 = .ok (.iload_n 3, 1) := by decide +kernel
theorem dL_view_235 : decode cL_view 235 = .ok (.invokevirtual 35, 3) := by decide +kernel
theorem dL_view_238 : decode cL_view 238 = .ok (.i2l, 1) := by decide +kernel
theorem dL_view_239 : decode cL_view 239 = .ok (.ladd, 1) := by decide +kernel
theorem dL_view_240 : decode cL_view 240 = .ok (.lmul, 1) := by decide +kernel
theorem dL_view_241 : decode cL_view 241 = .ok (.aload_n 0, 1) := by decide +kernel
theorem dL_view_242 : decode cL_view 242 = .ok (.iload_n 3, 1) := by decide +kernel
theorem dL_view_243 : decode cL_view 243 = .ok (.iconst 1, 1) := by decide +kernel
theorem dL_view_244 : decode cL_view 244 = .ok (.invokevirtual 38, 3) := by decide +kernel
theorem dL_view_247 : decode cL_view 247 = .ok (.i2l, 1) := by decide +kernel
theorem dL_view_248 : decode cL_view 248 = .ok (.ladd, 1) := by decide +kernel
theorem dL_view_249 : decode cL_view 249 = .ok (.lstore_n 1, 1) := by decide +kernel
theorem dL_view_250 : decode cL_view 250 = .ok (.aload_n 0, 1) := by decide +kernel
theorem dL_view_251 : decode cL_view 251 = .ok (.iload_n 3, 1) := by decide +kernel
theorem dL_view_252 : decode cL_view 252 = .ok (.invokevirtual 29, 3) := by decide +kernel
theorem dL_view_255 : decode cL_view 255 = .ok (.istore_n 3, 1) := by decide +kernel
theorem dL_view_256 : decode cL_view 256 = .ok (.goto (-66), 3) := by decide +kernel
theorem dL_view_259 : decode cL_view 259 = .ok (.lload_n 1, 1) := by decide +kernel
theorem dL_view_260 : decode cL_view 260 = .ok (.lreturn, 1) := by decide +kernel
