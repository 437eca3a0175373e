section LAW
variable {p : Program} {l : Launch} {e : Env} {s : State} {m : MethodId} {below : List Frame} {meth : Method} {c : Code} {b L : Nat} {xs : Nat → Int32} {Q : State → Prop}
variable {H : Heap} {locs : List Loc} {cells slots : Nat} {ls : Array Slot} {D : va_G} {I C Q9 : ClassId} {y0 a0 i : Nat}
set_option maxHeartbeats 4000000 in
set_option maxRecDepth 100000 in
theorem law_k_set (F : lwF p s m c b L xs D I C Q9) (hL : L ≤ 3072) (hi : i + 6 ≤ L) (hI : uI D I C Q9 y0 a0 (lA s) H) (hS : va_S (lA s) s.heap H locs) (hl : lv_has ls 4 (lvs b y0 a0 i)) (hcs : cells + 13 ≤ 600000 ∧ slots + 1166 ≤ 7302249) (kk : ∀ (H1 : Heap) (locs1 : List Loc), uI D I C Q9 y0 a0 (lA s) H1 → va_S (lA s) s.heap H1 locs1 → W p l e room_1 s m #[Value.ref b] below meth c H1 locs1 (cells + 13) (slots + 1166) Q (F0 m 688 ls [])) : W p l e room_1 s m #[Value.ref b] below meth c H locs cells slots Q (F0 m 128 ls []) := by
  obtain ⟨mm, x, hR, hP, hD⟩ := hI
  refine lv_aload_n F.1 F.2.1 dL_law_128 rfl (lv_at hl 2 rfl) ?_
  refine law_ld F hL hi hS hl 1 (by omega) dL_law_129 dL_law_130 dL_law_131 rfl dL_law_132 dL_law_133 ?_
  refine law_ld F hL hi hS hl 2 (by omega) dL_law_134 dL_law_135 dL_law_136 rfl dL_law_137 dL_law_138 ?_
  refine law_c8 F hS hl.1 hP hD (uQ_set l D I C Q9 y0 a0 _ _ mm x hR) (cwV 2 F.2.2.2.2.1 gL_law_X8_set rfl rfl rfl (by decide +kernel) ⟨Nat.le_of_ble_eq_true rfl, Nat.le_of_ble_eq_true rfl⟩) rfl dL_law_139 rfl hcs (fun H locs r mm1 x1 h9 hR hP hD hS => ?_)
  refine lv_aload_n F.1 F.2.1 dL_law_142 rfl (lv_at hl 1 rfl) ?_
  refine law_ld F hL hi hS hl 1 (by omega) dL_law_143 dL_law_144 dL_law_145 rfl dL_law_146 dL_law_147 ?_
  refine law_ld F hL hi hS hl 2 (by omega) dL_law_148 dL_law_149 dL_law_150 rfl dL_law_151 dL_law_152 ?_
  refine law_c9 F hS hl.1 hP hD h9 hR (cwV 2 F.2.2.2.2.1 gL_law_X9_set rfl rfl rfl (by decide +kernel) ⟨Nat.le_of_ble_eq_true rfl, Nat.le_of_ble_eq_true rfl⟩) rfl dL_law_153 rfl hcs (fun H locs hI hS => ?_)
  exact lv_icmp_eq (tgt := 688) F.1 F.2.1 dL_law_156 (by decide) (fun _ => kk H locs hI hS) (fun h => absurd rfl h)
set_option maxHeartbeats 4000000 in
set_option maxRecDepth 100000 in
theorem law_k_event (F : lwF p s m c b L xs D I C Q9) (hL : L ≤ 3072) (hi : i + 6 ≤ L) (hI : uI D I C Q9 y0 a0 (lA s) H) (hS : va_S (lA s) s.heap H locs) (hl : lv_has ls 4 (lvs b y0 a0 i)) (hcs : cells + 13 ≤ 600000 ∧ slots + 1166 ≤ 7302249) (kk : ∀ (H1 : Heap) (locs1 : List Loc), uI D I C Q9 y0 a0 (lA s) H1 → va_S (lA s) s.heap H1 locs1 → W p l e room_1 s m #[Value.ref b] below meth c H1 locs1 (cells + 13) (slots + 1166) Q (F0 m 688 ls [])) : W p l e room_1 s m #[Value.ref b] below meth c H locs cells slots Q (F0 m 161 ls []) := by
  obtain ⟨mm, x, hR, hP, hD⟩ := hI
  refine lv_aload_n F.1 F.2.1 dL_law_161 rfl (lv_at hl 2 rfl) ?_
  refine law_ld F hL hi hS hl 1 (by omega) dL_law_162 dL_law_163 dL_law_164 rfl dL_law_165 dL_law_166 ?_
  refine law_ld F hL hi hS hl 2 (by omega) dL_law_167 dL_law_168 dL_law_169 rfl dL_law_170 dL_law_171 ?_
  refine law_ld F hL hi hS hl 3 (by omega) dL_law_172 dL_law_173 dL_law_174 rfl dL_law_175 dL_law_176 ?_
  refine law_ld F hL hi hS hl 4 (by omega) dL_law_177 dL_law_178 dL_law_179 rfl dL_law_180 dL_law_181 ?_
  refine law_ld F hL hi hS hl 5 (by omega) dL_law_182 dL_law_183 dL_law_184 rfl dL_law_185 dL_law_186 ?_
  refine law_c8 F hS hl.1 hP hD (uQ_event l D I C Q9 y0 a0 _ _ _ _ _ mm x hR) (cwV 5 F.2.2.2.2.1 gL_law_X8_event rfl rfl rfl (by decide +kernel) ⟨Nat.le_of_ble_eq_true rfl, Nat.le_of_ble_eq_true rfl⟩) rfl dL_law_187 rfl hcs (fun H locs r mm1 x1 h9 hR hP hD hS => ?_)
  refine lv_aload_n F.1 F.2.1 dL_law_190 rfl (lv_at hl 1 rfl) ?_
  refine law_ld F hL hi hS hl 1 (by omega) dL_law_191 dL_law_192 dL_law_193 rfl dL_law_194 dL_law_195 ?_
  refine law_ld F hL hi hS hl 2 (by omega) dL_law_196 dL_law_197 dL_law_198 rfl dL_law_199 dL_law_200 ?_
  refine law_ld F hL hi hS hl 3 (by omega) dL_law_201 dL_law_202 dL_law_203 rfl dL_law_204 dL_law_205 ?_
  refine law_ld F hL hi hS hl 4 (by omega) dL_law_206 dL_law_207 dL_law_208 rfl dL_law_209 dL_law_210 ?_
  refine law_ld F hL hi hS hl 5 (by omega) dL_law_211 dL_law_212 dL_law_213 rfl dL_law_214 dL_law_215 ?_
  refine law_c9 F hS hl.1 hP hD h9 hR (cwV 5 F.2.2.2.2.1 gL_law_X9_event rfl rfl rfl (by decide +kernel) ⟨Nat.le_of_ble_eq_true rfl, Nat.le_of_ble_eq_true rfl⟩) rfl dL_law_216 rfl hcs (fun H locs hI hS => ?_)
  exact lv_icmp_eq (tgt := 688) F.1 F.2.1 dL_law_219 (by decide) (fun _ => kk H locs hI hS) (fun h => absurd rfl h)
set_option maxHeartbeats 4000000 in
set_option maxRecDepth 100000 in
theorem law_k_move (F : lwF p s m c b L xs D I C Q9) (hL : L ≤ 3072) (hi : i + 6 ≤ L) (hI : uI D I C Q9 y0 a0 (lA s) H) (hS : va_S (lA s) s.heap H locs) (hl : lv_has ls 4 (lvs b y0 a0 i)) (hcs : cells + 13 ≤ 600000 ∧ slots + 1166 ≤ 7302249) (kk : ∀ (H1 : Heap) (locs1 : List Loc), uI D I C Q9 y0 a0 (lA s) H1 → va_S (lA s) s.heap H1 locs1 → W p l e room_1 s m #[Value.ref b] below meth c H1 locs1 (cells + 13) (slots + 1166) Q (F0 m 688 ls [])) : W p l e room_1 s m #[Value.ref b] below meth c H locs cells slots Q (F0 m 224 ls []) := by
  obtain ⟨mm, x, hR, hP, hD⟩ := hI
  refine lv_aload_n F.1 F.2.1 dL_law_224 rfl (lv_at hl 2 rfl) ?_
  refine law_ld F hL hi hS hl 1 (by omega) dL_law_225 dL_law_226 dL_law_227 rfl dL_law_228 dL_law_229 ?_
  refine law_c8 F hS hl.1 hP hD (uQ_move l D I C Q9 y0 a0 _ mm x hR) (cwV 1 F.2.2.2.2.1 gL_law_X8_move rfl rfl rfl (by decide +kernel) ⟨Nat.le_of_ble_eq_true rfl, Nat.le_of_ble_eq_true rfl⟩) rfl dL_law_230 rfl hcs (fun H locs r mm1 x1 h9 hR hP hD hS => ?_)
  refine lv_aload_n F.1 F.2.1 dL_law_233 rfl (lv_at hl 1 rfl) ?_
  refine law_ld F hL hi hS hl 1 (by omega) dL_law_234 dL_law_235 dL_law_236 rfl dL_law_237 dL_law_238 ?_
  refine law_c9 F hS hl.1 hP hD h9 hR (cwV 1 F.2.2.2.2.1 gL_law_X9_move rfl rfl rfl (by decide +kernel) ⟨Nat.le_of_ble_eq_true rfl, Nat.le_of_ble_eq_true rfl⟩) rfl dL_law_239 rfl hcs (fun H locs hI hS => ?_)
  exact lv_icmp_eq (tgt := 688) F.1 F.2.1 dL_law_242 (by decide) (fun _ => kk H locs hI hS) (fun h => absurd rfl h)
set_option maxHeartbeats 4000000 in
set_option maxRecDepth 100000 in
theorem law_k_paneOf (F : lwF p s m c b L xs D I C Q9) (hL : L ≤ 3072) (hi : i + 6 ≤ L) (hI : uI D I C Q9 y0 a0 (lA s) H) (hS : va_S (lA s) s.heap H locs) (hl : lv_has ls 4 (lvs b y0 a0 i)) (hcs : cells + 13 ≤ 600000 ∧ slots + 1166 ≤ 7302249) (kk : ∀ (H1 : Heap) (locs1 : List Loc), uI D I C Q9 y0 a0 (lA s) H1 → va_S (lA s) s.heap H1 locs1 → W p l e room_1 s m #[Value.ref b] below meth c H1 locs1 (cells + 13) (slots + 1166) Q (F0 m 688 ls [])) : W p l e room_1 s m #[Value.ref b] below meth c H locs cells slots Q (F0 m 247 ls []) := by
  obtain ⟨mm, x, hR, hP, hD⟩ := hI
  refine lv_aload_n F.1 F.2.1 dL_law_247 rfl (lv_at hl 2 rfl) ?_
  refine law_ld F hL hi hS hl 1 (by omega) dL_law_248 dL_law_249 dL_law_250 rfl dL_law_251 dL_law_252 ?_
  refine law_ld F hL hi hS hl 2 (by omega) dL_law_253 dL_law_254 dL_law_255 rfl dL_law_256 dL_law_257 ?_
  refine law_c8 F hS hl.1 hP hD (uQ_paneOf l D I C Q9 y0 a0 _ _ mm x hR) (cwV 2 F.2.2.2.2.1 gL_law_X8_paneOf rfl rfl rfl (by decide +kernel) ⟨Nat.le_of_ble_eq_true rfl, Nat.le_of_ble_eq_true rfl⟩) rfl dL_law_258 rfl hcs (fun H locs r mm1 x1 h9 hR hP hD hS => ?_)
  refine lv_aload_n F.1 F.2.1 dL_law_261 rfl (lv_at hl 1 rfl) ?_
  refine law_ld F hL hi hS hl 1 (by omega) dL_law_262 dL_law_263 dL_law_264 rfl dL_law_265 dL_law_266 ?_
  refine law_ld F hL hi hS hl 2 (by omega) dL_law_267 dL_law_268 dL_law_269 rfl dL_law_270 dL_law_271 ?_
  refine law_c9 F hS hl.1 hP hD h9 hR (cwV 2 F.2.2.2.2.1 gL_law_X9_paneOf rfl rfl rfl (by decide +kernel) ⟨Nat.le_of_ble_eq_true rfl, Nat.le_of_ble_eq_true rfl⟩) rfl dL_law_272 rfl hcs (fun H locs hI hS => ?_)
  exact lv_icmp_eq (tgt := 688) F.1 F.2.1 dL_law_275 (by decide) (fun _ => kk H locs hI hS) (fun h => absurd rfl h)
set_option maxHeartbeats 4000000 in
set_option maxRecDepth 100000 in
theorem law_k_mean (F : lwF p s m c b L xs D I C Q9) (hL : L ≤ 3072) (hi : i + 6 ≤ L) (hI : uI D I C Q9 y0 a0 (lA s) H) (hS : va_S (lA s) s.heap H locs) (hl : lv_has ls 4 (lvs b y0 a0 i)) (hcs : cells + 13 ≤ 600000 ∧ slots + 1166 ≤ 7302249) (kk : ∀ (H1 : Heap) (locs1 : List Loc), uI D I C Q9 y0 a0 (lA s) H1 → va_S (lA s) s.heap H1 locs1 → W p l e room_1 s m #[Value.ref b] below meth c H1 locs1 (cells + 13) (slots + 1166) Q (F0 m 688 ls [])) : W p l e room_1 s m #[Value.ref b] below meth c H locs cells slots Q (F0 m 280 ls []) := by
  obtain ⟨mm, x, hR, hP, hD⟩ := hI
  refine lv_aload_n F.1 F.2.1 dL_law_280 rfl (lv_at hl 2 rfl) ?_
  refine law_ld F hL hi hS hl 1 (by omega) dL_law_281 dL_law_282 dL_law_283 rfl dL_law_284 dL_law_285 ?_
  refine law_c8 F hS hl.1 hP hD (uQ_mean l D I C Q9 y0 a0 _ mm x hR) (cwV 1 F.2.2.2.2.1 gL_law_X8_mean rfl rfl rfl (by decide +kernel) ⟨Nat.le_of_ble_eq_true rfl, Nat.le_of_ble_eq_true rfl⟩) rfl dL_law_286 rfl hcs (fun H locs r mm1 x1 h9 hR hP hD hS => ?_)
  refine lv_aload_n F.1 F.2.1 dL_law_289 rfl (lv_at hl 1 rfl) ?_
  refine law_ld F hL hi hS hl 1 (by omega) dL_law_290 dL_law_291 dL_law_292 rfl dL_law_293 dL_law_294 ?_
  refine law_c9 F hS hl.1 hP hD h9 hR (cwV 1 F.2.2.2.2.1 gL_law_X9_mean rfl rfl rfl (by decide +kernel) ⟨Nat.le_of_ble_eq_true rfl, Nat.le_of_ble_eq_true rfl⟩) rfl dL_law_295 rfl hcs (fun H locs hI hS => ?_)
  exact lv_icmp_eq (tgt := 688) F.1 F.2.1 dL_law_298 (by decide) (fun _ => kk H locs hI hS) (fun h => absurd rfl h)
set_option maxHeartbeats 4000000 in
set_option maxRecDepth 100000 in
theorem law_k_standing (F : lwF p s m c b L xs D I C Q9) (hL : L ≤ 3072) (hi : i + 6 ≤ L) (hI : uI D I C Q9 y0 a0 (lA s) H) (hS : va_S (lA s) s.heap H locs) (hl : lv_has ls 4 (lvs b y0 a0 i)) (hcs : cells + 13 ≤ 600000 ∧ slots + 1166 ≤ 7302249) (kk : ∀ (H1 : Heap) (locs1 : List Loc), uI D I C Q9 y0 a0 (lA s) H1 → va_S (lA s) s.heap H1 locs1 → W p l e room_1 s m #[Value.ref b] below meth c H1 locs1 (cells + 13) (slots + 1166) Q (F0 m 688 ls [])) : W p l e room_1 s m #[Value.ref b] below meth c H locs cells slots Q (F0 m 303 ls []) := by
  obtain ⟨mm, x, hR, hP, hD⟩ := hI
  refine lv_aload_n F.1 F.2.1 dL_law_303 rfl (lv_at hl 2 rfl) ?_
  refine law_ld F hL hi hS hl 1 (by omega) dL_law_304 dL_law_305 dL_law_306 rfl dL_law_307 dL_law_308 ?_
  refine law_ld F hL hi hS hl 2 (by omega) dL_law_309 dL_law_310 dL_law_311 rfl dL_law_312 dL_law_313 ?_
  refine law_c8 F hS hl.1 hP hD (uQ_standing l D I C Q9 y0 a0 _ _ mm x hR) (cwV 2 F.2.2.2.2.1 gL_law_X8_standing rfl rfl rfl (by decide +kernel) ⟨Nat.le_of_ble_eq_true rfl, Nat.le_of_ble_eq_true rfl⟩) rfl dL_law_314 rfl hcs (fun H locs r mm1 x1 h9 hR hP hD hS => ?_)
  refine lv_aload_n F.1 F.2.1 dL_law_317 rfl (lv_at hl 1 rfl) ?_
  refine law_ld F hL hi hS hl 1 (by omega) dL_law_318 dL_law_319 dL_law_320 rfl dL_law_321 dL_law_322 ?_
  refine law_ld F hL hi hS hl 2 (by omega) dL_law_323 dL_law_324 dL_law_325 rfl dL_law_326 dL_law_327 ?_
  refine law_c9 F hS hl.1 hP hD h9 hR (cwV 2 F.2.2.2.2.1 gL_law_X9_standing rfl rfl rfl (by decide +kernel) ⟨Nat.le_of_ble_eq_true rfl, Nat.le_of_ble_eq_true rfl⟩) rfl dL_law_328 rfl hcs (fun H locs hI hS => ?_)
  exact lv_icmp_eq (tgt := 688) F.1 F.2.1 dL_law_331 (by decide) (fun _ => kk H locs hI hS) (fun h => absurd rfl h)
set_option maxHeartbeats 4000000 in
set_option maxRecDepth 100000 in
theorem law_k_nextPane (F : lwF p s m c b L xs D I C Q9) (hL : L ≤ 3072) (hi : i + 6 ≤ L) (hI : uI D I C Q9 y0 a0 (lA s) H) (hS : va_S (lA s) s.heap H locs) (hl : lv_has ls 4 (lvs b y0 a0 i)) (hcs : cells + 13 ≤ 600000 ∧ slots + 1166 ≤ 7302249) (kk : ∀ (H1 : Heap) (locs1 : List Loc), uI D I C Q9 y0 a0 (lA s) H1 → va_S (lA s) s.heap H1 locs1 → W p l e room_1 s m #[Value.ref b] below meth c H1 locs1 (cells + 13) (slots + 1166) Q (F0 m 688 ls [])) : W p l e room_1 s m #[Value.ref b] below meth c H locs cells slots Q (F0 m 336 ls []) := by
  obtain ⟨mm, x, hR, hP, hD⟩ := hI
  refine lv_aload_n F.1 F.2.1 dL_law_336 rfl (lv_at hl 2 rfl) ?_
  refine law_ld F hL hi hS hl 1 (by omega) dL_law_337 dL_law_338 dL_law_339 rfl dL_law_340 dL_law_341 ?_
  refine law_c8 F hS hl.1 hP hD (uQ_nextPane l D I C Q9 y0 a0 _ mm x hR) (cwV 1 F.2.2.2.2.1 gL_law_X8_nextPane rfl rfl rfl (by decide +kernel) ⟨Nat.le_of_ble_eq_true rfl, Nat.le_of_ble_eq_true rfl⟩) rfl dL_law_342 rfl hcs (fun H locs r mm1 x1 h9 hR hP hD hS => ?_)
  refine lv_aload_n F.1 F.2.1 dL_law_345 rfl (lv_at hl 1 rfl) ?_
  refine law_ld F hL hi hS hl 1 (by omega) dL_law_346 dL_law_347 dL_law_348 rfl dL_law_349 dL_law_350 ?_
  refine law_c9 F hS hl.1 hP hD h9 hR (cwV 1 F.2.2.2.2.1 gL_law_X9_nextPane rfl rfl rfl (by decide +kernel) ⟨Nat.le_of_ble_eq_true rfl, Nat.le_of_ble_eq_true rfl⟩) rfl dL_law_351 rfl hcs (fun H locs hI hS => ?_)
  exact lv_icmp_eq (tgt := 688) F.1 F.2.1 dL_law_354 (by decide) (fun _ => kk H locs hI hS) (fun h => absurd rfl h)
end LAW
