section LK0
variable {p : Program} {l : Launch} {e : Env} {s : State} {m : MethodId} {b L : Nat} {xs : Nat → Int32} {below : List Frame} {meth : Method} {c : Code} {H : Heap} {locs : List Loc} {Q : State → Prop}
variable {ls : Array Slot} {D : va_G} {cA : Nat → ClassId} {tt : Nat → Nat} {M : Mem} {t : Int}
theorem lk_0 (hLC : LC p s m c b L xs D cA tt) (hl : lv_has ls 4 [(0, .ref b), (1, .ref (s.heap.size + 0)), (2, .ref (s.heap.size + 273)), (3, .int (Int32.ofInt t))]) (ht : 0 ≤ t ∧ t + 6 ≤ L) (hH : LIS D cA tt s SS M H locs) (hr : Rel M) (K : ∀ M1 H1 locs1, Rel M1 → LIS D cA tt s SS M1 H1 locs1 → W p l e room_1 s m #[Value.ref b] below meth c H1 locs1 SS.length (tot SS) Q (F0 m 1092 ls [])) : W p l e room_1 s m #[Value.ref b] below meth c H locs SS.length (tot SS) Q (F0 m 176 ls []) := by
  obtain ⟨hx, hb, hml, hown, hC, hX, hbl, hL⟩ := id hLC
  refine lv_aload_n hx hb dl_176 rfl (lv_at hl 1 rfl) ?_
  refine lawArg (j := 1) hLC hl hH ht (by decide) dl_177 dl_178 dl_179 dl_180 dl_181 ?_
  refine lawArg (j := 2) hLC hl hH ht (by decide) dl_182 dl_183 dl_184 dl_185 dl_186 ?_
  refine lawArg (j := 3) hLC hl hH ht (by decide) dl_187 dl_188 dl_189 dl_190 dl_191 ?_
  have h2 : Two (0 + 2) 85 126 [some (vR (some 0)), some (vI ((xs (t + 1).toNat).toInt)), some (vI ((xs (t + 2).toNat).toInt)), some (vI ((xs (t + 3).toNat).toInt))] [some (vR (some 273)), some (vI ((xs (t + 1).toNat).toInt)), some (vI ((xs (t + 2).toNat).toInt)), some (vI ((xs (t + 3).toNat).toInt)), none] M := tp_row hr
  obtain ⟨n1, r1, M1, g1, n2, r2, M2, g2, z, e1, e2, hr2⟩ := h2
  subst e1
  subst e2
  show W p l e room_1 s m #[Value.ref b] below meth c H locs SS.length (tot SS) Q (F0 m 192 ls [.int (xs (t + 3).toNat), .int (xs (t + 2).toNat), .int (xs (t + 1).toNat), .ref (s.heap.size + 0)])
  refine lawV2 (ys := [xs (t + 1).toNat, xs (t + 2).toNat, xs (t + 3).toNat]) (idx := 13) hLC hl hH g1 (by decide) rfl (k := 4) rfl (Nat.le_of_ble_eq_true rfl) s_0 o_85 (by decide) dl_192 (by decide) (fun H1 locs1 hH1 => ?_)
  refine lv_aload_n hx hb dl_195 rfl (lv_at hl 2 rfl) ?_
  refine lawArg (j := 1) hLC hl hH1 ht (by decide) dl_196 dl_197 dl_198 dl_199 dl_200 ?_
  refine lawArg (j := 2) hLC hl hH1 ht (by decide) dl_201 dl_202 dl_203 dl_204 dl_205 ?_
  refine lawArg (j := 3) hLC hl hH1 ht (by decide) dl_206 dl_207 dl_208 dl_209 dl_210 ?_
  show W p l e room_1 s m #[Value.ref b] below meth c H1 locs1 SS.length (tot SS) Q (F0 m 211 ls [.int (xs (t + 3).toNat), .int (xs (t + 2).toNat), .int (xs (t + 1).toNat), .ref (s.heap.size + 273), .int (Int32.ofInt z)])
  refine lawV2 (ys := [xs (t + 1).toNat, xs (t + 2).toNat, xs (t + 3).toNat]) (idx := 17) hLC hl hH1 g2 (by decide) rfl (k := 5) rfl (Nat.le_of_ble_eq_true rfl) s_273 o_126 (by decide) dl_211 (by show 1 + 0 ≤ 8; decide) (fun H2 locs2 hH2 => ?_)
  exact lv_icmp_eq (tgt := 1092) hx hb dl_214 (by decide) (fun _ => K M2 H2 locs2 hr2 hH2) (fun q => absurd rfl q)

theorem lk_1 (hLC : LC p s m c b L xs D cA tt) (hl : lv_has ls 4 [(0, .ref b), (1, .ref (s.heap.size + 0)), (2, .ref (s.heap.size + 273)), (3, .int (Int32.ofInt t))]) (ht : 0 ≤ t ∧ t + 6 ≤ L) (hH : LIS D cA tt s SS M H locs) (hr : Rel M) (K : ∀ M1 H1 locs1, Rel M1 → LIS D cA tt s SS M1 H1 locs1 → W p l e room_1 s m #[Value.ref b] below meth c H1 locs1 SS.length (tot SS) Q (F0 m 1092 ls [])) : W p l e room_1 s m #[Value.ref b] below meth c H locs SS.length (tot SS) Q (F0 m 219 ls []) := by
  obtain ⟨hx, hb, hml, hown, hC, hX, hbl, hL⟩ := id hLC
  refine lv_aload_n hx hb dl_219 rfl (lv_at hl 1 rfl) ?_
  refine lawArg (j := 1) hLC hl hH ht (by decide) dl_220 dl_221 dl_222 dl_223 dl_224 ?_
  refine lawArg (j := 2) hLC hl hH ht (by decide) dl_225 dl_226 dl_227 dl_228 dl_229 ?_
  refine lawArg (j := 3) hLC hl hH ht (by decide) dl_230 dl_231 dl_232 dl_233 dl_234 ?_
  have h2 : Two (0 + 2) 86 127 [some (vR (some 0)), some (vI ((xs (t + 1).toNat).toInt)), some (vI ((xs (t + 2).toNat).toInt)), some (vI ((xs (t + 3).toNat).toInt))] [some (vR (some 273)), some (vI ((xs (t + 1).toNat).toInt)), some (vI ((xs (t + 2).toNat).toInt)), some (vI ((xs (t + 3).toNat).toInt)), none] M := tp_set hr
  obtain ⟨n1, r1, M1, g1, n2, r2, M2, g2, z, e1, e2, hr2⟩ := h2
  subst e1
  subst e2
  show W p l e room_1 s m #[Value.ref b] below meth c H locs SS.length (tot SS) Q (F0 m 235 ls [.int (xs (t + 3).toNat), .int (xs (t + 2).toNat), .int (xs (t + 1).toNat), .ref (s.heap.size + 0)])
  refine lawV2 (ys := [xs (t + 1).toNat, xs (t + 2).toNat, xs (t + 3).toNat]) (idx := 18) hLC hl hH g1 (by decide) rfl (k := 4) rfl (Nat.le_of_ble_eq_true rfl) s_0 o_86 (by decide) dl_235 (by decide) (fun H1 locs1 hH1 => ?_)
  refine lv_aload_n hx hb dl_238 rfl (lv_at hl 2 rfl) ?_
  refine lawArg (j := 1) hLC hl hH1 ht (by decide) dl_239 dl_240 dl_241 dl_242 dl_243 ?_
  refine lawArg (j := 2) hLC hl hH1 ht (by decide) dl_244 dl_245 dl_246 dl_247 dl_248 ?_
  refine lawArg (j := 3) hLC hl hH1 ht (by decide) dl_249 dl_250 dl_251 dl_252 dl_253 ?_
  show W p l e room_1 s m #[Value.ref b] below meth c H1 locs1 SS.length (tot SS) Q (F0 m 254 ls [.int (xs (t + 3).toNat), .int (xs (t + 2).toNat), .int (xs (t + 1).toNat), .ref (s.heap.size + 273), .int (Int32.ofInt z)])
  refine lawV2 (ys := [xs (t + 1).toNat, xs (t + 2).toNat, xs (t + 3).toNat]) (idx := 21) hLC hl hH1 g2 (by decide) rfl (k := 5) rfl (Nat.le_of_ble_eq_true rfl) s_273 o_127 (by decide) dl_254 (by show 1 + 0 ≤ 8; decide) (fun H2 locs2 hH2 => ?_)
  exact lv_icmp_eq (tgt := 1092) hx hb dl_257 (by decide) (fun _ => K M2 H2 locs2 hr2 hH2) (fun q => absurd rfl q)

theorem lk_2 (hLC : LC p s m c b L xs D cA tt) (hl : lv_has ls 4 [(0, .ref b), (1, .ref (s.heap.size + 0)), (2, .ref (s.heap.size + 273)), (3, .int (Int32.ofInt t))]) (ht : 0 ≤ t ∧ t + 6 ≤ L) (hH : LIS D cA tt s SS M H locs) (hr : Rel M) (K : ∀ M1 H1 locs1, Rel M1 → LIS D cA tt s SS M1 H1 locs1 → W p l e room_1 s m #[Value.ref b] below meth c H1 locs1 SS.length (tot SS) Q (F0 m 1092 ls [])) : W p l e room_1 s m #[Value.ref b] below meth c H locs SS.length (tot SS) Q (F0 m 262 ls []) := by
  obtain ⟨hx, hb, hml, hown, hC, hX, hbl, hL⟩ := id hLC
  refine lv_aload_n hx hb dl_262 rfl (lv_at hl 1 rfl) ?_
  refine lawArg (j := 1) hLC hl hH ht (by decide) dl_263 dl_264 dl_265 dl_266 dl_267 ?_
  refine lawArg (j := 2) hLC hl hH ht (by decide) dl_268 dl_269 dl_270 dl_271 dl_272 ?_
  refine lawArg (j := 3) hLC hl hH ht (by decide) dl_273 dl_274 dl_275 dl_276 dl_277 ?_
  refine lawArg (j := 4) hLC hl hH ht (by decide) dl_278 dl_279 dl_280 dl_281 dl_282 ?_
  refine lawArg (j := 5) hLC hl hH ht (by decide) dl_283 dl_284 dl_285 dl_286 dl_287 ?_
  have h2 : Two (0 + 2) 87 128 [some (vR (some 0)), some (vI ((xs (t + 1).toNat).toInt)), some (vI ((xs (t + 2).toNat).toInt)), some (vI ((xs (t + 3).toNat).toInt)), some (vI ((xs (t + 4).toNat).toInt)), some (vI ((xs (t + 5).toNat).toInt))] [some (vR (some 273)), some (vI ((xs (t + 1).toNat).toInt)), some (vI ((xs (t + 2).toNat).toInt)), some (vI ((xs (t + 3).toNat).toInt)), some (vI ((xs (t + 4).toNat).toInt)), some (vI ((xs (t + 5).toNat).toInt)), none] M := tp_copy hr (inR_toInt _) (inR_toInt _) (inR_toInt _)
  obtain ⟨n1, r1, M1, g1, n2, r2, M2, g2, z, e1, e2, hr2⟩ := h2
  subst e1
  subst e2
  show W p l e room_1 s m #[Value.ref b] below meth c H locs SS.length (tot SS) Q (F0 m 288 ls [.int (xs (t + 5).toNat), .int (xs (t + 4).toNat), .int (xs (t + 3).toNat), .int (xs (t + 2).toNat), .int (xs (t + 1).toNat), .ref (s.heap.size + 0)])
  refine lawV2 (ys := [xs (t + 1).toNat, xs (t + 2).toNat, xs (t + 3).toNat, xs (t + 4).toNat, xs (t + 5).toNat]) (idx := 22) hLC hl hH g1 (by decide) rfl (k := 6) rfl (Nat.le_of_ble_eq_true rfl) s_0 o_87 (by decide) dl_288 (by decide) (fun H1 locs1 hH1 => ?_)
  refine lv_aload_n hx hb dl_291 rfl (lv_at hl 2 rfl) ?_
  refine lawArg (j := 1) hLC hl hH1 ht (by decide) dl_292 dl_293 dl_294 dl_295 dl_296 ?_
  refine lawArg (j := 2) hLC hl hH1 ht (by decide) dl_297 dl_298 dl_299 dl_300 dl_301 ?_
  refine lawArg (j := 3) hLC hl hH1 ht (by decide) dl_302 dl_303 dl_304 dl_305 dl_306 ?_
  refine lawArg (j := 4) hLC hl hH1 ht (by decide) dl_307 dl_308 dl_309 dl_310 dl_311 ?_
  refine lawArg (j := 5) hLC hl hH1 ht (by decide) dl_312 dl_313 dl_314 dl_315 dl_316 ?_
  show W p l e room_1 s m #[Value.ref b] below meth c H1 locs1 SS.length (tot SS) Q (F0 m 317 ls [.int (xs (t + 5).toNat), .int (xs (t + 4).toNat), .int (xs (t + 3).toNat), .int (xs (t + 2).toNat), .int (xs (t + 1).toNat), .ref (s.heap.size + 273), .int (Int32.ofInt z)])
  refine lawV2 (ys := [xs (t + 1).toNat, xs (t + 2).toNat, xs (t + 3).toNat, xs (t + 4).toNat, xs (t + 5).toNat]) (idx := 26) hLC hl hH1 g2 (by decide) rfl (k := 7) rfl (Nat.le_of_ble_eq_true rfl) s_273 o_128 (by decide) dl_317 (by show 1 + 0 ≤ 8; decide) (fun H2 locs2 hH2 => ?_)
  exact lv_icmp_eq (tgt := 1092) hx hb dl_320 (by decide) (fun _ => K M2 H2 locs2 hr2 hH2) (fun q => absurd rfl q)

theorem lk_3 (hLC : LC p s m c b L xs D cA tt) (hl : lv_has ls 4 [(0, .ref b), (1, .ref (s.heap.size + 0)), (2, .ref (s.heap.size + 273)), (3, .int (Int32.ofInt t))]) (ht : 0 ≤ t ∧ t + 6 ≤ L) (hH : LIS D cA tt s SS M H locs) (hr : Rel M) (K : ∀ M1 H1 locs1, Rel M1 → LIS D cA tt s SS M1 H1 locs1 → W p l e room_1 s m #[Value.ref b] below meth c H1 locs1 SS.length (tot SS) Q (F0 m 1092 ls [])) : W p l e room_1 s m #[Value.ref b] below meth c H locs SS.length (tot SS) Q (F0 m 325 ls []) := by
  obtain ⟨hx, hb, hml, hown, hC, hX, hbl, hL⟩ := id hLC
  refine lv_aload_n hx hb dl_325 rfl (lv_at hl 1 rfl) ?_
  refine lawArg (j := 1) hLC hl hH ht (by decide) dl_326 dl_327 dl_328 dl_329 dl_330 ?_
  have h2 : Two (0 + 2) 88 129 [some (vR (some 0)), some (vI ((xs (t + 1).toNat).toInt))] [some (vR (some 273)), some (vI ((xs (t + 1).toNat).toInt))] M := t_drop hr
  obtain ⟨n1, r1, M1, g1, n2, r2, M2, g2, z, e1, e2, hr2⟩ := h2
  subst e1
  subst e2
  show W p l e room_1 s m #[Value.ref b] below meth c H locs SS.length (tot SS) Q (F0 m 331 ls [.int (xs (t + 1).toNat), .ref (s.heap.size + 0)])
  refine lawV2 (ys := [xs (t + 1).toNat]) (idx := 27) hLC hl hH g1 (by decide) rfl (k := 2) rfl (Nat.le_of_ble_eq_true rfl) s_0 o_88 (by decide) dl_331 (by decide) (fun H1 locs1 hH1 => ?_)
  refine lv_aload_n hx hb dl_334 rfl (lv_at hl 2 rfl) ?_
  refine lawArg (j := 1) hLC hl hH1 ht (by decide) dl_335 dl_336 dl_337 dl_338 dl_339 ?_
  show W p l e room_1 s m #[Value.ref b] below meth c H1 locs1 SS.length (tot SS) Q (F0 m 340 ls [.int (xs (t + 1).toNat), .ref (s.heap.size + 273), .int (Int32.ofInt z)])
  refine lawV2 (ys := [xs (t + 1).toNat]) (idx := 31) hLC hl hH1 g2 (by decide) rfl (k := 2) rfl (Nat.le_of_ble_eq_true rfl) s_273 o_129 (by decide) dl_340 (by show 1 + 0 ≤ 8; decide) (fun H2 locs2 hH2 => ?_)
  exact lv_icmp_eq (tgt := 1092) hx hb dl_343 (by decide) (fun _ => K M2 H2 locs2 hr2 hH2) (fun q => absurd rfl q)

theorem lk_4 (hLC : LC p s m c b L xs D cA tt) (hl : lv_has ls 4 [(0, .ref b), (1, .ref (s.heap.size + 0)), (2, .ref (s.heap.size + 273)), (3, .int (Int32.ofInt t))]) (ht : 0 ≤ t ∧ t + 6 ≤ L) (hH : LIS D cA tt s SS M H locs) (hr : Rel M) (K : ∀ M1 H1 locs1, Rel M1 → LIS D cA tt s SS M1 H1 locs1 → W p l e room_1 s m #[Value.ref b] below meth c H1 locs1 SS.length (tot SS) Q (F0 m 1092 ls [])) : W p l e room_1 s m #[Value.ref b] below meth c H locs SS.length (tot SS) Q (F0 m 348 ls []) := by
  obtain ⟨hx, hb, hml, hown, hC, hX, hbl, hL⟩ := id hLC
  refine lv_aload_n hx hb dl_348 rfl (lv_at hl 1 rfl) ?_
  refine lawArg (j := 1) hLC hl hH ht (by decide) dl_349 dl_350 dl_351 dl_352 dl_353 ?_
  have h2 : Two (0 + 24) 89 130 [some (vR (some 0)), some (vI ((xs (t + 1).toNat).toInt))] [some (vR (some 273)), some (vI ((xs (t + 1).toNat).toInt))] M := tp_feed hr
  obtain ⟨n1, r1, M1, g1, n2, r2, M2, g2, z, e1, e2, hr2⟩ := h2
  subst e1
  subst e2
  show W p l e room_1 s m #[Value.ref b] below meth c H locs SS.length (tot SS) Q (F0 m 354 ls [.int (xs (t + 1).toNat), .ref (s.heap.size + 0)])
  refine lawV2 (ys := [xs (t + 1).toNat]) (idx := 32) hLC hl hH g1 (by decide) rfl (k := 2) rfl (Nat.le_of_ble_eq_true rfl) s_0 o_89 (by decide) dl_354 (by decide) (fun H1 locs1 hH1 => ?_)
  refine lv_aload_n hx hb dl_357 rfl (lv_at hl 2 rfl) ?_
  refine lawArg (j := 1) hLC hl hH1 ht (by decide) dl_358 dl_359 dl_360 dl_361 dl_362 ?_
  show W p l e room_1 s m #[Value.ref b] below meth c H1 locs1 SS.length (tot SS) Q (F0 m 363 ls [.int (xs (t + 1).toNat), .ref (s.heap.size + 273), .int (Int32.ofInt z)])
  refine lawV2 (ys := [xs (t + 1).toNat]) (idx := 35) hLC hl hH1 g2 (by decide) rfl (k := 2) rfl (Nat.le_of_ble_eq_true rfl) s_273 o_130 (by decide) dl_363 (by show 1 + 0 ≤ 8; decide) (fun H2 locs2 hH2 => ?_)
  exact lv_icmp_eq (tgt := 1092) hx hb dl_366 (by decide) (fun _ => K M2 H2 locs2 hr2 hH2) (fun q => absurd rfl q)

theorem lk_5 (hLC : LC p s m c b L xs D cA tt) (hl : lv_has ls 4 [(0, .ref b), (1, .ref (s.heap.size + 0)), (2, .ref (s.heap.size + 273)), (3, .int (Int32.ofInt t))]) (ht : 0 ≤ t ∧ t + 6 ≤ L) (hH : LIS D cA tt s SS M H locs) (hr : Rel M) (K : ∀ M1 H1 locs1, Rel M1 → LIS D cA tt s SS M1 H1 locs1 → W p l e room_1 s m #[Value.ref b] below meth c H1 locs1 SS.length (tot SS) Q (F0 m 1092 ls [])) : W p l e room_1 s m #[Value.ref b] below meth c H locs SS.length (tot SS) Q (F0 m 371 ls []) := by
  obtain ⟨hx, hb, hml, hown, hC, hX, hbl, hL⟩ := id hLC
  refine lv_aload_n hx hb dl_371 rfl (lv_at hl 1 rfl) ?_
  have h2 : Two (0 + 24) 90 140 [some (vR (some 0)), none] [some (vR (some 273)), none, none] M := tp_town hr
  obtain ⟨n1, r1, M1, g1, n2, r2, M2, g2, z, e1, e2, hr2⟩ := h2
  subst e1
  subst e2
  show W p l e room_1 s m #[Value.ref b] below meth c H locs SS.length (tot SS) Q (F0 m 372 ls [.ref (s.heap.size + 0)])
  refine lawV2 (ys := []) (idx := 36) hLC hl hH g1 (by decide) rfl (k := 2) rfl (Nat.le_of_ble_eq_true rfl) s_0 o_90 (by decide) dl_372 (by decide) (fun H1 locs1 hH1 => ?_)
  refine lv_aload_n hx hb dl_375 rfl (lv_at hl 2 rfl) ?_
  show W p l e room_1 s m #[Value.ref b] below meth c H1 locs1 SS.length (tot SS) Q (F0 m 376 ls [.ref (s.heap.size + 273), .int (Int32.ofInt z)])
  refine lawV2 (ys := []) (idx := 40) hLC hl hH1 g2 (by decide) rfl (k := 3) rfl (Nat.le_of_ble_eq_true rfl) s_273 o_140 (by decide) dl_376 (by show 1 + 0 ≤ 8; decide) (fun H2 locs2 hH2 => ?_)
  exact lv_icmp_eq (tgt := 1092) hx hb dl_379 (by decide) (fun _ => K M2 H2 locs2 hr2 hH2) (fun q => absurd rfl q)

theorem lk_6 (hLC : LC p s m c b L xs D cA tt) (hl : lv_has ls 4 [(0, .ref b), (1, .ref (s.heap.size + 0)), (2, .ref (s.heap.size + 273)), (3, .int (Int32.ofInt t))]) (ht : 0 ≤ t ∧ t + 6 ≤ L) (hH : LIS D cA tt s SS M H locs) (hr : Rel M) (K : ∀ M1 H1 locs1, Rel M1 → LIS D cA tt s SS M1 H1 locs1 → W p l e room_1 s m #[Value.ref b] below meth c H1 locs1 SS.length (tot SS) Q (F0 m 1092 ls [])) : W p l e room_1 s m #[Value.ref b] below meth c H locs SS.length (tot SS) Q (F0 m 384 ls []) := by
  obtain ⟨hx, hb, hml, hown, hC, hX, hbl, hL⟩ := id hLC
  refine lv_aload_n hx hb dl_384 rfl (lv_at hl 1 rfl) ?_
  have h2 : Two (0 + 24) 91 141 [some (vR (some 0))] [some (vR (some 273))] M := tp_fault hr
  obtain ⟨n1, r1, M1, g1, n2, r2, M2, g2, z, e1, e2, hr2⟩ := h2
  subst e1
  subst e2
  show W p l e room_1 s m #[Value.ref b] below meth c H locs SS.length (tot SS) Q (F0 m 385 ls [.ref (s.heap.size + 0)])
  refine lawV2 (ys := []) (idx := 41) hLC hl hH g1 (by decide) rfl (k := 1) rfl (Nat.le_of_ble_eq_true rfl) s_0 o_91 (by decide) dl_385 (by decide) (fun H1 locs1 hH1 => ?_)
  refine lv_aload_n hx hb dl_388 rfl (lv_at hl 2 rfl) ?_
  show W p l e room_1 s m #[Value.ref b] below meth c H1 locs1 SS.length (tot SS) Q (F0 m 389 ls [.ref (s.heap.size + 273), .int (Int32.ofInt z)])
  refine lawV2 (ys := []) (idx := 44) hLC hl hH1 g2 (by decide) rfl (k := 1) rfl (Nat.le_of_ble_eq_true rfl) s_273 o_141 (by decide) dl_389 (by show 1 + 0 ≤ 8; decide) (fun H2 locs2 hH2 => ?_)
  exact lv_icmp_eq (tgt := 1092) hx hb dl_392 (by decide) (fun _ => K M2 H2 locs2 hr2 hH2) (fun q => absurd rfl q)

theorem lk_7 (hLC : LC p s m c b L xs D cA tt) (hl : lv_has ls 4 [(0, .ref b), (1, .ref (s.heap.size + 0)), (2, .ref (s.heap.size + 273)), (3, .int (Int32.ofInt t))]) (ht : 0 ≤ t ∧ t + 6 ≤ L) (hH : LIS D cA tt s SS M H locs) (hr : Rel M) (K : ∀ M1 H1 locs1, Rel M1 → LIS D cA tt s SS M1 H1 locs1 → W p l e room_1 s m #[Value.ref b] below meth c H1 locs1 SS.length (tot SS) Q (F0 m 1092 ls [])) : W p l e room_1 s m #[Value.ref b] below meth c H locs SS.length (tot SS) Q (F0 m 397 ls []) := by
  obtain ⟨hx, hb, hml, hown, hC, hX, hbl, hL⟩ := id hLC
  refine lv_aload_n hx hb dl_397 rfl (lv_at hl 1 rfl) ?_
  refine lawArg (j := 1) hLC hl hH ht (by decide) dl_398 dl_399 dl_400 dl_401 dl_402 ?_
  have h2 : Two (0 + 24) 92 155 [some (vR (some 0)), some (vI ((xs (t + 1).toNat).toInt)), none] [some (vR (some 273)), some (vI ((xs (t + 1).toNat).toInt)), none] M := tp_minutes hr
  obtain ⟨n1, r1, M1, g1, n2, r2, M2, g2, z, e1, e2, hr2⟩ := h2
  subst e1
  subst e2
  show W p l e room_1 s m #[Value.ref b] below meth c H locs SS.length (tot SS) Q (F0 m 403 ls [.int (xs (t + 1).toNat), .ref (s.heap.size + 0)])
  refine lawV2 (ys := [xs (t + 1).toNat]) (idx := 45) hLC hl hH g1 (by decide) rfl (k := 3) rfl (Nat.le_of_ble_eq_true rfl) s_0 o_92 (by decide) dl_403 (by decide) (fun H1 locs1 hH1 => ?_)
  refine lv_aload_n hx hb dl_406 rfl (lv_at hl 2 rfl) ?_
  refine lawArg (j := 1) hLC hl hH1 ht (by decide) dl_407 dl_408 dl_409 dl_410 dl_411 ?_
  show W p l e room_1 s m #[Value.ref b] below meth c H1 locs1 SS.length (tot SS) Q (F0 m 412 ls [.int (xs (t + 1).toNat), .ref (s.heap.size + 273), .int (Int32.ofInt z)])
  refine lawV2 (ys := [xs (t + 1).toNat]) (idx := 48) hLC hl hH1 g2 (by decide) rfl (k := 3) rfl (Nat.le_of_ble_eq_true rfl) s_273 o_155 (by decide) dl_412 (by show 1 + 0 ≤ 8; decide) (fun H2 locs2 hH2 => ?_)
  exact lv_icmp_eq (tgt := 1092) hx hb dl_415 (by decide) (fun _ => K M2 H2 locs2 hr2 hH2) (fun q => absurd rfl q)

end LK0