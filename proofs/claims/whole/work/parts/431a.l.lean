/-! the law: its cases -/
set_option maxRecDepth 100000 in
set_option maxHeartbeats 4000000 in
theorem cs_0 {k : CT} {gB gM : GG} {b L : Nat} {xs : Nat → Int32} (C : CX k cL_law 4 RL wsL_law room_1 gB) (M : CX k cL_law 4 RL wsL_law room_1 gM) (X : LX k b L xs) {i : Nat} (hi : i + 5 ≤ L) {IB : MI} {JB : MJ} {IM : MI} {JM : MJ} (h : REL IB JB IM JM) (kk : ∀ (IB' : MI) (JB' : MJ) (IM' : MI) (JM' : MJ), REL IB' JB' IM' JM' → V k (wM gM IM' JM' ++ wB gB IB' JB') 1073 (LV b gB gM i) []) : V k (wM gM IM JM ++ wB gB IB JB) 164 (LV b gB gM i) [] := by
  obtain ⟨r, IB', JB', IM', JM', e1, e2, hrel⟩ := s_ram h ((xs (i + 1))) ((xs (i + 2))) ((xs (i + 3))) ((xs (i + 4)))
  refine r_aload_n C dL_law_164 rfl 1 rfl ?_
  refine L_arg (c := 1) C X (by omega) (by decide) dL_law_165 dL_law_166 dL_law_167 dL_law_168 dL_law_169 ?_
  refine L_arg (c := 2) C X (by omega) (by decide) dL_law_170 dL_law_171 dL_law_172 dL_law_173 dL_law_174 ?_
  refine L_arg (c := 3) C X (by omega) (by decide) dL_law_175 dL_law_176 dL_law_177 dL_law_178 dL_law_179 ?_
  refine L_arg (c := 4) C X (by omega) (by decide) dL_law_180 dL_law_181 dL_law_182 dL_law_183 dL_law_184 ?_
  refine n_V (wr := wM gM IM JM) (w' := wB gB IB' JB') (o := some (.int r)) (As := [.int (xs (i + 1)), .int (xs (i + 2)), .int (xs (i + 3)), .int (xs (i + 4))]) (rest := []) C (c_X7_ram e1) dL_law_185 gL_law_X7_ram rfl rfl rfl hd_X7_ram ⟨by decide, by decide⟩ 0 rfl rfl rfl rfl rfl (Nat.le_of_ble_eq_true rfl) ?_
  refine V.swap ?_
  refine r_aload_n C dL_law_188 rfl 2 rfl ?_
  refine L_arg (c := 1) C X (by omega) (by decide) dL_law_189 dL_law_190 dL_law_191 dL_law_192 dL_law_193 ?_
  refine L_arg (c := 2) C X (by omega) (by decide) dL_law_194 dL_law_195 dL_law_196 dL_law_197 dL_law_198 ?_
  refine L_arg (c := 3) C X (by omega) (by decide) dL_law_199 dL_law_200 dL_law_201 dL_law_202 dL_law_203 ?_
  refine L_arg (c := 4) C X (by omega) (by decide) dL_law_204 dL_law_205 dL_law_206 dL_law_207 dL_law_208 ?_
  refine n_V (wr := wB gB IB' JB') (w' := wM gM IM' JM') (o := some (.int r)) (As := [.int (xs (i + 1)), .int (xs (i + 2)), .int (xs (i + 3)), .int (xs (i + 4))]) (rest := [.int r]) M (c_X8_ram e2) dL_law_209 gL_law_X8_ram rfl rfl rfl hd_X8_ram ⟨by decide, by decide⟩ 0 rfl rfl rfl rfl rfl (Nat.le_of_ble_eq_true rfl) ?_
  refine V.swap ?_
  exact r_icmp_eq (tgt := 1073) C dL_law_212 (by decide) (fun _ => kk _ _ _ _ hrel) (fun c => absurd rfl c)
set_option maxRecDepth 100000 in
set_option maxHeartbeats 4000000 in
theorem cs_1 {k : CT} {gB gM : GG} {b L : Nat} {xs : Nat → Int32} (C : CX k cL_law 4 RL wsL_law room_1 gB) (M : CX k cL_law 4 RL wsL_law room_1 gM) (X : LX k b L xs) {i : Nat} (hi : i + 5 ≤ L) {IB : MI} {JB : MJ} {IM : MI} {JM : MJ} (h : REL IB JB IM JM) (kk : ∀ (IB' : MI) (JB' : MJ) (IM' : MI) (JM' : MJ), REL IB' JB' IM' JM' → V k (wM gM IM' JM' ++ wB gB IB' JB') 1073 (LV b gB gM i) []) : V k (wM gM IM JM ++ wB gB IB JB) 217 (LV b gB gM i) [] := by
  obtain ⟨r, IB', JB', IM', JM', e1, e2, hrel⟩ := s_set h ((xs (i + 1))) ((xs (i + 2))) ((xs (i + 3)))
  refine r_aload_n C dL_law_217 rfl 1 rfl ?_
  refine L_arg (c := 1) C X (by omega) (by decide) dL_law_218 dL_law_219 dL_law_220 dL_law_221 dL_law_222 ?_
  refine L_arg (c := 2) C X (by omega) (by decide) dL_law_223 dL_law_224 dL_law_225 dL_law_226 dL_law_227 ?_
  refine L_arg (c := 3) C X (by omega) (by decide) dL_law_228 dL_law_229 dL_law_230 dL_law_231 dL_law_232 ?_
  refine n_V (wr := wM gM IM JM) (w' := wB gB IB' JB') (o := some (.int r)) (As := [.int (xs (i + 1)), .int (xs (i + 2)), .int (xs (i + 3))]) (rest := []) C (c_X7_set e1) dL_law_233 gL_law_X7_set rfl rfl rfl hd_X7_set ⟨by decide, by decide⟩ 0 rfl rfl rfl rfl rfl (Nat.le_of_ble_eq_true rfl) ?_
  refine V.swap ?_
  refine r_aload_n C dL_law_236 rfl 2 rfl ?_
  refine L_arg (c := 1) C X (by omega) (by decide) dL_law_237 dL_law_238 dL_law_239 dL_law_240 dL_law_241 ?_
  refine L_arg (c := 2) C X (by omega) (by decide) dL_law_242 dL_law_243 dL_law_244 dL_law_245 dL_law_246 ?_
  refine L_arg (c := 3) C X (by omega) (by decide) dL_law_247 dL_law_248 dL_law_249 dL_law_250 dL_law_251 ?_
  refine n_V (wr := wB gB IB' JB') (w' := wM gM IM' JM') (o := some (.int r)) (As := [.int (xs (i + 1)), .int (xs (i + 2)), .int (xs (i + 3))]) (rest := [.int r]) M (c_X8_set e2) dL_law_252 gL_law_X8_set rfl rfl rfl hd_X8_set ⟨by decide, by decide⟩ 0 rfl rfl rfl rfl rfl (Nat.le_of_ble_eq_true rfl) ?_
  refine V.swap ?_
  exact r_icmp_eq (tgt := 1073) C dL_law_255 (by decide) (fun _ => kk _ _ _ _ hrel) (fun c => absurd rfl c)
set_option maxRecDepth 100000 in
set_option maxHeartbeats 4000000 in
theorem cs_2 {k : CT} {gB gM : GG} {b L : Nat} {xs : Nat → Int32} (C : CX k cL_law 4 RL wsL_law room_1 gB) (M : CX k cL_law 4 RL wsL_law room_1 gM) (X : LX k b L xs) {i : Nat} (hi : i + 5 ≤ L) {IB : MI} {JB : MJ} {IM : MI} {JM : MJ} (h : REL IB JB IM JM) (kk : ∀ (IB' : MI) (JB' : MJ) (IM' : MI) (JM' : MJ), REL IB' JB' IM' JM' → V k (wM gM IM' JM' ++ wB gB IB' JB') 1073 (LV b gB gM i) []) : V k (wM gM IM JM ++ wB gB IB JB) 260 (LV b gB gM i) [] := by
  obtain ⟨r, IM', JM', e1, e2, hrel⟩ := s_about h ((xs (i + 1))) ((xs (i + 2)))
  refine r_aload_n C dL_law_260 rfl 1 rfl ?_
  refine L_arg (c := 1) C X (by omega) (by decide) dL_law_261 dL_law_262 dL_law_263 dL_law_264 dL_law_265 ?_
  refine L_arg (c := 2) C X (by omega) (by decide) dL_law_266 dL_law_267 dL_law_268 dL_law_269 dL_law_270 ?_
  refine n_V (wr := wM gM IM JM) (w' := wB gB IB JB) (o := some (.int r)) (As := [.int (xs (i + 1)), .int (xs (i + 2))]) (rest := []) C (c_X7_about e1) dL_law_271 gL_law_X7_about rfl rfl rfl hd_X7_about ⟨by decide, by decide⟩ 0 rfl rfl rfl rfl rfl (Nat.le_of_ble_eq_true rfl) ?_
  refine V.swap ?_
  refine r_aload_n C dL_law_274 rfl 2 rfl ?_
  refine L_arg (c := 1) C X (by omega) (by decide) dL_law_275 dL_law_276 dL_law_277 dL_law_278 dL_law_279 ?_
  refine L_arg (c := 2) C X (by omega) (by decide) dL_law_280 dL_law_281 dL_law_282 dL_law_283 dL_law_284 ?_
  refine n_V (wr := wB gB IB JB) (w' := wM gM IM' JM') (o := some (.int r)) (As := [.int (xs (i + 1)), .int (xs (i + 2))]) (rest := [.int r]) M (c_X8_about e2) dL_law_285 gL_law_X8_about rfl rfl rfl hd_X8_about ⟨by decide, by decide⟩ 0 rfl rfl rfl rfl rfl (Nat.le_of_ble_eq_true rfl) ?_
  refine V.swap ?_
  exact r_icmp_eq (tgt := 1073) C dL_law_288 (by decide) (fun _ => kk _ _ _ _ hrel) (fun c => absurd rfl c)
set_option maxRecDepth 100000 in
set_option maxHeartbeats 4000000 in
theorem cs_3 {k : CT} {gB gM : GG} {b L : Nat} {xs : Nat → Int32} (C : CX k cL_law 4 RL wsL_law room_1 gB) (M : CX k cL_law 4 RL wsL_law room_1 gM) (X : LX k b L xs) {i : Nat} (hi : i + 5 ≤ L) {IB : MI} {JB : MJ} {IM : MI} {JM : MJ} (h : REL IB JB IM JM) (kk : ∀ (IB' : MI) (JB' : MJ) (IM' : MI) (JM' : MJ), REL IB' JB' IM' JM' → V k (wM gM IM' JM' ++ wB gB IB' JB') 1073 (LV b gB gM i) []) : V k (wM gM IM JM ++ wB gB IB JB) 293 (LV b gB gM i) [] := by
  obtain ⟨r, IB', JB', IM', JM', e1, e2, hrel⟩ := s_work h ((xs (i + 1))) ((xs (i + 2)))
  refine r_aload_n C dL_law_293 rfl 1 rfl ?_
  refine L_arg (c := 1) C X (by omega) (by decide) dL_law_294 dL_law_295 dL_law_296 dL_law_297 dL_law_298 ?_
  refine L_arg (c := 2) C X (by omega) (by decide) dL_law_299 dL_law_300 dL_law_301 dL_law_302 dL_law_303 ?_
  refine n_V (wr := wM gM IM JM) (w' := wB gB IB' JB') (o := some (.int r)) (As := [.int (xs (i + 1)), .int (xs (i + 2))]) (rest := []) C (c_X7_work e1) dL_law_304 gL_law_X7_work rfl rfl rfl hd_X7_work ⟨by decide, by decide⟩ 0 rfl rfl rfl rfl rfl (Nat.le_of_ble_eq_true rfl) ?_
  refine V.swap ?_
  refine r_aload_n C dL_law_307 rfl 2 rfl ?_
  refine L_arg (c := 1) C X (by omega) (by decide) dL_law_308 dL_law_309 dL_law_310 dL_law_311 dL_law_312 ?_
  refine L_arg (c := 2) C X (by omega) (by decide) dL_law_313 dL_law_314 dL_law_315 dL_law_316 dL_law_317 ?_
  refine n_V (wr := wB gB IB' JB') (w' := wM gM IM' JM') (o := some (.int r)) (As := [.int (xs (i + 1)), .int (xs (i + 2))]) (rest := [.int r]) M (c_X8_work e2) dL_law_318 gL_law_X8_work rfl rfl rfl hd_X8_work ⟨by decide, by decide⟩ 0 rfl rfl rfl rfl rfl (Nat.le_of_ble_eq_true rfl) ?_
  refine V.swap ?_
  exact r_icmp_eq (tgt := 1073) C dL_law_321 (by decide) (fun _ => kk _ _ _ _ hrel) (fun c => absurd rfl c)
set_option maxRecDepth 100000 in
set_option maxHeartbeats 4000000 in
theorem cs_4 {k : CT} {gB gM : GG} {b L : Nat} {xs : Nat → Int32} (C : CX k cL_law 4 RL wsL_law room_1 gB) (M : CX k cL_law 4 RL wsL_law room_1 gM) (X : LX k b L xs) {i : Nat} (hi : i + 5 ≤ L) {IB : MI} {JB : MJ} {IM : MI} {JM : MJ} (h : REL IB JB IM JM) (kk : ∀ (IB' : MI) (JB' : MJ) (IM' : MI) (JM' : MJ), REL IB' JB' IM' JM' → V k (wM gM IM' JM' ++ wB gB IB' JB') 1073 (LV b gB gM i) []) : V k (wM gM IM JM ++ wB gB IB JB) 326 (LV b gB gM i) [] := by
  obtain ⟨r, IB', JB', IM', JM', e1, e2, hrel⟩ := s_beat h ((xs (i + 1))) ((xs (i + 2)))
  refine r_aload_n C dL_law_326 rfl 1 rfl ?_
  refine L_arg (c := 1) C X (by omega) (by decide) dL_law_327 dL_law_328 dL_law_329 dL_law_330 dL_law_331 ?_
  refine L_arg (c := 2) C X (by omega) (by decide) dL_law_332 dL_law_333 dL_law_334 dL_law_335 dL_law_336 ?_
  refine n_V (wr := wM gM IM JM) (w' := wB gB IB' JB') (o := some (.int r)) (As := [.int (xs (i + 1)), .int (xs (i + 2))]) (rest := []) C (c_X7_beat e1) dL_law_337 gL_law_X7_beat rfl rfl rfl hd_X7_beat ⟨by decide, by decide⟩ 0 rfl rfl rfl rfl rfl (Nat.le_of_ble_eq_true rfl) ?_
  refine V.swap ?_
  refine r_aload_n C dL_law_340 rfl 2 rfl ?_
  refine L_arg (c := 1) C X (by omega) (by decide) dL_law_341 dL_law_342 dL_law_343 dL_law_344 dL_law_345 ?_
  refine L_arg (c := 2) C X (by omega) (by decide) dL_law_346 dL_law_347 dL_law_348 dL_law_349 dL_law_350 ?_
  refine n_V (wr := wB gB IB' JB') (w' := wM gM IM' JM') (o := some (.int r)) (As := [.int (xs (i + 1)), .int (xs (i + 2))]) (rest := [.int r]) M (c_X8_beat e2) dL_law_351 gL_law_X8_beat rfl rfl rfl hd_X8_beat ⟨by decide, by decide⟩ 0 rfl rfl rfl rfl rfl (Nat.le_of_ble_eq_true rfl) ?_
  refine V.swap ?_
  exact r_icmp_eq (tgt := 1073) C dL_law_354 (by decide) (fun _ => kk _ _ _ _ hrel) (fun c => absurd rfl c)
set_option maxRecDepth 100000 in
set_option maxHeartbeats 4000000 in
theorem cs_5 {k : CT} {gB gM : GG} {b L : Nat} {xs : Nat → Int32} (C : CX k cL_law 4 RL wsL_law room_1 gB) (M : CX k cL_law 4 RL wsL_law room_1 gM) (X : LX k b L xs) {i : Nat} (hi : i + 5 ≤ L) {IB : MI} {JB : MJ} {IM : MI} {JM : MJ} (h : REL IB JB IM JM) (kk : ∀ (IB' : MI) (JB' : MJ) (IM' : MI) (JM' : MJ), REL IB' JB' IM' JM' → V k (wM gM IM' JM' ++ wB gB IB' JB') 1073 (LV b gB gM i) []) : V k (wM gM IM JM ++ wB gB IB JB) 359 (LV b gB gM i) [] := by
  obtain ⟨r, IB', JB', IM', JM', e1, e2, hrel⟩ := s_hourly h ((xs (i + 1))) ((xs (i + 2)))
  refine r_aload_n C dL_law_359 rfl 1 rfl ?_
  refine L_arg (c := 1) C X (by omega) (by decide) dL_law_360 dL_law_361 dL_law_362 dL_law_363 dL_law_364 ?_
  refine L_arg (c := 2) C X (by omega) (by decide) dL_law_365 dL_law_366 dL_law_367 dL_law_368 dL_law_369 ?_
  refine n_V (wr := wM gM IM JM) (w' := wB gB IB' JB') (o := some (.int r)) (As := [.int (xs (i + 1)), .int (xs (i + 2))]) (rest := []) C (c_X7_hourly e1) dL_law_370 gL_law_X7_hourly rfl rfl rfl hd_X7_hourly ⟨by decide, by decide⟩ 0 rfl rfl rfl rfl rfl (Nat.le_of_ble_eq_true rfl) ?_
  refine V.swap ?_
  refine r_aload_n C dL_law_373 rfl 2 rfl ?_
  refine L_arg (c := 1) C X (by omega) (by decide) dL_law_374 dL_law_375 dL_law_376 dL_law_377 dL_law_378 ?_
  refine L_arg (c := 2) C X (by omega) (by decide) dL_law_379 dL_law_380 dL_law_381 dL_law_382 dL_law_383 ?_
  refine n_V (wr := wB gB IB' JB') (w' := wM gM IM' JM') (o := some (.int r)) (As := [.int (xs (i + 1)), .int (xs (i + 2))]) (rest := [.int r]) M (c_X8_hourly e2) dL_law_384 gL_law_X8_hourly rfl rfl rfl hd_X8_hourly ⟨by decide, by decide⟩ 0 rfl rfl rfl rfl rfl (Nat.le_of_ble_eq_true rfl) ?_
  refine V.swap ?_
  exact r_icmp_eq (tgt := 1073) C dL_law_387 (by decide) (fun _ => kk _ _ _ _ hrel) (fun c => absurd rfl c)
set_option maxRecDepth 100000 in
set_option maxHeartbeats 4000000 in
theorem cs_6 {k : CT} {gB gM : GG} {b L : Nat} {xs : Nat → Int32} (C : CX k cL_law 4 RL wsL_law room_1 gB) (M : CX k cL_law 4 RL wsL_law room_1 gM) (X : LX k b L xs) {i : Nat} (hi : i + 5 ≤ L) {IB : MI} {JB : MJ} {IM : MI} {JM : MJ} (h : REL IB JB IM JM) (kk : ∀ (IB' : MI) (JB' : MJ) (IM' : MI) (JM' : MJ), REL IB' JB' IM' JM' → V k (wM gM IM' JM' ++ wB gB IB' JB') 1073 (LV b gB gM i) []) : V k (wM gM IM JM ++ wB gB IB JB) 392 (LV b gB gM i) [] := by
  obtain ⟨r, IB', JB', IM', JM', e1, e2, hrel⟩ := s_spring h ((xs (i + 1))) ((xs (i + 2)))
  refine r_aload_n C dL_law_392 rfl 1 rfl ?_
  refine L_arg (c := 1) C X (by omega) (by decide) dL_law_393 dL_law_394 dL_law_395 dL_law_396 dL_law_397 ?_
  refine L_arg (c := 2) C X (by omega) (by decide) dL_law_398 dL_law_399 dL_law_400 dL_law_401 dL_law_402 ?_
  refine n_V (wr := wM gM IM JM) (w' := wB gB IB' JB') (o := some (.int r)) (As := [.int (xs (i + 1)), .int (xs (i + 2))]) (rest := []) C (c_X7_spring e1) dL_law_403 gL_law_X7_spring rfl rfl rfl hd_X7_spring ⟨by decide, by decide⟩ 0 rfl rfl rfl rfl rfl (Nat.le_of_ble_eq_true rfl) ?_
  refine V.swap ?_
  refine r_aload_n C dL_law_406 rfl 2 rfl ?_
  refine L_arg (c := 1) C X (by omega) (by decide) dL_law_407 dL_law_408 dL_law_409 dL_law_410 dL_law_411 ?_
  refine L_arg (c := 2) C X (by omega) (by decide) dL_law_412 dL_law_413 dL_law_414 dL_law_415 dL_law_416 ?_
  refine n_V (wr := wB gB IB' JB') (w' := wM gM IM' JM') (o := some (.int r)) (As := [.int (xs (i + 1)), .int (xs (i + 2))]) (rest := [.int r]) M (c_X8_spring e2) dL_law_417 gL_law_X8_spring rfl rfl rfl hd_X8_spring ⟨by decide, by decide⟩ 0 rfl rfl rfl rfl rfl (Nat.le_of_ble_eq_true rfl) ?_
  refine V.swap ?_
  exact r_icmp_eq (tgt := 1073) C dL_law_420 (by decide) (fun _ => kk _ _ _ _ hrel) (fun c => absurd rfl c)
set_option maxRecDepth 100000 in
set_option maxHeartbeats 4000000 in
theorem cs_7 {k : CT} {gB gM : GG} {b L : Nat} {xs : Nat → Int32} (C : CX k cL_law 4 RL wsL_law room_1 gB) (M : CX k cL_law 4 RL wsL_law room_1 gM) (X : LX k b L xs) {i : Nat} (hi : i + 5 ≤ L) {IB : MI} {JB : MJ} {IM : MI} {JM : MJ} (h : REL IB JB IM JM) (kk : ∀ (IB' : MI) (JB' : MJ) (IM' : MI) (JM' : MJ), REL IB' JB' IM' JM' → V k (wM gM IM' JM' ++ wB gB IB' JB') 1073 (LV b gB gM i) []) : V k (wM gM IM JM ++ wB gB IB JB) 425 (LV b gB gM i) [] := by
  obtain ⟨r, IB', JB', IM', JM', e1, e2, hrel⟩ := s_tuned h ((xs (i + 1))) ((xs (i + 2))) ((xs (i + 3))) ((xs (i + 4)))
  refine r_aload_n C dL_law_425 rfl 1 rfl ?_
  refine L_arg (c := 1) C X (by omega) (by decide) dL_law_426 dL_law_427 dL_law_428 dL_law_429 dL_law_430 ?_
  refine L_arg (c := 2) C X (by omega) (by decide) dL_law_431 dL_law_432 dL_law_433 dL_law_434 dL_law_435 ?_
  refine L_arg (c := 3) C X (by omega) (by decide) dL_law_436 dL_law_437 dL_law_438 dL_law_439 dL_law_440 ?_
  refine L_arg (c := 4) C X (by omega) (by decide) dL_law_441 dL_law_442 dL_law_443 dL_law_444 dL_law_445 ?_
  refine n_V (wr := wM gM IM JM) (w' := wB gB IB' JB') (o := some (.int r)) (As := [.int (xs (i + 1)), .int (xs (i + 2)), .int (xs (i + 3)), .int (xs (i + 4))]) (rest := []) C (c_X7_tuned e1) dL_law_446 gL_law_X7_tuned rfl rfl rfl hd_X7_tuned ⟨by decide, by decide⟩ 0 rfl rfl rfl rfl rfl (Nat.le_of_ble_eq_true rfl) ?_
  refine V.swap ?_
  refine r_aload_n C dL_law_449 rfl 2 rfl ?_
  refine L_arg (c := 1) C X (by omega) (by decide) dL_law_450 dL_law_451 dL_law_452 dL_law_453 dL_law_454 ?_
  refine L_arg (c := 2) C X (by omega) (by decide) dL_law_455 dL_law_456 dL_law_457 dL_law_458 dL_law_459 ?_
  refine L_arg (c := 3) C X (by omega) (by decide) dL_law_460 dL_law_461 dL_law_462 dL_law_463 dL_law_464 ?_
  refine L_arg (c := 4) C X (by omega) (by decide) dL_law_465 dL_law_466 dL_law_467 dL_law_468 dL_law_469 ?_
  refine n_V (wr := wB gB IB' JB') (w' := wM gM IM' JM') (o := some (.int r)) (As := [.int (xs (i + 1)), .int (xs (i + 2)), .int (xs (i + 3)), .int (xs (i + 4))]) (rest := [.int r]) M (c_X8_tuned e2) dL_law_470 gL_law_X8_tuned rfl rfl rfl hd_X8_tuned ⟨by decide, by decide⟩ 0 rfl rfl rfl rfl rfl (Nat.le_of_ble_eq_true rfl) ?_
  refine V.swap ?_
  exact r_icmp_eq (tgt := 1073) C dL_law_473 (by decide) (fun _ => kk _ _ _ _ hrel) (fun c => absurd rfl c)
