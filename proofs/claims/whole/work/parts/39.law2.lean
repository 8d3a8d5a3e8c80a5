theorem lr_case_0 {Z : lr_Z} {L q i c : Nat} {xs : Nat → Int32} {tx tm : lr_S} (C : lr_ZC Z L xs q) (hL : L ≤ 320) (hi : i + 5 ≤ L) (R : lr_RX c tx tm) (hc : c < 64) (kk : ∀ tx' tm', lr_RX (c + 1) tx' tm' → lr_V2 Z 751 i [] tx' tm') : lr_V2 Z 124 i [] tx tm := by
  obtain ⟨r, a2, b2, h1, h2, R2⟩ := lr_sim_make (xs (i + 1)) (xs (i + 2)) c tx tm R hc
  refine lr_z_ax C lr_d_L_124 ?_
  refine lr_z_arg C (j := 1) lr_d_L_125 lr_d_L_126 lr_d_L_127 lr_d_L_128 lr_d_L_129 rfl (by omega) hL ?_
  refine lr_z_arg C (j := 2) lr_d_L_130 lr_d_L_131 lr_d_L_132 lr_d_L_133 lr_d_L_134 rfl (by omega) hL ?_
  refine lr_z_callx C (as := [xs (i + 1), xs (i + 2)]) (st := []) (lr_r_X_make h1) lr_cL_13 lr_d_L_135 rfl rfl rfl (by decide) (Nat.le_of_ble_eq_true rfl) ?_
  refine lr_z_am C lr_d_L_138 ?_
  refine lr_z_arg C (j := 1) lr_d_L_139 lr_d_L_140 lr_d_L_141 lr_d_L_142 lr_d_L_143 rfl (by omega) hL ?_
  refine lr_z_arg C (j := 2) lr_d_L_144 lr_d_L_145 lr_d_L_146 lr_d_L_147 lr_d_L_148 rfl (by omega) hL ?_
  refine lr_z_callm C (as := [xs (i + 1), xs (i + 2)]) (st := [.int r]) (lr_r_M_make h2) lr_cL_17 lr_d_L_149 rfl rfl rfl (by decide) (Nat.le_of_ble_eq_true rfl) ?_
  exact lr_z_eq C (tgt := 751) lr_d_L_152 rfl (kk _ _ R2)
theorem lr_case_1 {Z : lr_Z} {L q i c : Nat} {xs : Nat → Int32} {tx tm : lr_S} (C : lr_ZC Z L xs q) (hL : L ≤ 320) (hi : i + 5 ≤ L) (R : lr_RX c tx tm) (hc : c < 64) (kk : ∀ tx' tm', lr_RX (c + 1) tx' tm' → lr_V2 Z 751 i [] tx' tm') : lr_V2 Z 157 i [] tx tm := by
  obtain ⟨r, a2, b2, h1, h2, R2⟩ := lr_sim_link (xs (i + 1)) (xs (i + 2)) (xs (i + 3)) (xs (i + 4)) c tx tm R hc
  refine lr_z_ax C lr_d_L_157 ?_
  refine lr_z_arg C (j := 1) lr_d_L_158 lr_d_L_159 lr_d_L_160 lr_d_L_161 lr_d_L_162 rfl (by omega) hL ?_
  refine lr_z_arg C (j := 2) lr_d_L_163 lr_d_L_164 lr_d_L_165 lr_d_L_166 lr_d_L_167 rfl (by omega) hL ?_
  refine lr_z_arg C (j := 3) lr_d_L_168 lr_d_L_169 lr_d_L_170 lr_d_L_171 lr_d_L_172 rfl (by omega) hL ?_
  refine lr_z_arg C (j := 4) lr_d_L_173 lr_d_L_174 lr_d_L_175 lr_d_L_176 lr_d_L_177 rfl (by omega) hL ?_
  refine lr_z_callx C (as := [xs (i + 1), xs (i + 2), xs (i + 3), xs (i + 4)]) (st := []) (lr_r_X_link h1) lr_cL_18 lr_d_L_178 rfl rfl rfl (by decide) (Nat.le_of_ble_eq_true rfl) ?_
  refine lr_z_am C lr_d_L_181 ?_
  refine lr_z_arg C (j := 1) lr_d_L_182 lr_d_L_183 lr_d_L_184 lr_d_L_185 lr_d_L_186 rfl (by omega) hL ?_
  refine lr_z_arg C (j := 2) lr_d_L_187 lr_d_L_188 lr_d_L_189 lr_d_L_190 lr_d_L_191 rfl (by omega) hL ?_
  refine lr_z_arg C (j := 3) lr_d_L_192 lr_d_L_193 lr_d_L_194 lr_d_L_195 lr_d_L_196 rfl (by omega) hL ?_
  refine lr_z_arg C (j := 4) lr_d_L_197 lr_d_L_198 lr_d_L_199 lr_d_L_200 lr_d_L_201 rfl (by omega) hL ?_
  refine lr_z_callm C (as := [xs (i + 1), xs (i + 2), xs (i + 3), xs (i + 4)]) (st := [.int r]) (lr_r_M_link h2) lr_cL_22 lr_d_L_202 rfl rfl rfl (by decide) (Nat.le_of_ble_eq_true rfl) ?_
  exact lr_z_eq C (tgt := 751) lr_d_L_205 rfl (kk _ _ R2)
theorem lr_case_2 {Z : lr_Z} {L q i c : Nat} {xs : Nat → Int32} {tx tm : lr_S} (C : lr_ZC Z L xs q) (hL : L ≤ 320) (hi : i + 5 ≤ L) (R : lr_RX c tx tm) (hc : c < 64) (kk : ∀ tx' tm', lr_RX (c + 1) tx' tm' → lr_V2 Z 751 i [] tx' tm') : lr_V2 Z 210 i [] tx tm := by
  obtain ⟨r, a2, b2, h1, h2, R2⟩ := lr_sim_fetch (xs (i + 1)) (xs (i + 2)) (xs (i + 3)) (xs (i + 4)) c tx tm R hc
  refine lr_z_ax C lr_d_L_210 ?_
  refine lr_z_arg C (j := 1) lr_d_L_211 lr_d_L_212 lr_d_L_213 lr_d_L_214 lr_d_L_215 rfl (by omega) hL ?_
  refine lr_z_arg C (j := 2) lr_d_L_216 lr_d_L_217 lr_d_L_218 lr_d_L_219 lr_d_L_220 rfl (by omega) hL ?_
  refine lr_z_arg C (j := 3) lr_d_L_221 lr_d_L_222 lr_d_L_223 lr_d_L_224 lr_d_L_225 rfl (by omega) hL ?_
  refine lr_z_arg C (j := 4) lr_d_L_226 lr_d_L_227 lr_d_L_228 lr_d_L_229 lr_d_L_230 rfl (by omega) hL ?_
  refine lr_z_callx C (as := [xs (i + 1), xs (i + 2), xs (i + 3), xs (i + 4)]) (st := []) (lr_r_X_fetch h1) lr_cL_23 lr_d_L_231 rfl rfl rfl (by decide) (Nat.le_of_ble_eq_true rfl) ?_
  refine lr_z_am C lr_d_L_234 ?_
  refine lr_z_arg C (j := 1) lr_d_L_235 lr_d_L_236 lr_d_L_237 lr_d_L_238 lr_d_L_239 rfl (by omega) hL ?_
  refine lr_z_arg C (j := 2) lr_d_L_240 lr_d_L_241 lr_d_L_242 lr_d_L_243 lr_d_L_244 rfl (by omega) hL ?_
  refine lr_z_arg C (j := 3) lr_d_L_245 lr_d_L_246 lr_d_L_247 lr_d_L_248 lr_d_L_249 rfl (by omega) hL ?_
  refine lr_z_arg C (j := 4) lr_d_L_250 lr_d_L_251 lr_d_L_252 lr_d_L_253 lr_d_L_254 rfl (by omega) hL ?_
  refine lr_z_callm C (as := [xs (i + 1), xs (i + 2), xs (i + 3), xs (i + 4)]) (st := [.int r]) (lr_r_M_fetch h2) lr_cL_26 lr_d_L_255 rfl rfl rfl (by decide) (Nat.le_of_ble_eq_true rfl) ?_
  exact lr_z_eq C (tgt := 751) lr_d_L_258 rfl (kk _ _ R2)
theorem lr_case_3 {Z : lr_Z} {L q i c : Nat} {xs : Nat → Int32} {tx tm : lr_S} (C : lr_ZC Z L xs q) (hL : L ≤ 320) (hi : i + 5 ≤ L) (R : lr_RX c tx tm) (hc : c < 64) (kk : ∀ tx' tm', lr_RX (c + 1) tx' tm' → lr_V2 Z 751 i [] tx' tm') : lr_V2 Z 263 i [] tx tm := by
  obtain ⟨r, a2, b2, h1, h2, R2⟩ := lr_sim_drop (xs (i + 1)) (xs (i + 2)) c tx tm R hc
  refine lr_z_ax C lr_d_L_263 ?_
  refine lr_z_arg C (j := 1) lr_d_L_264 lr_d_L_265 lr_d_L_266 lr_d_L_267 lr_d_L_268 rfl (by omega) hL ?_
  refine lr_z_arg C (j := 2) lr_d_L_269 lr_d_L_270 lr_d_L_271 lr_d_L_272 lr_d_L_273 rfl (by omega) hL ?_
  refine lr_z_callx C (as := [xs (i + 1), xs (i + 2)]) (st := []) (lr_r_X_drop h1) lr_cL_27 lr_d_L_274 rfl rfl rfl (by decide) (Nat.le_of_ble_eq_true rfl) ?_
  refine lr_z_am C lr_d_L_277 ?_
  refine lr_z_arg C (j := 1) lr_d_L_278 lr_d_L_279 lr_d_L_280 lr_d_L_281 lr_d_L_282 rfl (by omega) hL ?_
  refine lr_z_arg C (j := 2) lr_d_L_283 lr_d_L_284 lr_d_L_285 lr_d_L_286 lr_d_L_287 rfl (by omega) hL ?_
  refine lr_z_callm C (as := [xs (i + 1), xs (i + 2)]) (st := [.int r]) (lr_r_M_drop h2) lr_cL_31 lr_d_L_288 rfl rfl rfl (by decide) (Nat.le_of_ble_eq_true rfl) ?_
  exact lr_z_eq C (tgt := 751) lr_d_L_291 rfl (kk _ _ R2)
theorem lr_case_4 {Z : lr_Z} {L q i c : Nat} {xs : Nat → Int32} {tx tm : lr_S} (C : lr_ZC Z L xs q) (hL : L ≤ 320) (hi : i + 5 ≤ L) (R : lr_RX c tx tm) (hc : c < 64) (kk : ∀ tx' tm', lr_RX (c + 1) tx' tm' → lr_V2 Z 751 i [] tx' tm') : lr_V2 Z 296 i [] tx tm := by
  obtain ⟨r, a2, b2, h1, h2, R2⟩ := lr_sim_pass (xs (i + 1)) (xs (i + 2)) (xs (i + 3)) (xs (i + 4)) c tx tm R hc
  refine lr_z_ax C lr_d_L_296 ?_
  refine lr_z_arg C (j := 1) lr_d_L_297 lr_d_L_298 lr_d_L_299 lr_d_L_300 lr_d_L_301 rfl (by omega) hL ?_
  refine lr_z_arg C (j := 2) lr_d_L_302 lr_d_L_303 lr_d_L_304 lr_d_L_305 lr_d_L_306 rfl (by omega) hL ?_
  refine lr_z_arg C (j := 3) lr_d_L_307 lr_d_L_308 lr_d_L_309 lr_d_L_310 lr_d_L_311 rfl (by omega) hL ?_
  refine lr_z_arg C (j := 4) lr_d_L_312 lr_d_L_313 lr_d_L_314 lr_d_L_315 lr_d_L_316 rfl (by omega) hL ?_
  refine lr_z_callx C (as := [xs (i + 1), xs (i + 2), xs (i + 3), xs (i + 4)]) (st := []) (lr_r_X_pass h1) lr_cL_32 lr_d_L_317 rfl rfl rfl (by decide) (Nat.le_of_ble_eq_true rfl) ?_
  refine lr_z_am C lr_d_L_320 ?_
  refine lr_z_arg C (j := 1) lr_d_L_321 lr_d_L_322 lr_d_L_323 lr_d_L_324 lr_d_L_325 rfl (by omega) hL ?_
  refine lr_z_arg C (j := 2) lr_d_L_326 lr_d_L_327 lr_d_L_328 lr_d_L_329 lr_d_L_330 rfl (by omega) hL ?_
  refine lr_z_arg C (j := 3) lr_d_L_331 lr_d_L_332 lr_d_L_333 lr_d_L_334 lr_d_L_335 rfl (by omega) hL ?_
  refine lr_z_arg C (j := 4) lr_d_L_336 lr_d_L_337 lr_d_L_338 lr_d_L_339 lr_d_L_340 rfl (by omega) hL ?_
  refine lr_z_callm C (as := [xs (i + 1), xs (i + 2), xs (i + 3), xs (i + 4)]) (st := [.int r]) (lr_r_M_pass h2) lr_cL_36 lr_d_L_341 rfl rfl rfl (by decide) (Nat.le_of_ble_eq_true rfl) ?_
  exact lr_z_eq C (tgt := 751) lr_d_L_344 rfl (kk _ _ R2)
theorem lr_case_5 {Z : lr_Z} {L q i c : Nat} {xs : Nat → Int32} {tx tm : lr_S} (C : lr_ZC Z L xs q) (hL : L ≤ 320) (hi : i + 5 ≤ L) (R : lr_RX c tx tm) (hc : c < 64) (kk : ∀ tx' tm', lr_RX (c + 1) tx' tm' → lr_V2 Z 751 i [] tx' tm') : lr_V2 Z 349 i [] tx tm := by
  obtain ⟨r, a2, b2, h1, h2, R2⟩ := lr_sim_call (xs (i + 1)) (xs (i + 2)) (xs (i + 3)) c tx tm R hc
  refine lr_z_ax C lr_d_L_349 ?_
  refine lr_z_arg C (j := 1) lr_d_L_350 lr_d_L_351 lr_d_L_352 lr_d_L_353 lr_d_L_354 rfl (by omega) hL ?_
  refine lr_z_arg C (j := 2) lr_d_L_355 lr_d_L_356 lr_d_L_357 lr_d_L_358 lr_d_L_359 rfl (by omega) hL ?_
  refine lr_z_arg C (j := 3) lr_d_L_360 lr_d_L_361 lr_d_L_362 lr_d_L_363 lr_d_L_364 rfl (by omega) hL ?_
  refine lr_z_callx C (as := [xs (i + 1), xs (i + 2), xs (i + 3)]) (st := []) (lr_r_X_call h1) lr_cL_37 lr_d_L_365 rfl rfl rfl (by decide) (Nat.le_of_ble_eq_true rfl) ?_
  refine lr_z_am C lr_d_L_368 ?_
  refine lr_z_arg C (j := 1) lr_d_L_369 lr_d_L_370 lr_d_L_371 lr_d_L_372 lr_d_L_373 rfl (by omega) hL ?_
  refine lr_z_arg C (j := 2) lr_d_L_374 lr_d_L_375 lr_d_L_376 lr_d_L_377 lr_d_L_378 rfl (by omega) hL ?_
  refine lr_z_arg C (j := 3) lr_d_L_379 lr_d_L_380 lr_d_L_381 lr_d_L_382 lr_d_L_383 rfl (by omega) hL ?_
  refine lr_z_callm C (as := [xs (i + 1), xs (i + 2), xs (i + 3)]) (st := [.int r]) (lr_r_M_call h2) lr_cL_41 lr_d_L_384 rfl rfl rfl (by decide) (Nat.le_of_ble_eq_true rfl) ?_
  exact lr_z_eq C (tgt := 751) lr_d_L_387 rfl (kk _ _ R2)
theorem lr_case_6 {Z : lr_Z} {L q i c : Nat} {xs : Nat → Int32} {tx tm : lr_S} (C : lr_ZC Z L xs q) (hL : L ≤ 320) (hi : i + 5 ≤ L) (R : lr_RX c tx tm) (hc : c < 64) (kk : ∀ tx' tm', lr_RX (c + 1) tx' tm' → lr_V2 Z 751 i [] tx' tm') : lr_V2 Z 392 i [] tx tm := by
  obtain ⟨r, a2, b2, h1, h2, R2⟩ := lr_sim_deliver (xs (i + 1)) c tx tm R hc
  refine lr_z_ax C lr_d_L_392 ?_
  refine lr_z_arg C (j := 1) lr_d_L_393 lr_d_L_394 lr_d_L_395 lr_d_L_396 lr_d_L_397 rfl (by omega) hL ?_
  refine lr_z_callx C (as := [xs (i + 1)]) (st := []) (lr_r_X_deliver h1) lr_cL_42 lr_d_L_398 rfl rfl rfl (by decide) (Nat.le_of_ble_eq_true rfl) ?_
  refine lr_z_am C lr_d_L_401 ?_
  refine lr_z_arg C (j := 1) lr_d_L_402 lr_d_L_403 lr_d_L_404 lr_d_L_405 lr_d_L_406 rfl (by omega) hL ?_
  refine lr_z_callm C (as := [xs (i + 1)]) (st := [.int r]) (lr_r_M_deliver h2) lr_cL_46 lr_d_L_407 rfl rfl rfl (by decide) (Nat.le_of_ble_eq_true rfl) ?_
  exact lr_z_eq C (tgt := 751) lr_d_L_410 rfl (kk _ _ R2)
theorem lr_case_7 {Z : lr_Z} {L q i c : Nat} {xs : Nat → Int32} {tx tm : lr_S} (C : lr_ZC Z L xs q) (hL : L ≤ 320) (hi : i + 5 ≤ L) (R : lr_RX c tx tm) (hc : c < 64) (kk : ∀ tx' tm', lr_RX (c + 1) tx' tm' → lr_V2 Z 751 i [] tx' tm') : lr_V2 Z 415 i [] tx tm := by
  obtain ⟨r, a2, b2, h1, h2, R2⟩ := lr_sim_lose (xs (i + 1)) c tx tm R hc
  refine lr_z_ax C lr_d_L_415 ?_
  refine lr_z_arg C (j := 1) lr_d_L_416 lr_d_L_417 lr_d_L_418 lr_d_L_419 lr_d_L_420 rfl (by omega) hL ?_
  refine lr_z_callx C (as := [xs (i + 1)]) (st := []) (lr_r_X_lose h1) lr_cL_47 lr_d_L_421 rfl rfl rfl (by decide) (Nat.le_of_ble_eq_true rfl) ?_
  refine lr_z_am C lr_d_L_424 ?_
  refine lr_z_arg C (j := 1) lr_d_L_425 lr_d_L_426 lr_d_L_427 lr_d_L_428 lr_d_L_429 rfl (by omega) hL ?_
  refine lr_z_callm C (as := [xs (i + 1)]) (st := [.int r]) (lr_r_M_lose h2) lr_cL_51 lr_d_L_430 rfl rfl rfl (by decide) (Nat.le_of_ble_eq_true rfl) ?_
  exact lr_z_eq C (tgt := 751) lr_d_L_433 rfl (kk _ _ R2)
theorem lr_case_8 {Z : lr_Z} {L q i c : Nat} {xs : Nat → Int32} {tx tm : lr_S} (C : lr_ZC Z L xs q) (hL : L ≤ 320) (hi : i + 5 ≤ L) (R : lr_RX c tx tm) (hc : c < 64) (kk : ∀ tx' tm', lr_RX (c + 1) tx' tm' → lr_V2 Z 751 i [] tx' tm') : lr_V2 Z 438 i [] tx tm := by
  obtain ⟨r, a2, b2, h1, h2, R2⟩ := lr_sim_copy (xs (i + 1)) c tx tm R hc
  refine lr_z_ax C lr_d_L_438 ?_
  refine lr_z_arg C (j := 1) lr_d_L_439 lr_d_L_440 lr_d_L_441 lr_d_L_442 lr_d_L_443 rfl (by omega) hL ?_
  refine lr_z_callx C (as := [xs (i + 1)]) (st := []) (lr_r_X_copy h1) lr_cL_52 lr_d_L_444 rfl rfl rfl (by decide) (Nat.le_of_ble_eq_true rfl) ?_
  refine lr_z_am C lr_d_L_447 ?_
  refine lr_z_arg C (j := 1) lr_d_L_448 lr_d_L_449 lr_d_L_450 lr_d_L_451 lr_d_L_452 rfl (by omega) hL ?_
  refine lr_z_callm C (as := [xs (i + 1)]) (st := [.int r]) (lr_r_M_copy h2) lr_cL_55 lr_d_L_453 rfl rfl rfl (by decide) (Nat.le_of_ble_eq_true rfl) ?_
  exact lr_z_eq C (tgt := 751) lr_d_L_456 rfl (kk _ _ R2)
theorem lr_case_9 {Z : lr_Z} {L q i c : Nat} {xs : Nat → Int32} {tx tm : lr_S} (C : lr_ZC Z L xs q) (hL : L ≤ 320) (hi : i + 5 ≤ L) (R : lr_RX c tx tm) (hc : c < 64) (kk : ∀ tx' tm', lr_RX (c + 1) tx' tm' → lr_V2 Z 751 i [] tx' tm') : lr_V2 Z 461 i [] tx tm := by
  obtain ⟨r, a2, b2, h1, h2, R2⟩ := lr_sim_tick (xs (i + 1)) c tx tm R hc
  refine lr_z_ax C lr_d_L_461 ?_
  refine lr_z_arg C (j := 1) lr_d_L_462 lr_d_L_463 lr_d_L_464 lr_d_L_465 lr_d_L_466 rfl (by omega) hL ?_
  refine lr_z_callx C (as := [xs (i + 1)]) (st := []) (lr_r_X_tick h1) lr_cL_56 lr_d_L_467 rfl rfl rfl (by decide) (Nat.le_of_ble_eq_true rfl) ?_
  refine lr_z_am C lr_d_L_470 ?_
  refine lr_z_arg C (j := 1) lr_d_L_471 lr_d_L_472 lr_d_L_473 lr_d_L_474 lr_d_L_475 rfl (by omega) hL ?_
  refine lr_z_callm C (as := [xs (i + 1)]) (st := [.int r]) (lr_r_M_tick h2) lr_cL_59 lr_d_L_476 rfl rfl rfl (by decide) (Nat.le_of_ble_eq_true rfl) ?_
  exact lr_z_eq C (tgt := 751) lr_d_L_479 rfl (kk _ _ R2)
theorem lr_case_10 {Z : lr_Z} {L q i c : Nat} {xs : Nat → Int32} {tx tm : lr_S} (C : lr_ZC Z L xs q) (hL : L ≤ 320) (hi : i + 5 ≤ L) (R : lr_RX c tx tm) (hc : c < 64) (kk : ∀ tx' tm', lr_RX (c + 1) tx' tm' → lr_V2 Z 751 i [] tx' tm') : lr_V2 Z 484 i [] tx tm := by
  obtain ⟨r, a2, b2, h1, h2, R2⟩ := lr_sim_collect (xs (i + 1)) c tx tm R hc
  refine lr_z_ax C lr_d_L_484 ?_
  refine lr_z_arg C (j := 1) lr_d_L_485 lr_d_L_486 lr_d_L_487 lr_d_L_488 lr_d_L_489 rfl (by omega) hL ?_
  refine lr_z_callx C (as := [xs (i + 1)]) (st := []) (lr_r_X_collect h1) lr_cL_60 lr_d_L_490 rfl rfl rfl (by decide) (Nat.le_of_ble_eq_true rfl) ?_
  refine lr_z_am C lr_d_L_493 ?_
  refine lr_z_arg C (j := 1) lr_d_L_494 lr_d_L_495 lr_d_L_496 lr_d_L_497 lr_d_L_498 rfl (by omega) hL ?_
  refine lr_z_callm C (as := [xs (i + 1)]) (st := [.int r]) (lr_r_M_collect h2) lr_cL_63 lr_d_L_499 rfl rfl rfl (by decide) (Nat.le_of_ble_eq_true rfl) ?_
  exact lr_z_eq C (tgt := 751) lr_d_L_502 rfl (kk _ _ R2)
theorem lr_case_11 {Z : lr_Z} {L q i c : Nat} {xs : Nat → Int32} {tx tm : lr_S} (C : lr_ZC Z L xs q) (hL : L ≤ 320) (hi : i + 5 ≤ L) (R : lr_RX c tx tm) (hc : c < 64) (kk : ∀ tx' tm', lr_RX (c + 1) tx' tm' → lr_V2 Z 751 i [] tx' tm') : lr_V2 Z 507 i [] tx tm := by
  obtain ⟨r, a2, b2, h1, h2, R2⟩ := lr_sim_crash (xs (i + 1)) c tx tm R hc
  refine lr_z_ax C lr_d_L_507 ?_
  refine lr_z_arg C (j := 1) lr_d_L_508 lr_d_L_509 lr_d_L_510 lr_d_L_511 lr_d_L_512 rfl (by omega) hL ?_
  refine lr_z_callx C (as := [xs (i + 1)]) (st := []) (lr_r_X_crash h1) lr_cL_64 lr_d_L_513 rfl rfl rfl (by decide) (Nat.le_of_ble_eq_true rfl) ?_
  refine lr_z_am C lr_d_L_516 ?_
  refine lr_z_arg C (j := 1) lr_d_L_517 lr_d_L_518 lr_d_L_519 lr_d_L_520 lr_d_L_521 rfl (by omega) hL ?_
  refine lr_z_callm C (as := [xs (i + 1)]) (st := [.int r]) (lr_r_M_crash h2) lr_cL_67 lr_d_L_522 rfl rfl rfl (by decide) (Nat.le_of_ble_eq_true rfl) ?_
  exact lr_z_eq C (tgt := 751) lr_d_L_525 rfl (kk _ _ R2)
theorem lr_case_12 {Z : lr_Z} {L q i c : Nat} {xs : Nat → Int32} {tx tm : lr_S} (C : lr_ZC Z L xs q) (hL : L ≤ 320) (hi : i + 5 ≤ L) (R : lr_RX c tx tm) (hc : c < 64) (kk : ∀ tx' tm', lr_RX (c + 1) tx' tm' → lr_V2 Z 751 i [] tx' tm') : lr_V2 Z 530 i [] tx tm := by
  obtain ⟨r, a2, b2, h1, h2, R2⟩ := lr_sim_flight c tx tm R hc
  refine lr_z_ax C lr_d_L_530 ?_
  refine lr_z_callx C (as := []) (st := []) (lr_r_X_flight h1) lr_cL_68 lr_d_L_531 rfl rfl rfl (by decide) (Nat.le_of_ble_eq_true rfl) ?_
  refine lr_z_am C lr_d_L_534 ?_
  refine lr_z_callm C (as := []) (st := [.int r]) (lr_r_M_flight h2) lr_cL_72 lr_d_L_535 rfl rfl rfl (by decide) (Nat.le_of_ble_eq_true rfl) ?_
  exact lr_z_eq C (tgt := 751) lr_d_L_538 rfl (kk _ _ R2)
theorem lr_case_13 {Z : lr_Z} {L q i c : Nat} {xs : Nat → Int32} {tx tm : lr_S} (C : lr_ZC Z L xs q) (hL : L ≤ 320) (hi : i + 5 ≤ L) (R : lr_RX c tx tm) (hc : c < 64) (kk : ∀ tx' tm', lr_RX (c + 1) tx' tm' → lr_V2 Z 751 i [] tx' tm') : lr_V2 Z 543 i [] tx tm := by
  obtain ⟨r, a2, b2, h1, h2, R2⟩ := lr_sim_message (xs (i + 1)) (xs (i + 2)) c tx tm R hc
  refine lr_z_ax C lr_d_L_543 ?_
  refine lr_z_arg C (j := 1) lr_d_L_544 lr_d_L_545 lr_d_L_546 lr_d_L_547 lr_d_L_548 rfl (by omega) hL ?_
  refine lr_z_arg C (j := 2) lr_d_L_549 lr_d_L_550 lr_d_L_551 lr_d_L_552 lr_d_L_553 rfl (by omega) hL ?_
  refine lr_z_callx C (as := [xs (i + 1), xs (i + 2)]) (st := []) (lr_r_X_message h1) lr_cL_73 lr_d_L_554 rfl rfl rfl (by decide) (Nat.le_of_ble_eq_true rfl) ?_
  refine lr_z_am C lr_d_L_557 ?_
  refine lr_z_arg C (j := 1) lr_d_L_558 lr_d_L_559 lr_d_L_560 lr_d_L_561 lr_d_L_562 rfl (by omega) hL ?_
  refine lr_z_arg C (j := 2) lr_d_L_563 lr_d_L_564 lr_d_L_565 lr_d_L_566 lr_d_L_567 rfl (by omega) hL ?_
  refine lr_z_callm C (as := [xs (i + 1), xs (i + 2)]) (st := [.int r]) (lr_r_M_message h2) lr_cL_76 lr_d_L_568 rfl rfl rfl (by decide) (Nat.le_of_ble_eq_true rfl) ?_
  exact lr_z_eq C (tgt := 751) lr_d_L_571 rfl (kk _ _ R2)
theorem lr_case_14 {Z : lr_Z} {L q i c : Nat} {xs : Nat → Int32} {tx tm : lr_S} (C : lr_ZC Z L xs q) (hL : L ≤ 320) (hi : i + 5 ≤ L) (R : lr_RX c tx tm) (hc : c < 64) (kk : ∀ tx' tm', lr_RX (c + 1) tx' tm' → lr_V2 Z 751 i [] tx' tm') : lr_V2 Z 576 i [] tx tm := by
  obtain ⟨r, a2, b2, h1, h2, R2⟩ := lr_sim_root (xs (i + 1)) (xs (i + 2)) c tx tm R hc
  refine lr_z_ax C lr_d_L_576 ?_
  refine lr_z_arg C (j := 1) lr_d_L_577 lr_d_L_578 lr_d_L_579 lr_d_L_580 lr_d_L_581 rfl (by omega) hL ?_
  refine lr_z_arg C (j := 2) lr_d_L_582 lr_d_L_583 lr_d_L_584 lr_d_L_585 lr_d_L_586 rfl (by omega) hL ?_
  refine lr_z_callx C (as := [xs (i + 1), xs (i + 2)]) (st := []) (lr_r_X_root h1) lr_cL_77 lr_d_L_587 rfl rfl rfl (by decide) (Nat.le_of_ble_eq_true rfl) ?_
  refine lr_z_am C lr_d_L_590 ?_
  refine lr_z_arg C (j := 1) lr_d_L_591 lr_d_L_592 lr_d_L_593 lr_d_L_594 lr_d_L_595 rfl (by omega) hL ?_
  refine lr_z_arg C (j := 2) lr_d_L_596 lr_d_L_597 lr_d_L_598 lr_d_L_599 lr_d_L_600 rfl (by omega) hL ?_
  refine lr_z_callm C (as := [xs (i + 1), xs (i + 2)]) (st := [.int r]) (lr_r_M_root h2) lr_cL_80 lr_d_L_601 rfl rfl rfl (by decide) (Nat.le_of_ble_eq_true rfl) ?_
  exact lr_z_eq C (tgt := 751) lr_d_L_604 rfl (kk _ _ R2)
theorem lr_case_15 {Z : lr_Z} {L q i c : Nat} {xs : Nat → Int32} {tx tm : lr_S} (C : lr_ZC Z L xs q) (hL : L ≤ 320) (hi : i + 5 ≤ L) (R : lr_RX c tx tm) (hc : c < 64) (kk : ∀ tx' tm', lr_RX (c + 1) tx' tm' → lr_V2 Z 751 i [] tx' tm') : lr_V2 Z 609 i [] tx tm := by
  obtain ⟨r, a2, b2, h1, h2, R2⟩ := lr_sim_slot (xs (i + 1)) (xs (i + 2)) (xs (i + 3)) c tx tm R hc
  refine lr_z_ax C lr_d_L_609 ?_
  refine lr_z_arg C (j := 1) lr_d_L_610 lr_d_L_611 lr_d_L_612 lr_d_L_613 lr_d_L_614 rfl (by omega) hL ?_
  refine lr_z_arg C (j := 2) lr_d_L_615 lr_d_L_616 lr_d_L_617 lr_d_L_618 lr_d_L_619 rfl (by omega) hL ?_
  refine lr_z_arg C (j := 3) lr_d_L_620 lr_d_L_621 lr_d_L_622 lr_d_L_623 lr_d_L_624 rfl (by omega) hL ?_
  refine lr_z_callx C (as := [xs (i + 1), xs (i + 2), xs (i + 3)]) (st := []) (lr_r_X_slot h1) lr_cL_81 lr_d_L_625 rfl rfl rfl (by decide) (Nat.le_of_ble_eq_true rfl) ?_
  refine lr_z_am C lr_d_L_628 ?_
  refine lr_z_arg C (j := 1) lr_d_L_629 lr_d_L_630 lr_d_L_631 lr_d_L_632 lr_d_L_633 rfl (by omega) hL ?_
  refine lr_z_arg C (j := 2) lr_d_L_634 lr_d_L_635 lr_d_L_636 lr_d_L_637 lr_d_L_638 rfl (by omega) hL ?_
  refine lr_z_arg C (j := 3) lr_d_L_639 lr_d_L_640 lr_d_L_641 lr_d_L_642 lr_d_L_643 rfl (by omega) hL ?_
  refine lr_z_callm C (as := [xs (i + 1), xs (i + 2), xs (i + 3)]) (st := [.int r]) (lr_r_M_slot h2) lr_cL_84 lr_d_L_644 rfl rfl rfl (by decide) (Nat.le_of_ble_eq_true rfl) ?_
  exact lr_z_eq C (tgt := 751) lr_d_L_647 rfl (kk _ _ R2)
theorem lr_case_16 {Z : lr_Z} {L q i c : Nat} {xs : Nat → Int32} {tx tm : lr_S} (C : lr_ZC Z L xs q) (hL : L ≤ 320) (hi : i + 5 ≤ L) (R : lr_RX c tx tm) (hc : c < 64) (kk : ∀ tx' tm', lr_RX (c + 1) tx' tm' → lr_V2 Z 751 i [] tx' tm') : lr_V2 Z 652 i [] tx tm := by
  obtain ⟨r, a2, b2, h1, h2, R2⟩ := lr_sim_listing (xs (i + 1)) (xs (i + 2)) (xs (i + 3)) c tx tm R hc
  refine lr_z_ax C lr_d_L_652 ?_
  refine lr_z_arg C (j := 1) lr_d_L_653 lr_d_L_654 lr_d_L_655 lr_d_L_656 lr_d_L_657 rfl (by omega) hL ?_
  refine lr_z_arg C (j := 2) lr_d_L_658 lr_d_L_659 lr_d_L_660 lr_d_L_661 lr_d_L_662 rfl (by omega) hL ?_
  refine lr_z_arg C (j := 3) lr_d_L_663 lr_d_L_664 lr_d_L_665 lr_d_L_666 lr_d_L_667 rfl (by omega) hL ?_
  refine lr_z_callx C (as := [xs (i + 1), xs (i + 2), xs (i + 3)]) (st := []) (lr_r_X_listing h1) lr_cL_85 lr_d_L_668 rfl rfl rfl (by decide) (Nat.le_of_ble_eq_true rfl) ?_
  refine lr_z_am C lr_d_L_671 ?_
  refine lr_z_arg C (j := 1) lr_d_L_672 lr_d_L_673 lr_d_L_674 lr_d_L_675 lr_d_L_676 rfl (by omega) hL ?_
  refine lr_z_arg C (j := 2) lr_d_L_677 lr_d_L_678 lr_d_L_679 lr_d_L_680 lr_d_L_681 rfl (by omega) hL ?_
  refine lr_z_arg C (j := 3) lr_d_L_682 lr_d_L_683 lr_d_L_684 lr_d_L_685 lr_d_L_686 rfl (by omega) hL ?_
  refine lr_z_callm C (as := [xs (i + 1), xs (i + 2), xs (i + 3)]) (st := [.int r]) (lr_r_M_listing h2) lr_cL_88 lr_d_L_687 rfl rfl rfl (by decide) (Nat.le_of_ble_eq_true rfl) ?_
  exact lr_z_eq C (tgt := 751) lr_d_L_690 rfl (kk _ _ R2)
theorem lr_case_17 {Z : lr_Z} {L q i c : Nat} {xs : Nat → Int32} {tx tm : lr_S} (C : lr_ZC Z L xs q) (hL : L ≤ 320) (hi : i + 5 ≤ L) (R : lr_RX c tx tm) (hc : c < 64) (kk : ∀ tx' tm', lr_RX (c + 1) tx' tm' → lr_V2 Z 751 i [] tx' tm') : lr_V2 Z 695 i [] tx tm := by
  obtain ⟨r, a2, b2, h1, h2, R2⟩ := lr_sim_pins (xs (i + 1)) c tx tm R hc
  refine lr_z_ax C lr_d_L_695 ?_
  refine lr_z_arg C (j := 1) lr_d_L_696 lr_d_L_697 lr_d_L_698 lr_d_L_699 lr_d_L_700 rfl (by omega) hL ?_
  refine lr_z_callx C (as := [xs (i + 1)]) (st := []) (lr_r_X_pins h1) lr_cL_89 lr_d_L_701 rfl rfl rfl (by decide) (Nat.le_of_ble_eq_true rfl) ?_
  refine lr_z_am C lr_d_L_704 ?_
  refine lr_z_arg C (j := 1) lr_d_L_705 lr_d_L_706 lr_d_L_707 lr_d_L_708 lr_d_L_709 rfl (by omega) hL ?_
  refine lr_z_callm C (as := [xs (i + 1)]) (st := [.int r]) (lr_r_M_pins h2) lr_cL_92 lr_d_L_710 rfl rfl rfl (by decide) (Nat.le_of_ble_eq_true rfl) ?_
  exact lr_z_eq C (tgt := 751) lr_d_L_713 rfl (kk _ _ R2)
theorem lr_case_18 {Z : lr_Z} {L q i c : Nat} {xs : Nat → Int32} {tx tm : lr_S} (C : lr_ZC Z L xs q) (hL : L ≤ 320) (hi : i + 5 ≤ L) (R : lr_RX c tx tm) (hc : c < 64) (kk : ∀ tx' tm', lr_RX (c + 1) tx' tm' → lr_V2 Z 751 i [] tx' tm') : lr_V2 Z 718 i [] tx tm := by
  obtain ⟨r, a2, b2, h1, h2, R2⟩ := lr_sim_outcome (xs (i + 1)) (xs (i + 2)) c tx tm R hc
  refine lr_z_ax C lr_d_L_718 ?_
  refine lr_z_arg C (j := 1) lr_d_L_719 lr_d_L_720 lr_d_L_721 lr_d_L_722 lr_d_L_723 rfl (by omega) hL ?_
  refine lr_z_arg C (j := 2) lr_d_L_724 lr_d_L_725 lr_d_L_726 lr_d_L_727 lr_d_L_728 rfl (by omega) hL ?_
  refine lr_z_callx C (as := [xs (i + 1), xs (i + 2)]) (st := []) (lr_r_X_outcome h1) lr_cL_93 lr_d_L_729 rfl rfl rfl (by decide) (Nat.le_of_ble_eq_true rfl) ?_
  refine lr_z_am C lr_d_L_732 ?_
  refine lr_z_arg C (j := 1) lr_d_L_733 lr_d_L_734 lr_d_L_735 lr_d_L_736 lr_d_L_737 rfl (by omega) hL ?_
  refine lr_z_arg C (j := 2) lr_d_L_738 lr_d_L_739 lr_d_L_740 lr_d_L_741 lr_d_L_742 rfl (by omega) hL ?_
  refine lr_z_callm C (as := [xs (i + 1), xs (i + 2)]) (st := [.int r]) (lr_r_M_outcome h2) lr_cL_96 lr_d_L_743 rfl rfl rfl (by decide) (Nat.le_of_ble_eq_true rfl) ?_
  exact lr_z_eq C (tgt := 751) lr_d_L_746 rfl (kk _ _ R2)
theorem lr_lt19 {j : Nat} (h : j < 19) : j = 0 ∨ j = 1 ∨ j = 2 ∨ j = 3 ∨ j = 4 ∨ j = 5 ∨ j = 6 ∨ j = 7 ∨ j = 8 ∨ j = 9 ∨ j = 10 ∨ j = 11 ∨ j = 12 ∨ j = 13 ∨ j = 14 ∨ j = 15 ∨ j = 16 ∨ j = 17 ∨ j = 18 := by omega
set_option maxHeartbeats 4000000 in
theorem lr_z_loop {Z : lr_Z} {L q : Nat} {xs : Nat → Int32} (C : lr_ZC Z L xs q) (hL : L ≤ 320) : ∀ (d c : Nat) (tx tm : lr_S), c + d = 65 → lr_RX c tx tm → lr_V2 Z 18 (5 * c) [] tx tm := by
  intro d
  induction d with
  | zero =>
    intro c tx tm hd R
    exact lr_z_head C hL (by omega) (fun _ => lr_z_out C) (fun h => absurd h (by omega))
  | succ d ih =>
    intro c tx tm hd R
    refine lr_z_head C hL (by omega) (fun _ => lr_z_out C) (fun h => ?_)
    have hc : c < 64 := by omega
    have kk : ∀ tx' tm', lr_RX (c + 1) tx' tm' → lr_V2 Z 751 (5 * c) [] tx' tm' := fun tx' tm' R' => lr_z_next C (by
      rw [show 5 * c + 5 = 5 * (c + 1) by omega]
      exact ih (c + 1) tx' tm' (by omega) R')
    obtain ⟨n, hn, hv⟩ := lr_and31 (xs (5 * c))
    rw [hv]
    by_cases h19 : n < 19
    · rcases lr_lt19 h19 with rfl | rfl | rfl | rfl | rfl | rfl | rfl | rfl | rfl | rfl | rfl | rfl | rfl | rfl | rfl | rfl | rfl | rfl | rfl
      · exact lr_z_in C (n := 0) (off := 92) (tgt := 124) rfl rfl rfl rfl (lr_case_0 C hL h R hc kk)
      · exact lr_z_in C (n := 1) (off := 125) (tgt := 157) rfl rfl rfl rfl (lr_case_1 C hL h R hc kk)
      · exact lr_z_in C (n := 2) (off := 178) (tgt := 210) rfl rfl rfl rfl (lr_case_2 C hL h R hc kk)
      · exact lr_z_in C (n := 3) (off := 231) (tgt := 263) rfl rfl rfl rfl (lr_case_3 C hL h R hc kk)
      · exact lr_z_in C (n := 4) (off := 264) (tgt := 296) rfl rfl rfl rfl (lr_case_4 C hL h R hc kk)
      · exact lr_z_in C (n := 5) (off := 317) (tgt := 349) rfl rfl rfl rfl (lr_case_5 C hL h R hc kk)
      · exact lr_z_in C (n := 6) (off := 360) (tgt := 392) rfl rfl rfl rfl (lr_case_6 C hL h R hc kk)
      · exact lr_z_in C (n := 7) (off := 383) (tgt := 415) rfl rfl rfl rfl (lr_case_7 C hL h R hc kk)
      · exact lr_z_in C (n := 8) (off := 406) (tgt := 438) rfl rfl rfl rfl (lr_case_8 C hL h R hc kk)
      · exact lr_z_in C (n := 9) (off := 429) (tgt := 461) rfl rfl rfl rfl (lr_case_9 C hL h R hc kk)
      · exact lr_z_in C (n := 10) (off := 452) (tgt := 484) rfl rfl rfl rfl (lr_case_10 C hL h R hc kk)
      · exact lr_z_in C (n := 11) (off := 475) (tgt := 507) rfl rfl rfl rfl (lr_case_11 C hL h R hc kk)
      · exact lr_z_in C (n := 12) (off := 498) (tgt := 530) rfl rfl rfl rfl (lr_case_12 C hL h R hc kk)
      · exact lr_z_in C (n := 13) (off := 511) (tgt := 543) rfl rfl rfl rfl (lr_case_13 C hL h R hc kk)
      · exact lr_z_in C (n := 14) (off := 544) (tgt := 576) rfl rfl rfl rfl (lr_case_14 C hL h R hc kk)
      · exact lr_z_in C (n := 15) (off := 577) (tgt := 609) rfl rfl rfl rfl (lr_case_15 C hL h R hc kk)
      · exact lr_z_in C (n := 16) (off := 620) (tgt := 652) rfl rfl rfl rfl (lr_case_16 C hL h R hc kk)
      · exact lr_z_in C (n := 17) (off := 663) (tgt := 695) rfl rfl rfl rfl (lr_case_17 C hL h R hc kk)
      · exact lr_z_in C (n := 18) (off := 686) (tgt := 718) rfl rfl rfl rfl (lr_case_18 C hL h R hc kk)
    · refine lr_z_df C (by omega) (by omega) (kk tx tm ?_)
      obtain ⟨ns, np, cnt, tt, ow, R⟩ := R
      exact ⟨ns, np, cnt, tt, ow, lr_up R hc⟩
