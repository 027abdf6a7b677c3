set_option maxRecDepth 20000 in
theorem rf_2 {X : mw_X} (hX : mw_Ok RL cL_refuses 14 700 4300 X) {I : mw_I} {L : mw_L} (kk : mw_G X 29 [some (.ref 0), some (.int (I 0 6)), some (.int (waterV I (7 + 11 * 0))), some (.int (I (7 + 11 * 0) 15)), some (.int (-8002)), some (.int (2147483647)), some (.int (nI 3)), none, none, none, none, none, none, none] [] mw_Y0 I L 482 2892) : mw_G X 29 [some (.ref 0), some (.int (I 0 6)), some (.int (waterV I (7 + 11 * 0))), some (.int (I (7 + 11 * 0) 15)), some (.int (-8002)), some (.int (2147483647)), some (.int (nI 2)), none, none, none, none, none, none, none] [] mw_Y0 I L 322 1932 := by
  refine mw_iload hX dL_refuses_29 rfl ?_
  refine mw_ic hX (nI 4) dL_refuses_31 rfl ?_
  refine mw_icmp_ge hX (tgt := 908) dL_refuses_32 (by decide) (fun h => absurd h (by decide)) (fun _ => ?_)
  refine mw_iload hX dL_refuses_35 rfl ?_
  refine mw_if_ne hX (tgt := 44) dL_refuses_37 (by decide) (fun _ => ?_) (fun h => absurd h (by decide))
  refine mw_iload hX dL_refuses_44 rfl ?_
  refine mw_ic hX (nI 2) dL_refuses_46 rfl ?_
  refine mw_icmp_ne hX (tgt := 55) dL_refuses_47 (by decide) (fun h => absurd h (by decide)) (fun _ => ?_)
  refine mw_iload hX dL_refuses_50 rfl ?_
  refine mw_goto hX (tgt := 60) dL_refuses_52 (by decide) ?_
  refine mw_istore hX dL_refuses_60 (Nat.le_of_ble_eq_true rfl) ?_
  dsimp only [List.set]
  refine mw_iload hX dL_refuses_62 rfl ?_
  refine mw_ic hX (nI 1) dL_refuses_64 rfl ?_
  refine mw_icmp_ne hX (tgt := 72) dL_refuses_65 (by decide) (fun _ => ?_) (fun h => absurd h (by decide))
  refine mw_iload hX dL_refuses_72 rfl ?_
  refine mw_istore hX dL_refuses_74 (Nat.le_of_ble_eq_true rfl) ?_
  dsimp only [List.set]
  refine mw_iload hX dL_refuses_76 rfl ?_
  refine mw_ic hX (nI 1) dL_refuses_78 rfl ?_
  refine mw_icmp_ne hX (tgt := 86) dL_refuses_79 (by decide) (fun _ => ?_) (fun h => absurd h (by decide))
  refine mw_iload hX dL_refuses_86 rfl ?_
  refine mw_istore hX dL_refuses_88 (Nat.le_of_ble_eq_true rfl) ?_
  dsimp only [List.set]
  refine mw_iload hX dL_refuses_90 rfl ?_
  refine mw_if_ne hX (tgt := 99) dL_refuses_92 (by decide) (fun _ => ?_) (fun h => absurd h (by decide))
  refine mw_iload hX dL_refuses_99 rfl ?_
  refine mw_ic hX (nI 1) dL_refuses_101 rfl ?_
  refine mw_icmp_ne hX (tgt := 110) dL_refuses_102 (by decide) (fun _ => ?_) (fun h => absurd h (by decide))
  refine mw_iload hX dL_refuses_110 rfl ?_
  refine mw_istore hX dL_refuses_112 (Nat.le_of_ble_eq_true rfl) ?_
  dsimp only [List.set]
  refine mw_iload hX dL_refuses_114 rfl ?_
  refine mw_if_ne hX (tgt := 123) dL_refuses_116 (by decide) (fun _ => ?_) (fun h => absurd h (by decide))
  refine mw_iload hX dL_refuses_123 rfl ?_
  refine mw_ic hX (nI 1) dL_refuses_125 rfl ?_
  refine mw_icmp_ne hX (tgt := 134) dL_refuses_126 (by decide) (fun _ => ?_) (fun h => absurd h (by decide))
  refine mw_iload hX dL_refuses_134 rfl ?_
  refine mw_istore hX dL_refuses_136 (Nat.le_of_ble_eq_true rfl) ?_
  dsimp only [List.set]
  refine mw_aload_n hX dL_refuses_138 rfl rfl ?_
  refine mw_iload hX dL_refuses_139 rfl ?_
  refine mw_ic hX (nI 5) dL_refuses_141 rfl ?_
  refine mw_ic hX (nI 5) dL_refuses_142 rfl ?_
  refine mw_ic hX (nI 5) dL_refuses_143 rfl ?_
  refine mw_cSH hX [_, _, _, _, _] ws_L_89 dL_refuses_144 (w_pondX (mw_l X) (2147483647) (nI 5) (nI 5) (nI 5) _ _ _ (by decide) (by decide) (by decide) (c_setPondX (mw_l X) (2147483647) (nI 5) (nI 5) (nI 5) (by unfold okR; decide) I L)) rfl (by decide) (Nat.le_of_ble_eq_true rfl) (Nat.le_of_ble_eq_true rfl) (Nat.le_of_ble_eq_true rfl) ?_
  refine mw_le (n' := 326) (k' := 1956) (Nat.le_of_ble_eq_true rfl) (Nat.le_of_ble_eq_true rfl) ?_
  refine mw_iload hX dL_refuses_147 rfl ?_
  refine mw_icmp_ne hX (tgt := 405) dL_refuses_149 (by decide) (fun h => absurd h (by decide)) (fun _ => ?_)
  refine mw_aload_n hX dL_refuses_152 rfl rfl ?_
  refine mw_ic hX (nI 0) dL_refuses_153 rfl ?_
  refine mw_iload hX dL_refuses_154 rfl ?_
  refine mw_if_ne hX (tgt := 163) dL_refuses_156 (by decide) (fun _ => ?_) (fun h => absurd h (by decide))
  refine mw_iload hX dL_refuses_163 rfl ?_
  refine mw_ic hX (nI 1) dL_refuses_165 rfl ?_
  refine mw_icmp_ne hX (tgt := 175) dL_refuses_166 (by decide) (fun _ => ?_) (fun h => absurd h (by decide))
  refine mw_iload hX dL_refuses_175 rfl ?_
  refine mw_ic hX (nI 5) dL_refuses_177 rfl ?_
  refine mw_ic hX (nI 5) dL_refuses_178 rfl ?_
  refine mw_cSH hX [_, _, _, _, _] ws_L_89 dL_refuses_179 (w_pondX (mw_l X) (nI 0) (2147483647) (nI 5) (nI 5) _ _ _ (by decide) (by decide) (by decide) (c_setPondX (mw_l X) (nI 0) (2147483647) (nI 5) (nI 5) (by unfold okR; decide) I L)) rfl (by decide) (Nat.le_of_ble_eq_true rfl) (Nat.le_of_ble_eq_true rfl) (Nat.le_of_ble_eq_true rfl) ?_
  refine mw_le (n' := 330) (k' := 1980) (Nat.le_of_ble_eq_true rfl) (Nat.le_of_ble_eq_true rfl) ?_
  refine mw_iload hX dL_refuses_182 rfl ?_
  refine mw_icmp_ne hX (tgt := 405) dL_refuses_184 (by decide) (fun h => absurd h (by decide)) (fun _ => ?_)
  refine mw_aload_n hX dL_refuses_187 rfl rfl ?_
  refine mw_ic hX (nI 0) dL_refuses_188 rfl ?_
  refine mw_ic hX (nI 5) dL_refuses_189 rfl ?_
  refine mw_iload hX dL_refuses_190 rfl ?_
  refine mw_ic hX (nI 1) dL_refuses_192 rfl ?_
  refine mw_icmp_ne hX (tgt := 201) dL_refuses_193 (by decide) (fun _ => ?_) (fun h => absurd h (by decide))
  refine mw_iload hX dL_refuses_201 rfl ?_
  refine mw_ic hX (nI 5) dL_refuses_203 rfl ?_
  refine mw_cSH hX [_, _, _, _, _] ws_L_89 dL_refuses_204 (w_pondX (mw_l X) (nI 0) (nI 5) (2147483647) (nI 5) _ _ _ (by decide) (by decide) (by decide) (c_setPondX (mw_l X) (nI 0) (nI 5) (2147483647) (nI 5) (by unfold okR; decide) I L)) rfl (by decide) (Nat.le_of_ble_eq_true rfl) (Nat.le_of_ble_eq_true rfl) (Nat.le_of_ble_eq_true rfl) ?_
  refine mw_le (n' := 334) (k' := 2004) (Nat.le_of_ble_eq_true rfl) (Nat.le_of_ble_eq_true rfl) ?_
  refine mw_iload hX dL_refuses_207 rfl ?_
  refine mw_icmp_ne hX (tgt := 405) dL_refuses_209 (by decide) (fun h => absurd h (by decide)) (fun _ => ?_)
  refine mw_aload_n hX dL_refuses_212 rfl rfl ?_
  refine mw_ic hX (nI 0) dL_refuses_213 rfl ?_
  refine mw_ic hX (nI 5) dL_refuses_214 rfl ?_
  refine mw_ic hX (nI 5) dL_refuses_215 rfl ?_
  refine mw_iload hX dL_refuses_216 rfl ?_
  refine mw_ic hX (nI 1) dL_refuses_218 rfl ?_
  refine mw_icmp_ne hX (tgt := 227) dL_refuses_219 (by decide) (fun _ => ?_) (fun h => absurd h (by decide))
  refine mw_iload hX dL_refuses_227 rfl ?_
  refine mw_cSH hX [_, _, _, _, _] ws_L_89 dL_refuses_229 (w_pondX (mw_l X) (nI 0) (nI 5) (nI 5) (2147483647) _ _ _ (by decide) (by decide) (by decide) (c_setPondX (mw_l X) (nI 0) (nI 5) (nI 5) (2147483647) (by unfold okR; decide) I L)) rfl (by decide) (Nat.le_of_ble_eq_true rfl) (Nat.le_of_ble_eq_true rfl) (Nat.le_of_ble_eq_true rfl) ?_
  refine mw_le (n' := 338) (k' := 2028) (Nat.le_of_ble_eq_true rfl) (Nat.le_of_ble_eq_true rfl) ?_
  refine mw_iload hX dL_refuses_232 rfl ?_
  refine mw_icmp_ne hX (tgt := 405) dL_refuses_234 (by decide) (fun h => absurd h (by decide)) (fun _ => ?_)
  refine mw_aload_n hX dL_refuses_237 rfl rfl ?_
  refine mw_ic hX (nI 0) dL_refuses_238 rfl ?_
  refine mw_iload hX dL_refuses_239 rfl ?_
  refine mw_ic hX (nI 5) dL_refuses_241 rfl ?_
  refine mw_ic hX (nI 5) dL_refuses_242 rfl ?_
  refine mw_ic hX (nI 0) dL_refuses_243 rfl ?_
  refine mw_cSH hX [_, _, _, _, _, _] ws_L_95 dL_refuses_244 (w_setInflowX (mw_l X) (2147483647) (nI 5) (nI 5) (nI 0) _ _ _ (by decide) (by decide) (by decide) (c_setInflowX (mw_l X) (2147483647) (nI 5) (nI 5) (by unfold okR; decide) I L)) rfl (by decide) (Nat.le_of_ble_eq_true rfl) (Nat.le_of_ble_eq_true rfl) (Nat.le_of_ble_eq_true rfl) ?_
  refine mw_le (n' := 342) (k' := 2052) (Nat.le_of_ble_eq_true rfl) (Nat.le_of_ble_eq_true rfl) ?_
  refine mw_iload hX dL_refuses_247 rfl ?_
  refine mw_icmp_ne hX (tgt := 405) dL_refuses_249 (by decide) (fun h => absurd h (by decide)) (fun _ => ?_)
  refine mw_aload_n hX dL_refuses_252 rfl rfl ?_
  refine mw_ic hX (nI 0) dL_refuses_253 rfl ?_
  refine mw_ic hX (nI 0) dL_refuses_254 rfl ?_
  refine mw_iload hX dL_refuses_255 rfl ?_
  refine mw_ic hX (nI 1) dL_refuses_257 rfl ?_
  refine mw_icmp_ne hX (tgt := 266) dL_refuses_258 (by decide) (fun _ => ?_) (fun h => absurd h (by decide))
  refine mw_iload hX dL_refuses_266 rfl ?_
  refine mw_ic hX (nI 5) dL_refuses_268 rfl ?_
  refine mw_ic hX (nI 0) dL_refuses_269 rfl ?_
  refine mw_cSH hX [_, _, _, _, _, _] ws_L_95 dL_refuses_270 (w_setInflowX (mw_l X) (nI 0) (2147483647) (nI 5) (nI 0) _ _ _ (by decide) (by decide) (by decide) (c_setInflowX (mw_l X) (nI 0) (2147483647) (nI 5) (by unfold okR; decide) I L)) rfl (by decide) (Nat.le_of_ble_eq_true rfl) (Nat.le_of_ble_eq_true rfl) (Nat.le_of_ble_eq_true rfl) ?_
  refine mw_le (n' := 346) (k' := 2076) (Nat.le_of_ble_eq_true rfl) (Nat.le_of_ble_eq_true rfl) ?_
  refine mw_iload hX dL_refuses_273 rfl ?_
  refine mw_icmp_ne hX (tgt := 405) dL_refuses_275 (by decide) (fun h => absurd h (by decide)) (fun _ => ?_)
  refine mw_aload_n hX dL_refuses_278 rfl rfl ?_
  refine mw_ic hX (nI 0) dL_refuses_279 rfl ?_
  refine mw_ic hX (nI 0) dL_refuses_280 rfl ?_
  refine mw_ic hX (nI 5) dL_refuses_281 rfl ?_
  refine mw_iload hX dL_refuses_282 rfl ?_
  refine mw_ic hX (nI 1) dL_refuses_284 rfl ?_
  refine mw_icmp_ne hX (tgt := 293) dL_refuses_285 (by decide) (fun _ => ?_) (fun h => absurd h (by decide))
  refine mw_iload hX dL_refuses_293 rfl ?_
  refine mw_ic hX (nI 0) dL_refuses_295 rfl ?_
  refine mw_cSH hX [_, _, _, _, _, _] ws_L_95 dL_refuses_296 (w_setInflowX (mw_l X) (nI 0) (nI 5) (2147483647) (nI 0) _ _ _ (by decide) (by decide) (by decide) (c_setInflowX (mw_l X) (nI 0) (nI 5) (2147483647) (by unfold okR; decide) I L)) rfl (by decide) (Nat.le_of_ble_eq_true rfl) (Nat.le_of_ble_eq_true rfl) (Nat.le_of_ble_eq_true rfl) ?_
  refine mw_le (n' := 350) (k' := 2100) (Nat.le_of_ble_eq_true rfl) (Nat.le_of_ble_eq_true rfl) ?_
  refine mw_iload hX dL_refuses_299 rfl ?_
  refine mw_icmp_ne hX (tgt := 405) dL_refuses_301 (by decide) (fun h => absurd h (by decide)) (fun _ => ?_)
  refine mw_aload_n hX dL_refuses_304 rfl rfl ?_
  refine mw_ic hX (nI 1) dL_refuses_305 rfl ?_
  refine mw_iload hX dL_refuses_306 rfl ?_
  refine mw_ic hX (nI 5) dL_refuses_308 rfl ?_
  refine mw_ic hX (nI 0) dL_refuses_309 rfl ?_
  refine mw_ic hX (nI 0) dL_refuses_310 rfl ?_
  refine mw_cSH hX [_, _, _, _, _, _] ws_L_95 dL_refuses_311 (w_setMinimumX (mw_l X) (2147483647) (nI 5) (nI 0) (nI 0) _ _ _ (by decide) (by decide) (by decide) (c_setMinimumX (mw_l X) (2147483647) (nI 5) (by unfold okR; decide) I L)) rfl (by decide) (Nat.le_of_ble_eq_true rfl) (Nat.le_of_ble_eq_true rfl) (Nat.le_of_ble_eq_true rfl) ?_
  refine mw_le (n' := 354) (k' := 2124) (Nat.le_of_ble_eq_true rfl) (Nat.le_of_ble_eq_true rfl) ?_
  refine mw_iload hX dL_refuses_314 rfl ?_
  refine mw_icmp_ne hX (tgt := 405) dL_refuses_316 (by decide) (fun h => absurd h (by decide)) (fun _ => ?_)
  refine mw_aload_n hX dL_refuses_319 rfl rfl ?_
  refine mw_ic hX (nI 1) dL_refuses_320 rfl ?_
  refine mw_ic hX (nI 0) dL_refuses_321 rfl ?_
  refine mw_iload hX dL_refuses_322 rfl ?_
  refine mw_ic hX (nI 1) dL_refuses_324 rfl ?_
  refine mw_icmp_ne hX (tgt := 333) dL_refuses_325 (by decide) (fun _ => ?_) (fun h => absurd h (by decide))
  refine mw_iload hX dL_refuses_333 rfl ?_
  refine mw_ic hX (nI 0) dL_refuses_335 rfl ?_
  refine mw_ic hX (nI 0) dL_refuses_336 rfl ?_
  refine mw_cSH hX [_, _, _, _, _, _] ws_L_95 dL_refuses_337 (w_setMinimumX (mw_l X) (nI 0) (2147483647) (nI 0) (nI 0) _ _ _ (by decide) (by decide) (by decide) (c_setMinimumX (mw_l X) (nI 0) (2147483647) (by unfold okR; decide) I L)) rfl (by decide) (Nat.le_of_ble_eq_true rfl) (Nat.le_of_ble_eq_true rfl) (Nat.le_of_ble_eq_true rfl) ?_
  refine mw_le (n' := 358) (k' := 2148) (Nat.le_of_ble_eq_true rfl) (Nat.le_of_ble_eq_true rfl) ?_
  refine mw_iload hX dL_refuses_340 rfl ?_
  refine mw_icmp_ne hX (tgt := 405) dL_refuses_342 (by decide) (fun h => absurd h (by decide)) (fun _ => ?_)
  refine mw_aload_n hX dL_refuses_345 rfl rfl ?_
  refine mw_ic hX (nI 2) dL_refuses_346 rfl ?_
  refine mw_iload hX dL_refuses_347 rfl ?_
  refine mw_ic hX (nI 0) dL_refuses_349 rfl ?_
  refine mw_ic hX (nI 5) dL_refuses_350 rfl ?_
  refine mw_ic hX (nI 0) dL_refuses_351 rfl ?_
  refine mw_cSH hX [_, _, _, _, _, _] ws_L_95 dL_refuses_352 (w_orderX (mw_l X) (2147483647) (nI 0) (nI 5) (nI 0) _ _ _ (by decide) (by decide) (by decide) (c_orderX (mw_l X) (2147483647) (nI 0) (nI 5) (by unfold okR; decide) I L)) rfl (by decide) (Nat.le_of_ble_eq_true rfl) (Nat.le_of_ble_eq_true rfl) (Nat.le_of_ble_eq_true rfl) ?_
  refine mw_le (n' := 362) (k' := 2172) (Nat.le_of_ble_eq_true rfl) (Nat.le_of_ble_eq_true rfl) ?_
  refine mw_iload hX dL_refuses_355 rfl ?_
  refine mw_icmp_ne hX (tgt := 405) dL_refuses_357 (by decide) (fun h => absurd h (by decide)) (fun _ => ?_)
  refine mw_aload_n hX dL_refuses_360 rfl rfl ?_
  refine mw_ic hX (nI 2) dL_refuses_361 rfl ?_
  refine mw_ic hX (nI 0) dL_refuses_362 rfl ?_
  refine mw_iload hX dL_refuses_363 rfl ?_
  refine mw_ic hX (nI 5) dL_refuses_365 rfl ?_
  refine mw_ic hX (nI 0) dL_refuses_366 rfl ?_
  refine mw_cSH hX [_, _, _, _, _, _] ws_L_95 dL_refuses_367 (w_orderX (mw_l X) (nI 0) (2147483647) (nI 5) (nI 0) _ _ _ (by decide) (by decide) (by decide) (c_orderX (mw_l X) (nI 0) (2147483647) (nI 5) (by unfold okR; decide) I L)) rfl (by decide) (Nat.le_of_ble_eq_true rfl) (Nat.le_of_ble_eq_true rfl) (Nat.le_of_ble_eq_true rfl) ?_
  refine mw_le (n' := 366) (k' := 2196) (Nat.le_of_ble_eq_true rfl) (Nat.le_of_ble_eq_true rfl) ?_
  refine mw_iload hX dL_refuses_370 rfl ?_
  refine mw_icmp_ne hX (tgt := 405) dL_refuses_372 (by decide) (fun h => absurd h (by decide)) (fun _ => ?_)
  refine mw_aload_n hX dL_refuses_375 rfl rfl ?_
  refine mw_ic hX (nI 2) dL_refuses_376 rfl ?_
  refine mw_ic hX (nI 0) dL_refuses_377 rfl ?_
  refine mw_ic hX (nI 0) dL_refuses_378 rfl ?_
  refine mw_iload hX dL_refuses_379 rfl ?_
  refine mw_ic hX (nI 1) dL_refuses_381 rfl ?_
  refine mw_icmp_ne hX (tgt := 390) dL_refuses_382 (by decide) (fun _ => ?_) (fun h => absurd h (by decide))
  refine mw_iload hX dL_refuses_390 rfl ?_
  refine mw_ic hX (nI 0) dL_refuses_392 rfl ?_
  refine mw_cSH hX [_, _, _, _, _, _] ws_L_95 dL_refuses_393 (w_orderX (mw_l X) (nI 0) (nI 0) (2147483647) (nI 0) _ _ _ (by decide) (by decide) (by decide) (c_orderX (mw_l X) (nI 0) (nI 0) (2147483647) (by unfold okR; decide) I L)) rfl (by decide) (Nat.le_of_ble_eq_true rfl) (Nat.le_of_ble_eq_true rfl) (Nat.le_of_ble_eq_true rfl) ?_
  refine mw_le (n' := 370) (k' := 2220) (Nat.le_of_ble_eq_true rfl) (Nat.le_of_ble_eq_true rfl) ?_
  refine mw_iload hX dL_refuses_396 rfl ?_
  refine mw_icmp_ne hX (tgt := 405) dL_refuses_398 (by decide) (fun h => absurd h (by decide)) (fun _ => ?_)
  refine mw_ic hX (nI 1) dL_refuses_401 rfl ?_
  refine mw_goto hX (tgt := 406) dL_refuses_402 (by decide) ?_
  refine mw_istore hX dL_refuses_406 (Nat.le_of_ble_eq_true rfl) ?_
  dsimp only [List.set]
  refine mw_iload hX dL_refuses_408 rfl ?_
  refine mw_if_eq hX (tgt := 790) dL_refuses_410 (by decide) (fun h => absurd h (by decide)) (fun _ => ?_)
  refine mw_aload_n hX dL_refuses_413 rfl rfl ?_
  refine mw_ic hX (nI 3) dL_refuses_414 rfl ?_
  refine mw_iload hX dL_refuses_415 rfl ?_
  refine mw_ic hX (nI 0) dL_refuses_417 rfl ?_
  refine mw_ic hX (nI 5) dL_refuses_418 rfl ?_
  refine mw_ic hX (nI 5) dL_refuses_419 rfl ?_
  refine mw_cSH hX [_, _, _, _, _, _] ws_L_95 dL_refuses_420 (w_setYieldX (mw_l X) (2147483647) (nI 0) (nI 5) (nI 5) _ _ _ (by decide) (by decide) (by decide) (c_setYieldX (mw_l X) (2147483647) (nI 0) (nI 5) (nI 5) (by unfold okR; decide) I L)) rfl (by decide) (Nat.le_of_ble_eq_true rfl) (Nat.le_of_ble_eq_true rfl) (Nat.le_of_ble_eq_true rfl) ?_
  refine mw_le (n' := 374) (k' := 2244) (Nat.le_of_ble_eq_true rfl) (Nat.le_of_ble_eq_true rfl) ?_
  refine mw_iload hX dL_refuses_423 rfl ?_
  refine mw_icmp_ne hX (tgt := 790) dL_refuses_425 (by decide) (fun h => absurd h (by decide)) (fun _ => ?_)
  refine mw_aload_n hX dL_refuses_428 rfl rfl ?_
  refine mw_ic hX (nI 3) dL_refuses_429 rfl ?_
  refine mw_ic hX (nI 0) dL_refuses_430 rfl ?_
  refine mw_iload hX dL_refuses_431 rfl ?_
  refine mw_ic hX (nI 5) dL_refuses_433 rfl ?_
  refine mw_ic hX (nI 5) dL_refuses_434 rfl ?_
  refine mw_cSH hX [_, _, _, _, _, _] ws_L_95 dL_refuses_435 (w_setYieldX (mw_l X) (nI 0) (2147483647) (nI 5) (nI 5) _ _ _ (by decide) (by decide) (by decide) (c_setYieldX (mw_l X) (nI 0) (2147483647) (nI 5) (nI 5) (by unfold okR; decide) I L)) rfl (by decide) (Nat.le_of_ble_eq_true rfl) (Nat.le_of_ble_eq_true rfl) (Nat.le_of_ble_eq_true rfl) ?_
  refine mw_le (n' := 378) (k' := 2268) (Nat.le_of_ble_eq_true rfl) (Nat.le_of_ble_eq_true rfl) ?_
  refine mw_iload hX dL_refuses_438 rfl ?_
  refine mw_icmp_ne hX (tgt := 790) dL_refuses_440 (by decide) (fun h => absurd h (by decide)) (fun _ => ?_)
  refine mw_aload_n hX dL_refuses_443 rfl rfl ?_
  refine mw_ic hX (nI 3) dL_refuses_444 rfl ?_
  refine mw_ic hX (nI 0) dL_refuses_445 rfl ?_
  refine mw_ic hX (nI 0) dL_refuses_446 rfl ?_
  refine mw_iload hX dL_refuses_447 rfl ?_
  refine mw_if_ne hX (tgt := 456) dL_refuses_449 (by decide) (fun _ => ?_) (fun h => absurd h (by decide))
  refine mw_iload hX dL_refuses_456 rfl ?_
  refine mw_ic hX (nI 1) dL_refuses_458 rfl ?_
  refine mw_icmp_ne hX (tgt := 467) dL_refuses_459 (by decide) (fun _ => ?_) (fun h => absurd h (by decide))
  refine mw_iload hX dL_refuses_467 rfl ?_
  refine mw_ic hX (nI 5) dL_refuses_469 rfl ?_
  refine mw_cSH hX [_, _, _, _, _, _] ws_L_95 dL_refuses_470 (w_setYieldX (mw_l X) (nI 0) (nI 0) (2147483647) (nI 5) _ _ _ (by decide) (by decide) (by decide) (c_setYieldX (mw_l X) (nI 0) (nI 0) (2147483647) (nI 5) (by unfold okR; decide) I L)) rfl (by decide) (Nat.le_of_ble_eq_true rfl) (Nat.le_of_ble_eq_true rfl) (Nat.le_of_ble_eq_true rfl) ?_
  refine mw_le (n' := 382) (k' := 2292) (Nat.le_of_ble_eq_true rfl) (Nat.le_of_ble_eq_true rfl) ?_
  refine mw_iload hX dL_refuses_473 rfl ?_
  refine mw_icmp_ne hX (tgt := 790) dL_refuses_475 (by decide) (fun h => absurd h (by decide)) (fun _ => ?_)
  refine mw_aload_n hX dL_refuses_478 rfl rfl ?_
  refine mw_ic hX (nI 3) dL_refuses_479 rfl ?_
  refine mw_ic hX (nI 0) dL_refuses_480 rfl ?_
  refine mw_ic hX (nI 0) dL_refuses_481 rfl ?_
  refine mw_ic hX (nI 5) dL_refuses_482 rfl ?_
  refine mw_iload hX dL_refuses_483 rfl ?_
  refine mw_ic hX (nI 1) dL_refuses_485 rfl ?_
  refine mw_icmp_ne hX (tgt := 495) dL_refuses_486 (by decide) (fun _ => ?_) (fun h => absurd h (by decide))
  refine mw_iload hX dL_refuses_495 rfl ?_
  refine mw_cSH hX [_, _, _, _, _, _] ws_L_95 dL_refuses_497 (w_setYieldX (mw_l X) (nI 0) (nI 0) (nI 5) (2147483647) _ _ _ (by decide) (by decide) (by decide) (c_setYieldX (mw_l X) (nI 0) (nI 0) (nI 5) (2147483647) (by unfold okR; decide) I L)) rfl (by decide) (Nat.le_of_ble_eq_true rfl) (Nat.le_of_ble_eq_true rfl) (Nat.le_of_ble_eq_true rfl) ?_
  refine mw_le (n' := 386) (k' := 2316) (Nat.le_of_ble_eq_true rfl) (Nat.le_of_ble_eq_true rfl) ?_
  refine mw_iload hX dL_refuses_500 rfl ?_
  refine mw_icmp_ne hX (tgt := 790) dL_refuses_502 (by decide) (fun h => absurd h (by decide)) (fun _ => ?_)
  refine mw_aload_n hX dL_refuses_505 rfl rfl ?_
  refine mw_ic hX (nI 4) dL_refuses_506 rfl ?_
  refine mw_iload hX dL_refuses_507 rfl ?_
  refine mw_ic hX (nI 0) dL_refuses_509 rfl ?_
  refine mw_ic hX (nI 0) dL_refuses_510 rfl ?_
  refine mw_ic hX (nI 0) dL_refuses_511 rfl ?_
  refine mw_cSH hX [_, _, _, _, _, _] ws_L_95 dL_refuses_512 (w_runX (mw_l X) (2147483647) (nI 0) (nI 0) (nI 0) _ _ _ (by decide) (by decide) (by decide) (c_runX (mw_l X) (2147483647) (by unfold okR; decide) I L)) rfl (by decide) (Nat.le_of_ble_eq_true rfl) (Nat.le_of_ble_eq_true rfl) (Nat.le_of_ble_eq_true rfl) ?_
  refine mw_le (n' := 390) (k' := 2340) (Nat.le_of_ble_eq_true rfl) (Nat.le_of_ble_eq_true rfl) ?_
  refine mw_iload hX dL_refuses_515 rfl ?_
  refine mw_icmp_ne hX (tgt := 790) dL_refuses_517 (by decide) (fun h => absurd h (by decide)) (fun _ => ?_)
  refine mw_aload_n hX dL_refuses_520 rfl rfl ?_
  refine mw_ic hX (nI 5) dL_refuses_521 rfl ?_
  refine mw_iload hX dL_refuses_522 rfl ?_
  refine mw_ic hX (nI 0) dL_refuses_524 rfl ?_
  refine mw_ic hX (nI 1) dL_refuses_525 rfl ?_
  refine mw_ic hX (nI 0) dL_refuses_526 rfl ?_
  refine mw_cSH hX [_, _, _, _, _, _] ws_L_95 dL_refuses_527 (w_lendX (mw_l X) (2147483647) (nI 0) (nI 1) (nI 0) _ _ _ (by decide) (by decide) (by decide) (c_lendX (mw_l X) (2147483647) (nI 0) (nI 1) (by unfold okR; decide) I L)) rfl (by decide) (Nat.le_of_ble_eq_true rfl) (Nat.le_of_ble_eq_true rfl) (Nat.le_of_ble_eq_true rfl) ?_
  refine mw_le (n' := 394) (k' := 2364) (Nat.le_of_ble_eq_true rfl) (Nat.le_of_ble_eq_true rfl) ?_
  refine mw_iload hX dL_refuses_530 rfl ?_
  refine mw_icmp_ne hX (tgt := 790) dL_refuses_532 (by decide) (fun h => absurd h (by decide)) (fun _ => ?_)
  refine mw_aload_n hX dL_refuses_535 rfl rfl ?_
  refine mw_ic hX (nI 5) dL_refuses_536 rfl ?_
  refine mw_ic hX (nI 0) dL_refuses_537 rfl ?_
  refine mw_iload hX dL_refuses_538 rfl ?_
  refine mw_ic hX (nI 1) dL_refuses_540 rfl ?_
  refine mw_ic hX (nI 0) dL_refuses_541 rfl ?_
  refine mw_cSH hX [_, _, _, _, _, _] ws_L_95 dL_refuses_542 (w_lendX (mw_l X) (nI 0) (2147483647) (nI 1) (nI 0) _ _ _ (by decide) (by decide) (by decide) (c_lendX (mw_l X) (nI 0) (2147483647) (nI 1) (by unfold okR; decide) I L)) rfl (by decide) (Nat.le_of_ble_eq_true rfl) (Nat.le_of_ble_eq_true rfl) (Nat.le_of_ble_eq_true rfl) ?_
  refine mw_le (n' := 398) (k' := 2388) (Nat.le_of_ble_eq_true rfl) (Nat.le_of_ble_eq_true rfl) ?_
  refine mw_iload hX dL_refuses_545 rfl ?_
  refine mw_icmp_ne hX (tgt := 790) dL_refuses_547 (by decide) (fun h => absurd h (by decide)) (fun _ => ?_)
  refine mw_aload_n hX dL_refuses_550 rfl rfl ?_
  refine mw_ic hX (nI 5) dL_refuses_551 rfl ?_
  refine mw_ic hX (nI 0) dL_refuses_552 rfl ?_
  refine mw_ic hX (nI 0) dL_refuses_553 rfl ?_
  refine mw_iload hX dL_refuses_554 rfl ?_
  refine mw_if_ne hX (tgt := 563) dL_refuses_556 (by decide) (fun _ => ?_) (fun h => absurd h (by decide))
  refine mw_iload hX dL_refuses_563 rfl ?_
  refine mw_ic hX (nI 1) dL_refuses_565 rfl ?_
  refine mw_icmp_ne hX (tgt := 574) dL_refuses_566 (by decide) (fun _ => ?_) (fun h => absurd h (by decide))
  refine mw_iload hX dL_refuses_574 rfl ?_
  refine mw_ic hX (nI 0) dL_refuses_576 rfl ?_
  refine mw_cSH hX [_, _, _, _, _, _] ws_L_95 dL_refuses_577 (w_lendX (mw_l X) (nI 0) (nI 0) (2147483647) (nI 0) _ _ _ (by decide) (by decide) (by decide) (c_lendX (mw_l X) (nI 0) (nI 0) (2147483647) (by unfold okR; decide) I L)) rfl (by decide) (Nat.le_of_ble_eq_true rfl) (Nat.le_of_ble_eq_true rfl) (Nat.le_of_ble_eq_true rfl) ?_
  refine mw_le (n' := 402) (k' := 2412) (Nat.le_of_ble_eq_true rfl) (Nat.le_of_ble_eq_true rfl) ?_
  refine mw_iload hX dL_refuses_580 rfl ?_
  refine mw_icmp_ne hX (tgt := 790) dL_refuses_582 (by decide) (fun h => absurd h (by decide)) (fun _ => ?_)
  refine mw_aload_n hX dL_refuses_585 rfl rfl ?_
  refine mw_bp hX (nI 6) dL_refuses_586 rfl ?_
  refine mw_iload hX dL_refuses_588 rfl ?_
  refine mw_ic hX (nI 0) dL_refuses_590 rfl ?_
  refine mw_ic hX (nI 0) dL_refuses_591 rfl ?_
  refine mw_ic hX (nI 0) dL_refuses_592 rfl ?_
  refine mw_cSH hX [_, _, _, _, _, _] ws_L_95 dL_refuses_593 (w_accountX (mw_l X) (2147483647) (nI 0) (nI 0) (nI 0) _ _ _ (by decide) (by decide) (by decide) (c_accountX (mw_l X) (2147483647) (nI 0) (by unfold okR; decide) I L)) rfl (by decide) (Nat.le_of_ble_eq_true rfl) (Nat.le_of_ble_eq_true rfl) (Nat.le_of_ble_eq_true rfl) ?_
  refine mw_le (n' := 406) (k' := 2436) (Nat.le_of_ble_eq_true rfl) (Nat.le_of_ble_eq_true rfl) ?_
  refine mw_iload hX dL_refuses_596 rfl ?_
  refine mw_icmp_ne hX (tgt := 790) dL_refuses_598 (by decide) (fun h => absurd h (by decide)) (fun _ => ?_)
  refine mw_aload_n hX dL_refuses_601 rfl rfl ?_
  refine mw_bp hX (nI 6) dL_refuses_602 rfl ?_
  refine mw_ic hX (nI 0) dL_refuses_604 rfl ?_
  refine mw_iload hX dL_refuses_605 rfl ?_
  refine mw_ic hX (nI 0) dL_refuses_607 rfl ?_
  refine mw_ic hX (nI 0) dL_refuses_608 rfl ?_
  refine mw_cSH hX [_, _, _, _, _, _] ws_L_95 dL_refuses_609 (w_accountX (mw_l X) (nI 0) (2147483647) (nI 0) (nI 0) _ _ _ (by decide) (by decide) (by decide) (c_accountX (mw_l X) (nI 0) (2147483647) (by unfold okR; decide) I L)) rfl (by decide) (Nat.le_of_ble_eq_true rfl) (Nat.le_of_ble_eq_true rfl) (Nat.le_of_ble_eq_true rfl) ?_
  refine mw_le (n' := 410) (k' := 2460) (Nat.le_of_ble_eq_true rfl) (Nat.le_of_ble_eq_true rfl) ?_
  refine mw_iload hX dL_refuses_612 rfl ?_
  refine mw_icmp_ne hX (tgt := 790) dL_refuses_614 (by decide) (fun h => absurd h (by decide)) (fun _ => ?_)
  refine mw_aload_n hX dL_refuses_617 rfl rfl ?_
  refine mw_bp hX (nI 7) dL_refuses_618 rfl ?_
  refine mw_iload hX dL_refuses_620 rfl ?_
  refine mw_ic hX (nI 0) dL_refuses_622 rfl ?_
  refine mw_ic hX (nI 0) dL_refuses_623 rfl ?_
  refine mw_ic hX (nI 0) dL_refuses_624 rfl ?_
  refine mw_cSH hX [_, _, _, _, _, _] ws_L_95 dL_refuses_625 (w_levelX (mw_l X) (2147483647) (nI 0) (nI 0) (nI 0) _ _ _ (by decide) (by decide) (by decide) (c_levelX (mw_l X) (2147483647) (by unfold okR; decide) I L)) rfl (by decide) (Nat.le_of_ble_eq_true rfl) (Nat.le_of_ble_eq_true rfl) (Nat.le_of_ble_eq_true rfl) ?_
  refine mw_le (n' := 414) (k' := 2484) (Nat.le_of_ble_eq_true rfl) (Nat.le_of_ble_eq_true rfl) ?_
  refine mw_iload hX dL_refuses_628 rfl ?_
  refine mw_icmp_ne hX (tgt := 790) dL_refuses_630 (by decide) (fun h => absurd h (by decide)) (fun _ => ?_)
  refine mw_aload_n hX dL_refuses_633 rfl rfl ?_
  refine mw_bp hX (nI 8) dL_refuses_634 rfl ?_
  refine mw_iload hX dL_refuses_636 rfl ?_
  refine mw_if_ne hX (tgt := 645) dL_refuses_638 (by decide) (fun _ => ?_) (fun h => absurd h (by decide))
  refine mw_iload hX dL_refuses_645 rfl ?_
  refine mw_ic hX (nI 0) dL_refuses_647 rfl ?_
  refine mw_ic hX (nI 0) dL_refuses_648 rfl ?_
  refine mw_ic hX (nI 0) dL_refuses_649 rfl ?_
  refine mw_cSH hX [_, _, _, _, _, _] ws_L_95 dL_refuses_650 (w_travellingX (mw_l X) (2147483647) (nI 0) (nI 0) (nI 0) _ _ _ (by decide) (by decide) (by decide) (c_travellingX (mw_l X) (2147483647) (nI 0) (by unfold okR; decide) I L)) rfl (by decide) (Nat.le_of_ble_eq_true rfl) (Nat.le_of_ble_eq_true rfl) (Nat.le_of_ble_eq_true rfl) ?_
  refine mw_le (n' := 418) (k' := 2508) (Nat.le_of_ble_eq_true rfl) (Nat.le_of_ble_eq_true rfl) ?_
  refine mw_iload hX dL_refuses_653 rfl ?_
  refine mw_icmp_ne hX (tgt := 790) dL_refuses_655 (by decide) (fun h => absurd h (by decide)) (fun _ => ?_)
  refine mw_aload_n hX dL_refuses_658 rfl rfl ?_
  refine mw_bp hX (nI 8) dL_refuses_659 rfl ?_
  refine mw_ic hX (nI 1) dL_refuses_661 rfl ?_
  refine mw_iload hX dL_refuses_662 rfl ?_
  refine mw_ic hX (nI 0) dL_refuses_664 rfl ?_
  refine mw_ic hX (nI 0) dL_refuses_665 rfl ?_
  refine mw_cSH hX [_, _, _, _, _, _] ws_L_95 dL_refuses_666 (w_travellingX (mw_l X) (nI 1) (2147483647) (nI 0) (nI 0) _ _ _ (by decide) (by decide) (by decide) (c_travellingX (mw_l X) (nI 1) (2147483647) (by unfold okR; decide) I L)) rfl (by decide) (Nat.le_of_ble_eq_true rfl) (Nat.le_of_ble_eq_true rfl) (Nat.le_of_ble_eq_true rfl) ?_
  refine mw_le (n' := 422) (k' := 2532) (Nat.le_of_ble_eq_true rfl) (Nat.le_of_ble_eq_true rfl) ?_
  refine mw_iload hX dL_refuses_669 rfl ?_
  refine mw_icmp_ne hX (tgt := 790) dL_refuses_671 (by decide) (fun h => absurd h (by decide)) (fun _ => ?_)
  refine mw_aload_n hX dL_refuses_674 rfl rfl ?_
  refine mw_bp hX (nI 9) dL_refuses_675 rfl ?_
  refine mw_iload hX dL_refuses_677 rfl ?_
  refine mw_if_ne hX (tgt := 686) dL_refuses_679 (by decide) (fun _ => ?_) (fun h => absurd h (by decide))
  refine mw_iload hX dL_refuses_686 rfl ?_
  refine mw_ic hX (nI 0) dL_refuses_688 rfl ?_
  refine mw_ic hX (nI 5) dL_refuses_689 rfl ?_
  refine mw_ic hX (nI 0) dL_refuses_690 rfl ?_
  refine mw_cSH hX [_, _, _, _, _, _] ws_L_95 dL_refuses_691 (w_arrivingX (mw_l X) (2147483647) (nI 0) (nI 5) (nI 0) _ _ _ (by decide) (by decide) (by decide) (c_arrivingX (mw_l X) (2147483647) (nI 0) (nI 5) (by unfold okR; decide) I L)) rfl (by decide) (Nat.le_of_ble_eq_true rfl) (Nat.le_of_ble_eq_true rfl) (Nat.le_of_ble_eq_true rfl) ?_
  refine mw_le (n' := 426) (k' := 2556) (Nat.le_of_ble_eq_true rfl) (Nat.le_of_ble_eq_true rfl) ?_
  refine mw_iload hX dL_refuses_694 rfl ?_
  refine mw_icmp_ne hX (tgt := 790) dL_refuses_696 (by decide) (fun h => absurd h (by decide)) (fun _ => ?_)
  refine mw_aload_n hX dL_refuses_699 rfl rfl ?_
  refine mw_bp hX (nI 9) dL_refuses_700 rfl ?_
  refine mw_ic hX (nI 1) dL_refuses_702 rfl ?_
  refine mw_iload hX dL_refuses_703 rfl ?_
  refine mw_ic hX (nI 5) dL_refuses_705 rfl ?_
  refine mw_ic hX (nI 0) dL_refuses_706 rfl ?_
  refine mw_cSH hX [_, _, _, _, _, _] ws_L_95 dL_refuses_707 (w_arrivingX (mw_l X) (nI 1) (2147483647) (nI 5) (nI 0) _ _ _ (by decide) (by decide) (by decide) (c_arrivingX (mw_l X) (nI 1) (2147483647) (nI 5) (by unfold okR; decide) I L)) rfl (by decide) (Nat.le_of_ble_eq_true rfl) (Nat.le_of_ble_eq_true rfl) (Nat.le_of_ble_eq_true rfl) ?_
  refine mw_le (n' := 430) (k' := 2580) (Nat.le_of_ble_eq_true rfl) (Nat.le_of_ble_eq_true rfl) ?_
  refine mw_iload hX dL_refuses_710 rfl ?_
  refine mw_icmp_ne hX (tgt := 790) dL_refuses_712 (by decide) (fun h => absurd h (by decide)) (fun _ => ?_)
  refine mw_aload_n hX dL_refuses_715 rfl rfl ?_
  refine mw_bp hX (nI 9) dL_refuses_716 rfl ?_
  refine mw_ic hX (nI 2) dL_refuses_718 rfl ?_
  refine mw_ic hX (nI 0) dL_refuses_719 rfl ?_
  refine mw_iload hX dL_refuses_720 rfl ?_
  refine mw_ic hX (nI 1) dL_refuses_722 rfl ?_
  refine mw_icmp_ne hX (tgt := 732) dL_refuses_723 (by decide) (fun _ => ?_) (fun h => absurd h (by decide))
  refine mw_iload hX dL_refuses_732 rfl ?_
  refine mw_ic hX (nI 0) dL_refuses_734 rfl ?_
  refine mw_cSH hX [_, _, _, _, _, _] ws_L_95 dL_refuses_735 (w_arrivingX (mw_l X) (nI 2) (nI 0) (2147483647) (nI 0) _ _ _ (by decide) (by decide) (by decide) (c_arrivingX (mw_l X) (nI 2) (nI 0) (2147483647) (by unfold okR; decide) I L)) rfl (by decide) (Nat.le_of_ble_eq_true rfl) (Nat.le_of_ble_eq_true rfl) (Nat.le_of_ble_eq_true rfl) ?_
  refine mw_le (n' := 434) (k' := 2604) (Nat.le_of_ble_eq_true rfl) (Nat.le_of_ble_eq_true rfl) ?_
  refine mw_iload hX dL_refuses_738 rfl ?_
  refine mw_icmp_ne hX (tgt := 790) dL_refuses_740 (by decide) (fun h => absurd h (by decide)) (fun _ => ?_)
  refine mw_aload_n hX dL_refuses_743 rfl rfl ?_
  refine mw_bp hX (nI 17) dL_refuses_744 rfl ?_
  refine mw_iload hX dL_refuses_746 rfl ?_
  refine mw_ic hX (nI 5) dL_refuses_748 rfl ?_
  refine mw_ic hX (nI 0) dL_refuses_749 rfl ?_
  refine mw_ic hX (nI 0) dL_refuses_750 rfl ?_
  refine mw_cSH hX [_, _, _, _, _, _] ws_L_95 dL_refuses_751 (w_mixX (mw_l X) (2147483647) (nI 5) (nI 0) (nI 0) _ _ _ (by decide) (by decide) (by decide) (c_mixX (mw_l X) (2147483647) (nI 5) (by unfold okR; decide) I L)) rfl (by decide) (Nat.le_of_ble_eq_true rfl) (Nat.le_of_ble_eq_true rfl) (Nat.le_of_ble_eq_true rfl) ?_
  refine mw_le (n' := 438) (k' := 2628) (Nat.le_of_ble_eq_true rfl) (Nat.le_of_ble_eq_true rfl) ?_
  refine mw_iload hX dL_refuses_754 rfl ?_
  refine mw_icmp_ne hX (tgt := 790) dL_refuses_756 (by decide) (fun h => absurd h (by decide)) (fun _ => ?_)
  refine mw_aload_n hX dL_refuses_759 rfl rfl ?_
  refine mw_bp hX (nI 17) dL_refuses_760 rfl ?_
  refine mw_ic hX (nI 0) dL_refuses_762 rfl ?_
  refine mw_iload hX dL_refuses_763 rfl ?_
  refine mw_ic hX (nI 1) dL_refuses_765 rfl ?_
  refine mw_icmp_ne hX (tgt := 774) dL_refuses_766 (by decide) (fun _ => ?_) (fun h => absurd h (by decide))
  refine mw_iload hX dL_refuses_774 rfl ?_
  refine mw_ic hX (nI 0) dL_refuses_776 rfl ?_
  refine mw_ic hX (nI 0) dL_refuses_777 rfl ?_
  refine mw_cSH hX [_, _, _, _, _, _] ws_L_95 dL_refuses_778 (w_mixX (mw_l X) (nI 0) (2147483647) (nI 0) (nI 0) _ _ _ (by decide) (by decide) (by decide) (c_mixX (mw_l X) (nI 0) (2147483647) (by unfold okR; decide) I L)) rfl (by decide) (Nat.le_of_ble_eq_true rfl) (Nat.le_of_ble_eq_true rfl) (Nat.le_of_ble_eq_true rfl) ?_
  refine mw_le (n' := 442) (k' := 2652) (Nat.le_of_ble_eq_true rfl) (Nat.le_of_ble_eq_true rfl) ?_
  refine mw_iload hX dL_refuses_781 rfl ?_
  refine mw_icmp_ne hX (tgt := 790) dL_refuses_783 (by decide) (fun h => absurd h (by decide)) (fun _ => ?_)
  refine mw_ic hX (nI 1) dL_refuses_786 rfl ?_
  refine mw_goto hX (tgt := 791) dL_refuses_787 (by decide) ?_
  refine mw_istore hX dL_refuses_791 (Nat.le_of_ble_eq_true rfl) ?_
  dsimp only [List.set]
  refine mw_bp hX (nI 10) dL_refuses_793 rfl ?_
  refine mw_istore hX dL_refuses_795 (Nat.le_of_ble_eq_true rfl) ?_
  dsimp only [List.set]
  refine mw_iload hX dL_refuses_797 rfl ?_
  refine mw_bp hX (nI 17) dL_refuses_799 rfl ?_
  refine mw_icmp_ge hX (tgt := 850) dL_refuses_801 (by decide) (fun h => absurd h (by decide)) (fun _ => ?_)
  refine mw_iload hX dL_refuses_804 rfl ?_
  refine mw_if_eq hX (tgt := 841) dL_refuses_806 (by decide) (fun h => absurd h (by decide)) (fun _ => ?_)
  refine mw_aload_n hX dL_refuses_809 rfl rfl ?_
  refine mw_iload hX dL_refuses_810 rfl ?_
  refine mw_iload hX dL_refuses_812 rfl ?_
  refine mw_bp hX (nI 13) dL_refuses_814 rfl ?_
  refine mw_icmp_ge hX (tgt := 824) dL_refuses_816 (by decide) (fun h => absurd h (by decide)) (fun _ => ?_)
  refine mw_iload hX dL_refuses_819 rfl ?_
  refine mw_goto hX (tgt := 826) dL_refuses_821 (by decide) ?_
  refine mw_ic hX (nI 0) dL_refuses_826 rfl ?_
  refine mw_ic hX (nI 0) dL_refuses_827 rfl ?_
  refine mw_ic hX (nI 0) dL_refuses_828 rfl ?_
  refine mw_cSH hX [_, _, _, _, _, _] ws_L_95 dL_refuses_829 (w_cameInX (mw_l X) (2147483647) (nI 0) (nI 0) (nI 0) _ _ _ (by decide) (by decide) (by decide) (c_cameInX (mw_l X) (2147483647) (by unfold okR; decide) I L)) rfl (by decide) (Nat.le_of_ble_eq_true rfl) (Nat.le_of_ble_eq_true rfl) (Nat.le_of_ble_eq_true rfl) ?_
  refine mw_le (n' := 446) (k' := 2676) (Nat.le_of_ble_eq_true rfl) (Nat.le_of_ble_eq_true rfl) ?_
  refine mw_iload hX dL_refuses_832 rfl ?_
  refine mw_icmp_ne hX (tgt := 841) dL_refuses_834 (by decide) (fun h => absurd h (by decide)) (fun _ => ?_)
  refine mw_ic hX (nI 1) dL_refuses_837 rfl ?_
  refine mw_goto hX (tgt := 842) dL_refuses_838 (by decide) ?_
  refine mw_istore hX dL_refuses_842 (Nat.le_of_ble_eq_true rfl) ?_
  dsimp only [List.set]
  refine mw_inc hX (nI 11) dL_refuses_844 rfl (by decide) ?_
  dsimp only [List.set]
  refine mw_goto hX (tgt := 797) dL_refuses_847 (by decide) ?_
  refine mw_iload hX dL_refuses_797 rfl ?_
  refine mw_bp hX (nI 17) dL_refuses_799 rfl ?_
  refine mw_icmp_ge hX (tgt := 850) dL_refuses_801 (by decide) (fun h => absurd h (by decide)) (fun _ => ?_)
  refine mw_iload hX dL_refuses_804 rfl ?_
  refine mw_if_eq hX (tgt := 841) dL_refuses_806 (by decide) (fun h => absurd h (by decide)) (fun _ => ?_)
  refine mw_aload_n hX dL_refuses_809 rfl rfl ?_
  refine mw_iload hX dL_refuses_810 rfl ?_
  refine mw_iload hX dL_refuses_812 rfl ?_
  refine mw_bp hX (nI 13) dL_refuses_814 rfl ?_
  refine mw_icmp_ge hX (tgt := 824) dL_refuses_816 (by decide) (fun h => absurd h (by decide)) (fun _ => ?_)
  refine mw_iload hX dL_refuses_819 rfl ?_
  refine mw_goto hX (tgt := 826) dL_refuses_821 (by decide) ?_
  refine mw_ic hX (nI 0) dL_refuses_826 rfl ?_
  refine mw_ic hX (nI 0) dL_refuses_827 rfl ?_
  refine mw_ic hX (nI 0) dL_refuses_828 rfl ?_
  refine mw_cSH hX [_, _, _, _, _, _] ws_L_95 dL_refuses_829 (w_goneX (mw_l X) (2147483647) (nI 0) (nI 0) (nI 0) _ _ _ (by decide) (by decide) (by decide) (c_goneX (mw_l X) (2147483647) (by unfold okR; decide) I L)) rfl (by decide) (Nat.le_of_ble_eq_true rfl) (Nat.le_of_ble_eq_true rfl) (Nat.le_of_ble_eq_true rfl) ?_
  refine mw_le (n' := 450) (k' := 2700) (Nat.le_of_ble_eq_true rfl) (Nat.le_of_ble_eq_true rfl) ?_
  refine mw_iload hX dL_refuses_832 rfl ?_
  refine mw_icmp_ne hX (tgt := 841) dL_refuses_834 (by decide) (fun h => absurd h (by decide)) (fun _ => ?_)
  refine mw_ic hX (nI 1) dL_refuses_837 rfl ?_
  refine mw_goto hX (tgt := 842) dL_refuses_838 (by decide) ?_
  refine mw_istore hX dL_refuses_842 (Nat.le_of_ble_eq_true rfl) ?_
  dsimp only [List.set]
  refine mw_inc hX (nI 12) dL_refuses_844 rfl (by decide) ?_
  dsimp only [List.set]
  refine mw_goto hX (tgt := 797) dL_refuses_847 (by decide) ?_
  refine mw_iload hX dL_refuses_797 rfl ?_
  refine mw_bp hX (nI 17) dL_refuses_799 rfl ?_
  refine mw_icmp_ge hX (tgt := 850) dL_refuses_801 (by decide) (fun h => absurd h (by decide)) (fun _ => ?_)
  refine mw_iload hX dL_refuses_804 rfl ?_
  refine mw_if_eq hX (tgt := 841) dL_refuses_806 (by decide) (fun h => absurd h (by decide)) (fun _ => ?_)
  refine mw_aload_n hX dL_refuses_809 rfl rfl ?_
  refine mw_iload hX dL_refuses_810 rfl ?_
  refine mw_iload hX dL_refuses_812 rfl ?_
  refine mw_bp hX (nI 13) dL_refuses_814 rfl ?_
  refine mw_icmp_ge hX (tgt := 824) dL_refuses_816 (by decide) (fun h => absurd h (by decide)) (fun _ => ?_)
  refine mw_iload hX dL_refuses_819 rfl ?_
  refine mw_goto hX (tgt := 826) dL_refuses_821 (by decide) ?_
  refine mw_ic hX (nI 0) dL_refuses_826 rfl ?_
  refine mw_ic hX (nI 0) dL_refuses_827 rfl ?_
  refine mw_ic hX (nI 0) dL_refuses_828 rfl ?_
  refine mw_cSH hX [_, _, _, _, _, _] ws_L_95 dL_refuses_829 (w_balanceX (mw_l X) (2147483647) (nI 0) (nI 0) (nI 0) _ _ _ (by decide) (by decide) (by decide) (c_balanceX (mw_l X) (2147483647) (by unfold okR; decide) I L)) rfl (by decide) (Nat.le_of_ble_eq_true rfl) (Nat.le_of_ble_eq_true rfl) (Nat.le_of_ble_eq_true rfl) ?_
  refine mw_le (n' := 454) (k' := 2724) (Nat.le_of_ble_eq_true rfl) (Nat.le_of_ble_eq_true rfl) ?_
  refine mw_iload hX dL_refuses_832 rfl ?_
  refine mw_icmp_ne hX (tgt := 841) dL_refuses_834 (by decide) (fun h => absurd h (by decide)) (fun _ => ?_)
  refine mw_ic hX (nI 1) dL_refuses_837 rfl ?_
  refine mw_goto hX (tgt := 842) dL_refuses_838 (by decide) ?_
  refine mw_istore hX dL_refuses_842 (Nat.le_of_ble_eq_true rfl) ?_
  dsimp only [List.set]
  refine mw_inc hX (nI 13) dL_refuses_844 rfl (by decide) ?_
  dsimp only [List.set]
  refine mw_goto hX (tgt := 797) dL_refuses_847 (by decide) ?_
  refine mw_iload hX dL_refuses_797 rfl ?_
  refine mw_bp hX (nI 17) dL_refuses_799 rfl ?_
  refine mw_icmp_ge hX (tgt := 850) dL_refuses_801 (by decide) (fun h => absurd h (by decide)) (fun _ => ?_)
  refine mw_iload hX dL_refuses_804 rfl ?_
  refine mw_if_eq hX (tgt := 841) dL_refuses_806 (by decide) (fun h => absurd h (by decide)) (fun _ => ?_)
  refine mw_aload_n hX dL_refuses_809 rfl rfl ?_
  refine mw_iload hX dL_refuses_810 rfl ?_
  refine mw_iload hX dL_refuses_812 rfl ?_
  refine mw_bp hX (nI 13) dL_refuses_814 rfl ?_
  refine mw_icmp_ge hX (tgt := 824) dL_refuses_816 (by decide) (fun _ => ?_) (fun h => absurd h (by decide))
  refine mw_iload hX dL_refuses_824 rfl ?_
  refine mw_ic hX (nI 0) dL_refuses_826 rfl ?_
  refine mw_ic hX (nI 0) dL_refuses_827 rfl ?_
  refine mw_ic hX (nI 0) dL_refuses_828 rfl ?_
  refine mw_cSH hX [_, _, _, _, _, _] ws_L_95 dL_refuses_829 (w_spilledX (mw_l X) (2147483647) (nI 0) (nI 0) (nI 0) _ _ _ (by decide) (by decide) (by decide) (c_spilledX (mw_l X) (2147483647) (by unfold okR; decide) I L)) rfl (by decide) (Nat.le_of_ble_eq_true rfl) (Nat.le_of_ble_eq_true rfl) (Nat.le_of_ble_eq_true rfl) ?_
  refine mw_le (n' := 458) (k' := 2748) (Nat.le_of_ble_eq_true rfl) (Nat.le_of_ble_eq_true rfl) ?_
  refine mw_iload hX dL_refuses_832 rfl ?_
  refine mw_icmp_ne hX (tgt := 841) dL_refuses_834 (by decide) (fun h => absurd h (by decide)) (fun _ => ?_)
  refine mw_ic hX (nI 1) dL_refuses_837 rfl ?_
  refine mw_goto hX (tgt := 842) dL_refuses_838 (by decide) ?_
  refine mw_istore hX dL_refuses_842 (Nat.le_of_ble_eq_true rfl) ?_
  dsimp only [List.set]
  refine mw_inc hX (nI 14) dL_refuses_844 rfl (by decide) ?_
  dsimp only [List.set]
  refine mw_goto hX (tgt := 797) dL_refuses_847 (by decide) ?_
  refine mw_iload hX dL_refuses_797 rfl ?_
  refine mw_bp hX (nI 17) dL_refuses_799 rfl ?_
  refine mw_icmp_ge hX (tgt := 850) dL_refuses_801 (by decide) (fun h => absurd h (by decide)) (fun _ => ?_)
  refine mw_iload hX dL_refuses_804 rfl ?_
  refine mw_if_eq hX (tgt := 841) dL_refuses_806 (by decide) (fun h => absurd h (by decide)) (fun _ => ?_)
  refine mw_aload_n hX dL_refuses_809 rfl rfl ?_
  refine mw_iload hX dL_refuses_810 rfl ?_
  refine mw_iload hX dL_refuses_812 rfl ?_
  refine mw_bp hX (nI 13) dL_refuses_814 rfl ?_
  refine mw_icmp_ge hX (tgt := 824) dL_refuses_816 (by decide) (fun _ => ?_) (fun h => absurd h (by decide))
  refine mw_iload hX dL_refuses_824 rfl ?_
  refine mw_ic hX (nI 0) dL_refuses_826 rfl ?_
  refine mw_ic hX (nI 0) dL_refuses_827 rfl ?_
  refine mw_ic hX (nI 0) dL_refuses_828 rfl ?_
  refine mw_cSH hX [_, _, _, _, _, _] ws_L_95 dL_refuses_829 (w_missedX (mw_l X) (2147483647) (nI 0) (nI 0) (nI 0) _ _ _ (by decide) (by decide) (by decide) (c_missedX (mw_l X) (2147483647) (by unfold okR; decide) I L)) rfl (by decide) (Nat.le_of_ble_eq_true rfl) (Nat.le_of_ble_eq_true rfl) (Nat.le_of_ble_eq_true rfl) ?_
  refine mw_le (n' := 462) (k' := 2772) (Nat.le_of_ble_eq_true rfl) (Nat.le_of_ble_eq_true rfl) ?_
  refine mw_iload hX dL_refuses_832 rfl ?_
  refine mw_icmp_ne hX (tgt := 841) dL_refuses_834 (by decide) (fun h => absurd h (by decide)) (fun _ => ?_)
  refine mw_ic hX (nI 1) dL_refuses_837 rfl ?_
  refine mw_goto hX (tgt := 842) dL_refuses_838 (by decide) ?_
  refine mw_istore hX dL_refuses_842 (Nat.le_of_ble_eq_true rfl) ?_
  dsimp only [List.set]
  refine mw_inc hX (nI 15) dL_refuses_844 rfl (by decide) ?_
  dsimp only [List.set]
  refine mw_goto hX (tgt := 797) dL_refuses_847 (by decide) ?_
  refine mw_iload hX dL_refuses_797 rfl ?_
  refine mw_bp hX (nI 17) dL_refuses_799 rfl ?_
  refine mw_icmp_ge hX (tgt := 850) dL_refuses_801 (by decide) (fun h => absurd h (by decide)) (fun _ => ?_)
  refine mw_iload hX dL_refuses_804 rfl ?_
  refine mw_if_eq hX (tgt := 841) dL_refuses_806 (by decide) (fun h => absurd h (by decide)) (fun _ => ?_)
  refine mw_aload_n hX dL_refuses_809 rfl rfl ?_
  refine mw_iload hX dL_refuses_810 rfl ?_
  refine mw_iload hX dL_refuses_812 rfl ?_
  refine mw_bp hX (nI 13) dL_refuses_814 rfl ?_
  refine mw_icmp_ge hX (tgt := 824) dL_refuses_816 (by decide) (fun _ => ?_) (fun h => absurd h (by decide))
  refine mw_iload hX dL_refuses_824 rfl ?_
  refine mw_ic hX (nI 0) dL_refuses_826 rfl ?_
  refine mw_ic hX (nI 0) dL_refuses_827 rfl ?_
  refine mw_ic hX (nI 0) dL_refuses_828 rfl ?_
  refine mw_cSH hX [_, _, _, _, _, _] ws_L_95 dL_refuses_829 (w_flowX (mw_l X) (2147483647) (nI 0) (nI 0) (nI 0) _ _ _ (by decide) (by decide) (by decide) (c_flowX (mw_l X) (2147483647) (by unfold okR; decide) I L)) rfl (by decide) (Nat.le_of_ble_eq_true rfl) (Nat.le_of_ble_eq_true rfl) (Nat.le_of_ble_eq_true rfl) ?_
  refine mw_le (n' := 466) (k' := 2796) (Nat.le_of_ble_eq_true rfl) (Nat.le_of_ble_eq_true rfl) ?_
  refine mw_iload hX dL_refuses_832 rfl ?_
  refine mw_icmp_ne hX (tgt := 841) dL_refuses_834 (by decide) (fun h => absurd h (by decide)) (fun _ => ?_)
  refine mw_ic hX (nI 1) dL_refuses_837 rfl ?_
  refine mw_goto hX (tgt := 842) dL_refuses_838 (by decide) ?_
  refine mw_istore hX dL_refuses_842 (Nat.le_of_ble_eq_true rfl) ?_
  dsimp only [List.set]
  refine mw_inc hX (nI 16) dL_refuses_844 rfl (by decide) ?_
  dsimp only [List.set]
  refine mw_goto hX (tgt := 797) dL_refuses_847 (by decide) ?_
  refine mw_iload hX dL_refuses_797 rfl ?_
  refine mw_bp hX (nI 17) dL_refuses_799 rfl ?_
  refine mw_icmp_ge hX (tgt := 850) dL_refuses_801 (by decide) (fun h => absurd h (by decide)) (fun _ => ?_)
  refine mw_iload hX dL_refuses_804 rfl ?_
  refine mw_if_eq hX (tgt := 841) dL_refuses_806 (by decide) (fun h => absurd h (by decide)) (fun _ => ?_)
  refine mw_aload_n hX dL_refuses_809 rfl rfl ?_
  refine mw_iload hX dL_refuses_810 rfl ?_
  refine mw_iload hX dL_refuses_812 rfl ?_
  refine mw_bp hX (nI 13) dL_refuses_814 rfl ?_
  refine mw_icmp_ge hX (tgt := 824) dL_refuses_816 (by decide) (fun _ => ?_) (fun h => absurd h (by decide))
  refine mw_iload hX dL_refuses_824 rfl ?_
  refine mw_ic hX (nI 0) dL_refuses_826 rfl ?_
  refine mw_ic hX (nI 0) dL_refuses_827 rfl ?_
  refine mw_ic hX (nI 0) dL_refuses_828 rfl ?_
  refine mw_cSH hX [_, _, _, _, _, _] ws_L_95 dL_refuses_829 (w_energyX (mw_l X) (2147483647) (nI 0) (nI 0) (nI 0) _ _ _ (by decide) (by decide) (by decide) (c_energyX (mw_l X) (2147483647) (by unfold okR; decide) I L)) rfl (by decide) (Nat.le_of_ble_eq_true rfl) (Nat.le_of_ble_eq_true rfl) (Nat.le_of_ble_eq_true rfl) ?_
  refine mw_le (n' := 470) (k' := 2820) (Nat.le_of_ble_eq_true rfl) (Nat.le_of_ble_eq_true rfl) ?_
  refine mw_iload hX dL_refuses_832 rfl ?_
  refine mw_icmp_ne hX (tgt := 841) dL_refuses_834 (by decide) (fun h => absurd h (by decide)) (fun _ => ?_)
  refine mw_ic hX (nI 1) dL_refuses_837 rfl ?_
  refine mw_goto hX (tgt := 842) dL_refuses_838 (by decide) ?_
  refine mw_istore hX dL_refuses_842 (Nat.le_of_ble_eq_true rfl) ?_
  dsimp only [List.set]
  refine mw_inc hX (nI 17) dL_refuses_844 rfl (by decide) ?_
  dsimp only [List.set]
  refine mw_goto hX (tgt := 797) dL_refuses_847 (by decide) ?_
  refine mw_iload hX dL_refuses_797 rfl ?_
  refine mw_bp hX (nI 17) dL_refuses_799 rfl ?_
  refine mw_icmp_ge hX (tgt := 850) dL_refuses_801 (by decide) (fun _ => ?_) (fun h => absurd h (by decide))
  refine mw_bp hX (nI 18) dL_refuses_850 rfl ?_
  refine mw_istore hX dL_refuses_852 (Nat.le_of_ble_eq_true rfl) ?_
  dsimp only [List.set]
  refine mw_iload hX dL_refuses_854 rfl ?_
  refine mw_bp hX (nI 21) dL_refuses_856 rfl ?_
  refine mw_icmp_ge hX (tgt := 895) dL_refuses_858 (by decide) (fun h => absurd h (by decide)) (fun _ => ?_)
  refine mw_iload hX dL_refuses_861 rfl ?_
  refine mw_if_eq hX (tgt := 886) dL_refuses_863 (by decide) (fun h => absurd h (by decide)) (fun _ => ?_)
  refine mw_aload_n hX dL_refuses_866 rfl rfl ?_
  refine mw_iload hX dL_refuses_867 rfl ?_
  refine mw_iload hX dL_refuses_869 rfl ?_
  refine mw_ic hX (nI 0) dL_refuses_871 rfl ?_
  refine mw_ic hX (nI 0) dL_refuses_872 rfl ?_
  refine mw_ic hX (nI 0) dL_refuses_873 rfl ?_
  refine mw_cSH hX [_, _, _, _, _, _] ws_L_95 dL_refuses_874 (w_bestEnergyX (mw_l X) (2147483647) (nI 0) (nI 0) (nI 0) _ _ _ (by decide) (by decide) (by decide) (c_bestEnergyX (mw_l X) (2147483647) (by unfold okR; decide) I L)) rfl (by decide) (Nat.le_of_ble_eq_true rfl) (Nat.le_of_ble_eq_true rfl) (Nat.le_of_ble_eq_true rfl) ?_
  refine mw_le (n' := 474) (k' := 2844) (Nat.le_of_ble_eq_true rfl) (Nat.le_of_ble_eq_true rfl) ?_
  refine mw_iload hX dL_refuses_877 rfl ?_
  refine mw_icmp_ne hX (tgt := 886) dL_refuses_879 (by decide) (fun h => absurd h (by decide)) (fun _ => ?_)
  refine mw_ic hX (nI 1) dL_refuses_882 rfl ?_
  refine mw_goto hX (tgt := 887) dL_refuses_883 (by decide) ?_
  refine mw_istore hX dL_refuses_887 (Nat.le_of_ble_eq_true rfl) ?_
  dsimp only [List.set]
  refine mw_inc hX (nI 19) dL_refuses_889 rfl (by decide) ?_
  dsimp only [List.set]
  refine mw_goto hX (tgt := 854) dL_refuses_892 (by decide) ?_
  refine mw_iload hX dL_refuses_854 rfl ?_
  refine mw_bp hX (nI 21) dL_refuses_856 rfl ?_
  refine mw_icmp_ge hX (tgt := 895) dL_refuses_858 (by decide) (fun h => absurd h (by decide)) (fun _ => ?_)
  refine mw_iload hX dL_refuses_861 rfl ?_
  refine mw_if_eq hX (tgt := 886) dL_refuses_863 (by decide) (fun h => absurd h (by decide)) (fun _ => ?_)
  refine mw_aload_n hX dL_refuses_866 rfl rfl ?_
  refine mw_iload hX dL_refuses_867 rfl ?_
  refine mw_iload hX dL_refuses_869 rfl ?_
  refine mw_ic hX (nI 0) dL_refuses_871 rfl ?_
  refine mw_ic hX (nI 0) dL_refuses_872 rfl ?_
  refine mw_ic hX (nI 0) dL_refuses_873 rfl ?_
  refine mw_cSH hX [_, _, _, _, _, _] ws_L_95 dL_refuses_874 (w_bestEnergyByAllX (mw_l X) (2147483647) (nI 0) (nI 0) (nI 0) _ _ _ (by decide) (by decide) (by decide) (c_bestEnergyByAllX (mw_l X) (2147483647) (by unfold okR; decide) I L)) rfl (by decide) (Nat.le_of_ble_eq_true rfl) (Nat.le_of_ble_eq_true rfl) (Nat.le_of_ble_eq_true rfl) ?_
  refine mw_le (n' := 478) (k' := 2868) (Nat.le_of_ble_eq_true rfl) (Nat.le_of_ble_eq_true rfl) ?_
  refine mw_iload hX dL_refuses_877 rfl ?_
  refine mw_icmp_ne hX (tgt := 886) dL_refuses_879 (by decide) (fun h => absurd h (by decide)) (fun _ => ?_)
  refine mw_ic hX (nI 1) dL_refuses_882 rfl ?_
  refine mw_goto hX (tgt := 887) dL_refuses_883 (by decide) ?_
  refine mw_istore hX dL_refuses_887 (Nat.le_of_ble_eq_true rfl) ?_
  dsimp only [List.set]
  refine mw_inc hX (nI 20) dL_refuses_889 rfl (by decide) ?_
  dsimp only [List.set]
  refine mw_goto hX (tgt := 854) dL_refuses_892 (by decide) ?_
  refine mw_iload hX dL_refuses_854 rfl ?_
  refine mw_bp hX (nI 21) dL_refuses_856 rfl ?_
  refine mw_icmp_ge hX (tgt := 895) dL_refuses_858 (by decide) (fun h => absurd h (by decide)) (fun _ => ?_)
  refine mw_iload hX dL_refuses_861 rfl ?_
  refine mw_if_eq hX (tgt := 886) dL_refuses_863 (by decide) (fun h => absurd h (by decide)) (fun _ => ?_)
  refine mw_aload_n hX dL_refuses_866 rfl rfl ?_
  refine mw_iload hX dL_refuses_867 rfl ?_
  refine mw_iload hX dL_refuses_869 rfl ?_
  refine mw_ic hX (nI 0) dL_refuses_871 rfl ?_
  refine mw_ic hX (nI 0) dL_refuses_872 rfl ?_
  refine mw_ic hX (nI 0) dL_refuses_873 rfl ?_
  refine mw_cSH hX [_, _, _, _, _, _] ws_L_95 dL_refuses_874 (w_bestReleaseX (mw_l X) (2147483647) (nI 0) (nI 0) (nI 0) _ _ _ (by decide) (by decide) (by decide) (c_bestReleaseX (mw_l X) (2147483647) (by unfold okR; decide) I L)) rfl (by decide) (Nat.le_of_ble_eq_true rfl) (Nat.le_of_ble_eq_true rfl) (Nat.le_of_ble_eq_true rfl) ?_
  refine mw_le (n' := 482) (k' := 2892) (Nat.le_of_ble_eq_true rfl) (Nat.le_of_ble_eq_true rfl) ?_
  refine mw_iload hX dL_refuses_877 rfl ?_
  refine mw_icmp_ne hX (tgt := 886) dL_refuses_879 (by decide) (fun h => absurd h (by decide)) (fun _ => ?_)
  refine mw_ic hX (nI 1) dL_refuses_882 rfl ?_
  refine mw_goto hX (tgt := 887) dL_refuses_883 (by decide) ?_
  refine mw_istore hX dL_refuses_887 (Nat.le_of_ble_eq_true rfl) ?_
  dsimp only [List.set]
  refine mw_inc hX (nI 21) dL_refuses_889 rfl (by decide) ?_
  dsimp only [List.set]
  refine mw_goto hX (tgt := 854) dL_refuses_892 (by decide) ?_
  refine mw_iload hX dL_refuses_854 rfl ?_
  refine mw_bp hX (nI 21) dL_refuses_856 rfl ?_
  refine mw_icmp_ge hX (tgt := 895) dL_refuses_858 (by decide) (fun _ => ?_) (fun h => absurd h (by decide))
  refine mw_iload hX dL_refuses_895 rfl ?_
  refine mw_if_ne hX (tgt := 902) dL_refuses_897 (by decide) (fun _ => ?_) (fun h => absurd h (by decide))
  refine mw_inc hX (nI 3) dL_refuses_902 rfl (by decide) ?_
  dsimp only [List.set]
  refine mw_goto hX (tgt := 29) dL_refuses_905 (by decide) ?_
  refine mw_drop 7 ?_
  refine mw_drop 8 ?_
  refine mw_drop 9 ?_
  refine mw_drop 10 ?_
  refine mw_drop 11 ?_
  refine mw_drop 12 ?_
  refine mw_drop 13 ?_
  dsimp only [List.set]
  exact kk
