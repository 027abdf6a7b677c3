/-! the law's cases (by program: wip/whole/gen26.py) -/
set_option maxRecDepth 20000 in
theorem lc_setPond {X : mw_X} (hX : mw_Ok RL cL_law 14 601024 7293034 X) {N : Nat} {xs : Nat → Int32} (hS : lw_Sc X N xs) {i n k : Nat} (hi : i + 5 ≤ N) (hN : N ≤ 2560) {I J K : mw_I} {L L' : mw_L} {k0 : Int32} {dm : Nat} (hdm : dm < 14) (hw : mw_CT (mw_l X) yL_setPond (.codeWith yL_setPond cL_setPond 6 (some .int) [(0, 9, 12, 13)]) 13 10 60 [.ref 0, .int (xs (i + 1)), .int (xs (i + 2)), .int (xs (i + 3)), .int (xs (i + 4))] (mw_Y0, I, L) (.inl (some (.int k0), mw_Y0, J, L'))) (hm : mw_CT (mw_l X) yX2_setPond (.code yX2_setPond cX2_setPond 5 none) dm 0 0 [.ref 40, .int (xs (i + 1)), .int (xs (i + 2)), .int (xs (i + 3)), .int (xs (i + 4))] (mw_Y0, J, L') (.inl (none, mw_Y0, K, L'))) (ht : K 40 19 = k0) (hn : n + 10 ≤ 601024) (hk : k + 60 ≤ 7293034) (kk : mw_G X 1585 [some (.ref 1000000), some (.ref 0), some (.ref 40), some (.ref 59), some (.int (nI i)), none, none] [] mw_Y0 K L' (n + 10) (k + 60)) : mw_G X 144 [some (.ref 1000000), some (.ref 0), some (.ref 40), some (.ref 59), some (.int (nI i)), none, none] [] mw_Y0 I L n k := by
  refine mw_aload_n hX dL_law_144 rfl rfl ?_
  refine mw_aload_n hX dL_law_145 rfl rfl ?_
  refine mw_iload hX dL_law_146 rfl ?_
  refine mw_ic hX 1 dL_law_148 rfl ?_
  refine mw_iadd hX dL_law_149 ?_
  refine mw_sload hX hS (j := i + 1) dL_law_150 (by decide) (nI_add i 1) (by omega) (by omega) ?_
  refine mw_aload_n hX dL_law_151 rfl rfl ?_
  refine mw_iload hX dL_law_152 rfl ?_
  refine mw_ic hX 2 dL_law_154 rfl ?_
  refine mw_iadd hX dL_law_155 ?_
  refine mw_sload hX hS (j := i + 2) dL_law_156 (by decide) (nI_add i 2) (by omega) (by omega) ?_
  refine mw_aload_n hX dL_law_157 rfl rfl ?_
  refine mw_iload hX dL_law_158 rfl ?_
  refine mw_ic hX 3 dL_law_160 rfl ?_
  refine mw_iadd hX dL_law_161 ?_
  refine mw_sload hX hS (j := i + 3) dL_law_162 (by decide) (nI_add i 3) (by omega) (by omega) ?_
  refine mw_aload_n hX dL_law_163 rfl rfl ?_
  refine mw_iload hX dL_law_164 rfl ?_
  refine mw_ic hX 4 dL_law_166 rfl ?_
  refine mw_iadd hX dL_law_167 ?_
  refine mw_sload hX hS (j := i + 4) dL_law_168 (by decide) (nI_add i 4) (by omega) (by omega) ?_
  refine mw_cSH hX [_, _, _, _, _] ws_L_88 dL_law_169 hw rfl (by omega) hn hk (Nat.le_of_ble_eq_true rfl) ?_
  refine mw_istore hX dL_law_172 (Nat.le_of_ble_eq_true rfl) ?_
  dsimp only [List.set]
  refine mw_aload_n hX dL_law_174 rfl rfl ?_
  refine mw_aload_n hX dL_law_175 rfl rfl ?_
  refine mw_iload hX dL_law_176 rfl ?_
  refine mw_ic hX 1 dL_law_178 rfl ?_
  refine mw_iadd hX dL_law_179 ?_
  refine mw_sload hX hS (j := i + 1) dL_law_180 (by decide) (nI_add i 1) (by omega) (by omega) ?_
  refine mw_aload_n hX dL_law_181 rfl rfl ?_
  refine mw_iload hX dL_law_182 rfl ?_
  refine mw_ic hX 2 dL_law_184 rfl ?_
  refine mw_iadd hX dL_law_185 ?_
  refine mw_sload hX hS (j := i + 2) dL_law_186 (by decide) (nI_add i 2) (by omega) (by omega) ?_
  refine mw_aload_n hX dL_law_187 rfl rfl ?_
  refine mw_iload hX dL_law_188 rfl ?_
  refine mw_ic hX 3 dL_law_190 rfl ?_
  refine mw_iadd hX dL_law_191 ?_
  refine mw_sload hX hS (j := i + 3) dL_law_192 (by decide) (nI_add i 3) (by omega) (by omega) ?_
  refine mw_aload_n hX dL_law_193 rfl rfl ?_
  refine mw_iload hX dL_law_194 rfl ?_
  refine mw_ic hX 4 dL_law_196 rfl ?_
  refine mw_iadd hX dL_law_197 ?_
  refine mw_sload hX hS (j := i + 4) dL_law_198 (by decide) (nI_add i 4) (by omega) (by omega) ?_
  refine mw_cV hX [_, _, _, _] ws_L_93 dL_law_199 hm (mw_Yl (by decide)) mw_YM (by decide) rfl hdm (by omega) (by omega) (Nat.le_of_ble_eq_true rfl) ?_
  refine mw_aload_n hX dL_law_202 rfl rfl ?_
  refine mw_cV hX [] ws_L_94 dL_law_203 (c_m_thrown (mw_l X) K L') (mw_Yl (by decide)) mw_YM (by decide) rfl (by omega) (by omega) (by omega) (Nat.le_of_ble_eq_true rfl) ?_
  refine mw_iload hX dL_law_206 rfl ?_
  refine mw_icmp_eq hX (tgt := 213) dL_law_208 (by decide) (fun _ => ?_) (fun h208 => absurd ht h208)
  refine mw_goto hX (tgt := 1585) dL_law_213 (by decide) ?_
  refine mw_drop 5 ?_
  refine mw_drop 6 ?_
  dsimp only [List.set]
  exact kk
set_option maxRecDepth 20000 in
theorem lc_setInflow {X : mw_X} (hX : mw_Ok RL cL_law 14 601024 7293034 X) {N : Nat} {xs : Nat → Int32} (hS : lw_Sc X N xs) {i n k : Nat} (hi : i + 5 ≤ N) (hN : N ≤ 2560) {I J K : mw_I} {L L' : mw_L} {k0 b0 : Int32} {dm : Nat} (hdm : dm < 14) (hw : mw_CT (mw_l X) yL_setInflow (.codeWith yL_setInflow cL_setInflow 6 (some .int) [(0, 12, 15, 13)]) 13 10 60 [.ref 0, .int (xs (i + 1)), .int (xs (i + 2)), .int (xs (i + 3)), .ref 59] (mw_Y0, I, L) (.inl (some (.int k0), mw_Y0, J, L'))) (hm : mw_CT (mw_l X) yX2_setInflow (.code yX2_setInflow cX2_setInflow 5 (some .int)) dm 0 0 [.ref 40, .int (xs (i + 1)), .int (xs (i + 2)), .int (xs (i + 3))] (mw_Y0, J, L') (.inl (some (.int b0), mw_Y0, K, L'))) (ht : K 40 19 = k0) (he : k0 = 0 → L' 59 0 = b0.toInt64) (hn : n + 10 ≤ 601024) (hk : k + 60 ≤ 7293034) (kk : mw_G X 1585 [some (.ref 1000000), some (.ref 0), some (.ref 40), some (.ref 59), some (.int (nI i)), none, none] [] mw_Y0 K L' (n + 10) (k + 60)) : mw_G X 216 [some (.ref 1000000), some (.ref 0), some (.ref 40), some (.ref 59), some (.int (nI i)), none, none] [] mw_Y0 I L n k := by
  refine mw_aload_n hX dL_law_216 rfl rfl ?_
  refine mw_aload_n hX dL_law_217 rfl rfl ?_
  refine mw_iload hX dL_law_218 rfl ?_
  refine mw_ic hX 1 dL_law_220 rfl ?_
  refine mw_iadd hX dL_law_221 ?_
  refine mw_sload hX hS (j := i + 1) dL_law_222 (by decide) (nI_add i 1) (by omega) (by omega) ?_
  refine mw_aload_n hX dL_law_223 rfl rfl ?_
  refine mw_iload hX dL_law_224 rfl ?_
  refine mw_ic hX 2 dL_law_226 rfl ?_
  refine mw_iadd hX dL_law_227 ?_
  refine mw_sload hX hS (j := i + 2) dL_law_228 (by decide) (nI_add i 2) (by omega) (by omega) ?_
  refine mw_aload_n hX dL_law_229 rfl rfl ?_
  refine mw_iload hX dL_law_230 rfl ?_
  refine mw_ic hX 3 dL_law_232 rfl ?_
  refine mw_iadd hX dL_law_233 ?_
  refine mw_sload hX hS (j := i + 3) dL_law_234 (by decide) (nI_add i 3) (by omega) (by omega) ?_
  refine mw_aload_n hX dL_law_235 rfl rfl ?_
  refine mw_cSH hX [_, _, _, _, _] ws_L_98 dL_law_236 hw rfl (by omega) hn hk (Nat.le_of_ble_eq_true rfl) ?_
  refine mw_istore hX dL_law_239 (Nat.le_of_ble_eq_true rfl) ?_
  dsimp only [List.set]
  refine mw_aload_n hX dL_law_241 rfl rfl ?_
  refine mw_aload_n hX dL_law_242 rfl rfl ?_
  refine mw_iload hX dL_law_243 rfl ?_
  refine mw_ic hX 1 dL_law_245 rfl ?_
  refine mw_iadd hX dL_law_246 ?_
  refine mw_sload hX hS (j := i + 1) dL_law_247 (by decide) (nI_add i 1) (by omega) (by omega) ?_
  refine mw_aload_n hX dL_law_248 rfl rfl ?_
  refine mw_iload hX dL_law_249 rfl ?_
  refine mw_ic hX 2 dL_law_251 rfl ?_
  refine mw_iadd hX dL_law_252 ?_
  refine mw_sload hX hS (j := i + 2) dL_law_253 (by decide) (nI_add i 2) (by omega) (by omega) ?_
  refine mw_aload_n hX dL_law_254 rfl rfl ?_
  refine mw_iload hX dL_law_255 rfl ?_
  refine mw_ic hX 3 dL_law_257 rfl ?_
  refine mw_iadd hX dL_law_258 ?_
  refine mw_sload hX hS (j := i + 3) dL_law_259 (by decide) (nI_add i 3) (by omega) (by omega) ?_
  refine mw_cV hX [_, _, _] ws_L_101 dL_law_260 hm (mw_Yl (by decide)) mw_YM (by decide) rfl hdm (by omega) (by omega) (Nat.le_of_ble_eq_true rfl) ?_
  refine mw_istore hX dL_law_263 (Nat.le_of_ble_eq_true rfl) ?_
  dsimp only [List.set]
  refine mw_aload_n hX dL_law_265 rfl rfl ?_
  refine mw_cV hX [] ws_L_94 dL_law_266 (c_m_thrown (mw_l X) K L') (mw_Yl (by decide)) mw_YM (by decide) rfl (by omega) (by omega) (by omega) (Nat.le_of_ble_eq_true rfl) ?_
  refine mw_iload hX dL_law_269 rfl ?_
  refine mw_icmp_eq hX (tgt := 276) dL_law_271 (by decide) (fun _ => ?_) (fun h271 => absurd ht h271)
  refine mw_iload hX dL_law_276 rfl ?_
  refine mw_if_ne hX (tgt := 293) dL_law_278 (by decide) (fun h278 => ?_) (fun h278 => ?_)
  · refine mw_goto hX (tgt := 1585) dL_law_293 (by decide) ?_
    refine mw_drop 5 ?_
    refine mw_drop 6 ?_
    dsimp only [List.set]
    exact kk
  · refine mw_aload_n hX dL_law_281 rfl rfl ?_
    refine mw_ic hX 0 dL_law_282 rfl ?_
    refine mw_laload hX (j := 0) dL_law_283 (mw_Yl (by decide)) rfl rfl (by decide) (by decide) ?_
    refine mw_iload hX dL_law_284 rfl ?_
    refine mw_i2l hX dL_law_286 ?_
    refine mw_lcmp hX dL_law_287 ?_
    refine mw_if_eq hX (tgt := 293) dL_law_288 (by decide) (fun _ => ?_) (fun h9 => absurd (by rw [he h278]; exact lg_cmp_self _) h9)
    refine mw_goto hX (tgt := 1585) dL_law_293 (by decide) ?_
    refine mw_drop 5 ?_
    refine mw_drop 6 ?_
    dsimp only [List.set]
    exact kk
set_option maxRecDepth 20000 in
theorem lc_setMinimum {X : mw_X} (hX : mw_Ok RL cL_law 14 601024 7293034 X) {N : Nat} {xs : Nat → Int32} (hS : lw_Sc X N xs) {i n k : Nat} (hi : i + 5 ≤ N) (hN : N ≤ 2560) {I J K : mw_I} {L L' : mw_L} {k0 b0 : Int32} {dm : Nat} (hdm : dm < 14) (hw : mw_CT (mw_l X) yL_setMinimum (.codeWith yL_setMinimum cL_setMinimum 5 (some .int) [(0, 10, 13, 13)]) 13 10 60 [.ref 0, .int (xs (i + 1)), .int (xs (i + 2)), .ref 59] (mw_Y0, I, L) (.inl (some (.int k0), mw_Y0, J, L'))) (hm : mw_CT (mw_l X) yX2_setMinimum (.code yX2_setMinimum cX2_setMinimum 4 (some .int)) dm 0 0 [.ref 40, .int (xs (i + 1)), .int (xs (i + 2))] (mw_Y0, J, L') (.inl (some (.int b0), mw_Y0, K, L'))) (ht : K 40 19 = k0) (he : k0 = 0 → L' 59 0 = b0.toInt64) (hn : n + 10 ≤ 601024) (hk : k + 60 ≤ 7293034) (kk : mw_G X 1585 [some (.ref 1000000), some (.ref 0), some (.ref 40), some (.ref 59), some (.int (nI i)), none, none] [] mw_Y0 K L' (n + 10) (k + 60)) : mw_G X 296 [some (.ref 1000000), some (.ref 0), some (.ref 40), some (.ref 59), some (.int (nI i)), none, none] [] mw_Y0 I L n k := by
  refine mw_aload_n hX dL_law_296 rfl rfl ?_
  refine mw_aload_n hX dL_law_297 rfl rfl ?_
  refine mw_iload hX dL_law_298 rfl ?_
  refine mw_ic hX 1 dL_law_300 rfl ?_
  refine mw_iadd hX dL_law_301 ?_
  refine mw_sload hX hS (j := i + 1) dL_law_302 (by decide) (nI_add i 1) (by omega) (by omega) ?_
  refine mw_aload_n hX dL_law_303 rfl rfl ?_
  refine mw_iload hX dL_law_304 rfl ?_
  refine mw_ic hX 2 dL_law_306 rfl ?_
  refine mw_iadd hX dL_law_307 ?_
  refine mw_sload hX hS (j := i + 2) dL_law_308 (by decide) (nI_add i 2) (by omega) (by omega) ?_
  refine mw_aload_n hX dL_law_309 rfl rfl ?_
  refine mw_cSH hX [_, _, _, _] ws_L_102 dL_law_310 hw rfl (by omega) hn hk (Nat.le_of_ble_eq_true rfl) ?_
  refine mw_istore hX dL_law_313 (Nat.le_of_ble_eq_true rfl) ?_
  dsimp only [List.set]
  refine mw_aload_n hX dL_law_315 rfl rfl ?_
  refine mw_aload_n hX dL_law_316 rfl rfl ?_
  refine mw_iload hX dL_law_317 rfl ?_
  refine mw_ic hX 1 dL_law_319 rfl ?_
  refine mw_iadd hX dL_law_320 ?_
  refine mw_sload hX hS (j := i + 1) dL_law_321 (by decide) (nI_add i 1) (by omega) (by omega) ?_
  refine mw_aload_n hX dL_law_322 rfl rfl ?_
  refine mw_iload hX dL_law_323 rfl ?_
  refine mw_ic hX 2 dL_law_325 rfl ?_
  refine mw_iadd hX dL_law_326 ?_
  refine mw_sload hX hS (j := i + 2) dL_law_327 (by decide) (nI_add i 2) (by omega) (by omega) ?_
  refine mw_cV hX [_, _] ws_L_105 dL_law_328 hm (mw_Yl (by decide)) mw_YM (by decide) rfl hdm (by omega) (by omega) (Nat.le_of_ble_eq_true rfl) ?_
  refine mw_istore hX dL_law_331 (Nat.le_of_ble_eq_true rfl) ?_
  dsimp only [List.set]
  refine mw_aload_n hX dL_law_333 rfl rfl ?_
  refine mw_cV hX [] ws_L_94 dL_law_334 (c_m_thrown (mw_l X) K L') (mw_Yl (by decide)) mw_YM (by decide) rfl (by omega) (by omega) (by omega) (Nat.le_of_ble_eq_true rfl) ?_
  refine mw_iload hX dL_law_337 rfl ?_
  refine mw_icmp_eq hX (tgt := 344) dL_law_339 (by decide) (fun _ => ?_) (fun h339 => absurd ht h339)
  refine mw_iload hX dL_law_344 rfl ?_
  refine mw_if_ne hX (tgt := 361) dL_law_346 (by decide) (fun h346 => ?_) (fun h346 => ?_)
  · refine mw_goto hX (tgt := 1585) dL_law_361 (by decide) ?_
    refine mw_drop 5 ?_
    refine mw_drop 6 ?_
    dsimp only [List.set]
    exact kk
  · refine mw_aload_n hX dL_law_349 rfl rfl ?_
    refine mw_ic hX 0 dL_law_350 rfl ?_
    refine mw_laload hX (j := 0) dL_law_351 (mw_Yl (by decide)) rfl rfl (by decide) (by decide) ?_
    refine mw_iload hX dL_law_352 rfl ?_
    refine mw_i2l hX dL_law_354 ?_
    refine mw_lcmp hX dL_law_355 ?_
    refine mw_if_eq hX (tgt := 361) dL_law_356 (by decide) (fun _ => ?_) (fun h9 => absurd (by rw [he h346]; exact lg_cmp_self _) h9)
    refine mw_goto hX (tgt := 1585) dL_law_361 (by decide) ?_
    refine mw_drop 5 ?_
    refine mw_drop 6 ?_
    dsimp only [List.set]
    exact kk
set_option maxRecDepth 20000 in
theorem lc_order {X : mw_X} (hX : mw_Ok RL cL_law 14 601024 7293034 X) {N : Nat} {xs : Nat → Int32} (hS : lw_Sc X N xs) {i n k : Nat} (hi : i + 5 ≤ N) (hN : N ≤ 2560) {I J K : mw_I} {L L' : mw_L} {k0 b0 : Int32} {dm : Nat} (hdm : dm < 14) (hw : mw_CT (mw_l X) yL_order (.codeWith yL_order cL_order 6 (some .int) [(0, 12, 15, 13)]) 13 10 60 [.ref 0, .int (xs (i + 1)), .int (xs (i + 2)), .int (xs (i + 3)), .ref 59] (mw_Y0, I, L) (.inl (some (.int k0), mw_Y0, J, L'))) (hm : mw_CT (mw_l X) yX2_order (.code yX2_order cX2_order 5 (some .int)) dm 0 0 [.ref 40, .int (xs (i + 1)), .int (xs (i + 2)), .int (xs (i + 3))] (mw_Y0, J, L') (.inl (some (.int b0), mw_Y0, K, L'))) (ht : K 40 19 = k0) (he : k0 = 0 → L' 59 0 = b0.toInt64) (hn : n + 10 ≤ 601024) (hk : k + 60 ≤ 7293034) (kk : mw_G X 1585 [some (.ref 1000000), some (.ref 0), some (.ref 40), some (.ref 59), some (.int (nI i)), none, none] [] mw_Y0 K L' (n + 10) (k + 60)) : mw_G X 364 [some (.ref 1000000), some (.ref 0), some (.ref 40), some (.ref 59), some (.int (nI i)), none, none] [] mw_Y0 I L n k := by
  refine mw_aload_n hX dL_law_364 rfl rfl ?_
  refine mw_aload_n hX dL_law_365 rfl rfl ?_
  refine mw_iload hX dL_law_366 rfl ?_
  refine mw_ic hX 1 dL_law_368 rfl ?_
  refine mw_iadd hX dL_law_369 ?_
  refine mw_sload hX hS (j := i + 1) dL_law_370 (by decide) (nI_add i 1) (by omega) (by omega) ?_
  refine mw_aload_n hX dL_law_371 rfl rfl ?_
  refine mw_iload hX dL_law_372 rfl ?_
  refine mw_ic hX 2 dL_law_374 rfl ?_
  refine mw_iadd hX dL_law_375 ?_
  refine mw_sload hX hS (j := i + 2) dL_law_376 (by decide) (nI_add i 2) (by omega) (by omega) ?_
  refine mw_aload_n hX dL_law_377 rfl rfl ?_
  refine mw_iload hX dL_law_378 rfl ?_
  refine mw_ic hX 3 dL_law_380 rfl ?_
  refine mw_iadd hX dL_law_381 ?_
  refine mw_sload hX hS (j := i + 3) dL_law_382 (by decide) (nI_add i 3) (by omega) (by omega) ?_
  refine mw_aload_n hX dL_law_383 rfl rfl ?_
  refine mw_cSH hX [_, _, _, _, _] ws_L_106 dL_law_384 hw rfl (by omega) hn hk (Nat.le_of_ble_eq_true rfl) ?_
  refine mw_istore hX dL_law_387 (Nat.le_of_ble_eq_true rfl) ?_
  dsimp only [List.set]
  refine mw_aload_n hX dL_law_389 rfl rfl ?_
  refine mw_aload_n hX dL_law_390 rfl rfl ?_
  refine mw_iload hX dL_law_391 rfl ?_
  refine mw_ic hX 1 dL_law_393 rfl ?_
  refine mw_iadd hX dL_law_394 ?_
  refine mw_sload hX hS (j := i + 1) dL_law_395 (by decide) (nI_add i 1) (by omega) (by omega) ?_
  refine mw_aload_n hX dL_law_396 rfl rfl ?_
  refine mw_iload hX dL_law_397 rfl ?_
  refine mw_ic hX 2 dL_law_399 rfl ?_
  refine mw_iadd hX dL_law_400 ?_
  refine mw_sload hX hS (j := i + 2) dL_law_401 (by decide) (nI_add i 2) (by omega) (by omega) ?_
  refine mw_aload_n hX dL_law_402 rfl rfl ?_
  refine mw_iload hX dL_law_403 rfl ?_
  refine mw_ic hX 3 dL_law_405 rfl ?_
  refine mw_iadd hX dL_law_406 ?_
  refine mw_sload hX hS (j := i + 3) dL_law_407 (by decide) (nI_add i 3) (by omega) (by omega) ?_
  refine mw_cV hX [_, _, _] ws_L_108 dL_law_408 hm (mw_Yl (by decide)) mw_YM (by decide) rfl hdm (by omega) (by omega) (Nat.le_of_ble_eq_true rfl) ?_
  refine mw_istore hX dL_law_411 (Nat.le_of_ble_eq_true rfl) ?_
  dsimp only [List.set]
  refine mw_aload_n hX dL_law_413 rfl rfl ?_
  refine mw_cV hX [] ws_L_94 dL_law_414 (c_m_thrown (mw_l X) K L') (mw_Yl (by decide)) mw_YM (by decide) rfl (by omega) (by omega) (by omega) (Nat.le_of_ble_eq_true rfl) ?_
  refine mw_iload hX dL_law_417 rfl ?_
  refine mw_icmp_eq hX (tgt := 424) dL_law_419 (by decide) (fun _ => ?_) (fun h419 => absurd ht h419)
  refine mw_iload hX dL_law_424 rfl ?_
  refine mw_if_ne hX (tgt := 441) dL_law_426 (by decide) (fun h426 => ?_) (fun h426 => ?_)
  · refine mw_goto hX (tgt := 1585) dL_law_441 (by decide) ?_
    refine mw_drop 5 ?_
    refine mw_drop 6 ?_
    dsimp only [List.set]
    exact kk
  · refine mw_aload_n hX dL_law_429 rfl rfl ?_
    refine mw_ic hX 0 dL_law_430 rfl ?_
    refine mw_laload hX (j := 0) dL_law_431 (mw_Yl (by decide)) rfl rfl (by decide) (by decide) ?_
    refine mw_iload hX dL_law_432 rfl ?_
    refine mw_i2l hX dL_law_434 ?_
    refine mw_lcmp hX dL_law_435 ?_
    refine mw_if_eq hX (tgt := 441) dL_law_436 (by decide) (fun _ => ?_) (fun h9 => absurd (by rw [he h426]; exact lg_cmp_self _) h9)
    refine mw_goto hX (tgt := 1585) dL_law_441 (by decide) ?_
    refine mw_drop 5 ?_
    refine mw_drop 6 ?_
    dsimp only [List.set]
    exact kk
set_option maxRecDepth 20000 in
theorem lc_setYield {X : mw_X} (hX : mw_Ok RL cL_law 14 601024 7293034 X) {N : Nat} {xs : Nat → Int32} (hS : lw_Sc X N xs) {i n k : Nat} (hi : i + 5 ≤ N) (hN : N ≤ 2560) {I J K : mw_I} {L L' : mw_L} {k0 b0 : Int32} {dm : Nat} (hdm : dm < 14) (hw : mw_CT (mw_l X) yL_setYield (.codeWith yL_setYield cL_setYield 7 (some .int) [(0, 14, 17, 13)]) 13 10 60 [.ref 0, .int (xs (i + 1)), .int (xs (i + 2)), .int (xs (i + 3)), .int (xs (i + 4)), .ref 59] (mw_Y0, I, L) (.inl (some (.int k0), mw_Y0, J, L'))) (hm : mw_CT (mw_l X) yX2_setYield (.code yX2_setYield cX2_setYield 7 (some .int)) dm 0 0 [.ref 40, .int (xs (i + 1)), .int (xs (i + 2)), .int (xs (i + 3)), .int (xs (i + 4))] (mw_Y0, J, L') (.inl (some (.int b0), mw_Y0, K, L'))) (ht : K 40 19 = k0) (he : k0 = 0 → L' 59 0 = b0.toInt64) (hn : n + 10 ≤ 601024) (hk : k + 60 ≤ 7293034) (kk : mw_G X 1585 [some (.ref 1000000), some (.ref 0), some (.ref 40), some (.ref 59), some (.int (nI i)), none, none] [] mw_Y0 K L' (n + 10) (k + 60)) : mw_G X 444 [some (.ref 1000000), some (.ref 0), some (.ref 40), some (.ref 59), some (.int (nI i)), none, none] [] mw_Y0 I L n k := by
  refine mw_aload_n hX dL_law_444 rfl rfl ?_
  refine mw_aload_n hX dL_law_445 rfl rfl ?_
  refine mw_iload hX dL_law_446 rfl ?_
  refine mw_ic hX 1 dL_law_448 rfl ?_
  refine mw_iadd hX dL_law_449 ?_
  refine mw_sload hX hS (j := i + 1) dL_law_450 (by decide) (nI_add i 1) (by omega) (by omega) ?_
  refine mw_aload_n hX dL_law_451 rfl rfl ?_
  refine mw_iload hX dL_law_452 rfl ?_
  refine mw_ic hX 2 dL_law_454 rfl ?_
  refine mw_iadd hX dL_law_455 ?_
  refine mw_sload hX hS (j := i + 2) dL_law_456 (by decide) (nI_add i 2) (by omega) (by omega) ?_
  refine mw_aload_n hX dL_law_457 rfl rfl ?_
  refine mw_iload hX dL_law_458 rfl ?_
  refine mw_ic hX 3 dL_law_460 rfl ?_
  refine mw_iadd hX dL_law_461 ?_
  refine mw_sload hX hS (j := i + 3) dL_law_462 (by decide) (nI_add i 3) (by omega) (by omega) ?_
  refine mw_aload_n hX dL_law_463 rfl rfl ?_
  refine mw_iload hX dL_law_464 rfl ?_
  refine mw_ic hX 4 dL_law_466 rfl ?_
  refine mw_iadd hX dL_law_467 ?_
  refine mw_sload hX hS (j := i + 4) dL_law_468 (by decide) (nI_add i 4) (by omega) (by omega) ?_
  refine mw_aload_n hX dL_law_469 rfl rfl ?_
  refine mw_cSH hX [_, _, _, _, _, _] ws_L_109 dL_law_470 hw rfl (by omega) hn hk (Nat.le_of_ble_eq_true rfl) ?_
  refine mw_istore hX dL_law_473 (Nat.le_of_ble_eq_true rfl) ?_
  dsimp only [List.set]
  refine mw_aload_n hX dL_law_475 rfl rfl ?_
  refine mw_aload_n hX dL_law_476 rfl rfl ?_
  refine mw_iload hX dL_law_477 rfl ?_
  refine mw_ic hX 1 dL_law_479 rfl ?_
  refine mw_iadd hX dL_law_480 ?_
  refine mw_sload hX hS (j := i + 1) dL_law_481 (by decide) (nI_add i 1) (by omega) (by omega) ?_
  refine mw_aload_n hX dL_law_482 rfl rfl ?_
  refine mw_iload hX dL_law_483 rfl ?_
  refine mw_ic hX 2 dL_law_485 rfl ?_
  refine mw_iadd hX dL_law_486 ?_
  refine mw_sload hX hS (j := i + 2) dL_law_487 (by decide) (nI_add i 2) (by omega) (by omega) ?_
  refine mw_aload_n hX dL_law_488 rfl rfl ?_
  refine mw_iload hX dL_law_489 rfl ?_
  refine mw_ic hX 3 dL_law_491 rfl ?_
  refine mw_iadd hX dL_law_492 ?_
  refine mw_sload hX hS (j := i + 3) dL_law_493 (by decide) (nI_add i 3) (by omega) (by omega) ?_
  refine mw_aload_n hX dL_law_494 rfl rfl ?_
  refine mw_iload hX dL_law_495 rfl ?_
  refine mw_ic hX 4 dL_law_497 rfl ?_
  refine mw_iadd hX dL_law_498 ?_
  refine mw_sload hX hS (j := i + 4) dL_law_499 (by decide) (nI_add i 4) (by omega) (by omega) ?_
  refine mw_cV hX [_, _, _, _] ws_L_112 dL_law_500 hm (mw_Yl (by decide)) mw_YM (by decide) rfl hdm (by omega) (by omega) (Nat.le_of_ble_eq_true rfl) ?_
  refine mw_istore hX dL_law_503 (Nat.le_of_ble_eq_true rfl) ?_
  dsimp only [List.set]
  refine mw_aload_n hX dL_law_505 rfl rfl ?_
  refine mw_cV hX [] ws_L_94 dL_law_506 (c_m_thrown (mw_l X) K L') (mw_Yl (by decide)) mw_YM (by decide) rfl (by omega) (by omega) (by omega) (Nat.le_of_ble_eq_true rfl) ?_
  refine mw_iload hX dL_law_509 rfl ?_
  refine mw_icmp_eq hX (tgt := 516) dL_law_511 (by decide) (fun _ => ?_) (fun h511 => absurd ht h511)
  refine mw_iload hX dL_law_516 rfl ?_
  refine mw_if_ne hX (tgt := 533) dL_law_518 (by decide) (fun h518 => ?_) (fun h518 => ?_)
  · refine mw_goto hX (tgt := 1585) dL_law_533 (by decide) ?_
    refine mw_drop 5 ?_
    refine mw_drop 6 ?_
    dsimp only [List.set]
    exact kk
  · refine mw_aload_n hX dL_law_521 rfl rfl ?_
    refine mw_ic hX 0 dL_law_522 rfl ?_
    refine mw_laload hX (j := 0) dL_law_523 (mw_Yl (by decide)) rfl rfl (by decide) (by decide) ?_
    refine mw_iload hX dL_law_524 rfl ?_
    refine mw_i2l hX dL_law_526 ?_
    refine mw_lcmp hX dL_law_527 ?_
    refine mw_if_eq hX (tgt := 533) dL_law_528 (by decide) (fun _ => ?_) (fun h9 => absurd (by rw [he h518]; exact lg_cmp_self _) h9)
    refine mw_goto hX (tgt := 1585) dL_law_533 (by decide) ?_
    refine mw_drop 5 ?_
    refine mw_drop 6 ?_
    dsimp only [List.set]
    exact kk
set_option maxRecDepth 20000 in
theorem lc_run {X : mw_X} (hX : mw_Ok RL cL_law 14 601024 7293034 X) {N : Nat} {xs : Nat → Int32} (hS : lw_Sc X N xs) {i n k : Nat} (hi : i + 5 ≤ N) (hN : N ≤ 2560) {I J K : mw_I} {L L' : mw_L} {k0 b0 : Int32} {dm : Nat} (hdm : dm < 14) (hw : mw_CT (mw_l X) yL_run (.codeWith yL_run cL_run 4 (some .int) [(0, 9, 12, 13), (0, 9, 15, 34)]) 13 10 60 [.ref 0, .int (xs (i + 1)), .ref 59] (mw_Y0, I, L) (.inl (some (.int k0), mw_Y0, J, L'))) (hm : mw_CT (mw_l X) yX2_run (.code yX2_run cX2_run 4 (some .int)) dm 0 0 [.ref 40, .int (xs (i + 1))] (mw_Y0, J, L') (.inl (some (.int b0), mw_Y0, K, L'))) (ht : K 40 19 = k0) (he : k0 = 0 → L' 59 0 = b0.toInt64) (hn : n + 10 ≤ 601024) (hk : k + 60 ≤ 7293034) (kk : mw_G X 1585 [some (.ref 1000000), some (.ref 0), some (.ref 40), some (.ref 59), some (.int (nI i)), none, none] [] mw_Y0 K L' (n + 10) (k + 60)) : mw_G X 536 [some (.ref 1000000), some (.ref 0), some (.ref 40), some (.ref 59), some (.int (nI i)), none, none] [] mw_Y0 I L n k := by
  refine mw_aload_n hX dL_law_536 rfl rfl ?_
  refine mw_aload_n hX dL_law_537 rfl rfl ?_
  refine mw_iload hX dL_law_538 rfl ?_
  refine mw_ic hX 1 dL_law_540 rfl ?_
  refine mw_iadd hX dL_law_541 ?_
  refine mw_sload hX hS (j := i + 1) dL_law_542 (by decide) (nI_add i 1) (by omega) (by omega) ?_
  refine mw_aload_n hX dL_law_543 rfl rfl ?_
  refine mw_cSH hX [_, _, _] ws_L_113 dL_law_544 hw rfl (by omega) hn hk (Nat.le_of_ble_eq_true rfl) ?_
  refine mw_istore hX dL_law_547 (Nat.le_of_ble_eq_true rfl) ?_
  dsimp only [List.set]
  refine mw_aload_n hX dL_law_549 rfl rfl ?_
  refine mw_aload_n hX dL_law_550 rfl rfl ?_
  refine mw_iload hX dL_law_551 rfl ?_
  refine mw_ic hX 1 dL_law_553 rfl ?_
  refine mw_iadd hX dL_law_554 ?_
  refine mw_sload hX hS (j := i + 1) dL_law_555 (by decide) (nI_add i 1) (by omega) (by omega) ?_
  refine mw_cV hX [_] ws_L_116 dL_law_556 hm (mw_Yl (by decide)) mw_YM (by decide) rfl hdm (by omega) (by omega) (Nat.le_of_ble_eq_true rfl) ?_
  refine mw_istore hX dL_law_559 (Nat.le_of_ble_eq_true rfl) ?_
  dsimp only [List.set]
  refine mw_aload_n hX dL_law_561 rfl rfl ?_
  refine mw_cV hX [] ws_L_94 dL_law_562 (c_m_thrown (mw_l X) K L') (mw_Yl (by decide)) mw_YM (by decide) rfl (by omega) (by omega) (by omega) (Nat.le_of_ble_eq_true rfl) ?_
  refine mw_iload hX dL_law_565 rfl ?_
  refine mw_icmp_eq hX (tgt := 572) dL_law_567 (by decide) (fun _ => ?_) (fun h567 => absurd ht h567)
  refine mw_iload hX dL_law_572 rfl ?_
  refine mw_if_ne hX (tgt := 589) dL_law_574 (by decide) (fun h574 => ?_) (fun h574 => ?_)
  · refine mw_goto hX (tgt := 1585) dL_law_589 (by decide) ?_
    refine mw_drop 5 ?_
    refine mw_drop 6 ?_
    dsimp only [List.set]
    exact kk
  · refine mw_aload_n hX dL_law_577 rfl rfl ?_
    refine mw_ic hX 0 dL_law_578 rfl ?_
    refine mw_laload hX (j := 0) dL_law_579 (mw_Yl (by decide)) rfl rfl (by decide) (by decide) ?_
    refine mw_iload hX dL_law_580 rfl ?_
    refine mw_i2l hX dL_law_582 ?_
    refine mw_lcmp hX dL_law_583 ?_
    refine mw_if_eq hX (tgt := 589) dL_law_584 (by decide) (fun _ => ?_) (fun h9 => absurd (by rw [he h574]; exact lg_cmp_self _) h9)
    refine mw_goto hX (tgt := 1585) dL_law_589 (by decide) ?_
    refine mw_drop 5 ?_
    refine mw_drop 6 ?_
    dsimp only [List.set]
    exact kk
set_option maxRecDepth 20000 in
theorem lc_lend {X : mw_X} (hX : mw_Ok RL cL_law 14 601024 7293034 X) {N : Nat} {xs : Nat → Int32} (hS : lw_Sc X N xs) {i n k : Nat} (hi : i + 5 ≤ N) (hN : N ≤ 2560) {I J K : mw_I} {L L' : mw_L} {k0 b0 : Int32} {dm : Nat} (hdm : dm < 14) (hw : mw_CT (mw_l X) yL_lend (.codeWith yL_lend cL_lend 6 (some .int) [(0, 12, 15, 13), (0, 12, 19, 34)]) 13 10 60 [.ref 0, .int (xs (i + 1)), .int (xs (i + 2)), .int (xs (i + 3)), .ref 59] (mw_Y0, I, L) (.inl (some (.int k0), mw_Y0, J, L'))) (hm : mw_CT (mw_l X) yX2_lend (.code yX2_lend cX2_lend 4 (some .int)) dm 0 0 [.ref 40, .int (xs (i + 1)), .int (xs (i + 2)), .int (xs (i + 3))] (mw_Y0, J, L') (.inl (some (.int b0), mw_Y0, K, L'))) (ht : K 40 19 = k0) (he : k0 = 0 → L' 59 0 = b0.toInt64) (hn : n + 10 ≤ 601024) (hk : k + 60 ≤ 7293034) (kk : mw_G X 1585 [some (.ref 1000000), some (.ref 0), some (.ref 40), some (.ref 59), some (.int (nI i)), none, none] [] mw_Y0 K L' (n + 10) (k + 60)) : mw_G X 605 [some (.ref 1000000), some (.ref 0), some (.ref 40), some (.ref 59), some (.int (nI i)), none, none] [] mw_Y0 I L n k := by
  refine mw_aload_n hX dL_law_605 rfl rfl ?_
  refine mw_aload_n hX dL_law_606 rfl rfl ?_
  refine mw_iload hX dL_law_607 rfl ?_
  refine mw_ic hX 1 dL_law_609 rfl ?_
  refine mw_iadd hX dL_law_610 ?_
  refine mw_sload hX hS (j := i + 1) dL_law_611 (by decide) (nI_add i 1) (by omega) (by omega) ?_
  refine mw_aload_n hX dL_law_612 rfl rfl ?_
  refine mw_iload hX dL_law_613 rfl ?_
  refine mw_ic hX 2 dL_law_615 rfl ?_
  refine mw_iadd hX dL_law_616 ?_
  refine mw_sload hX hS (j := i + 2) dL_law_617 (by decide) (nI_add i 2) (by omega) (by omega) ?_
  refine mw_aload_n hX dL_law_618 rfl rfl ?_
  refine mw_iload hX dL_law_619 rfl ?_
  refine mw_ic hX 3 dL_law_621 rfl ?_
  refine mw_iadd hX dL_law_622 ?_
  refine mw_sload hX hS (j := i + 3) dL_law_623 (by decide) (nI_add i 3) (by omega) (by omega) ?_
  refine mw_aload_n hX dL_law_624 rfl rfl ?_
  refine mw_cSH hX [_, _, _, _, _] ws_L_121 dL_law_625 hw rfl (by omega) hn hk (Nat.le_of_ble_eq_true rfl) ?_
  refine mw_istore hX dL_law_628 (Nat.le_of_ble_eq_true rfl) ?_
  dsimp only [List.set]
  refine mw_aload_n hX dL_law_630 rfl rfl ?_
  refine mw_aload_n hX dL_law_631 rfl rfl ?_
  refine mw_iload hX dL_law_632 rfl ?_
  refine mw_ic hX 1 dL_law_634 rfl ?_
  refine mw_iadd hX dL_law_635 ?_
  refine mw_sload hX hS (j := i + 1) dL_law_636 (by decide) (nI_add i 1) (by omega) (by omega) ?_
  refine mw_aload_n hX dL_law_637 rfl rfl ?_
  refine mw_iload hX dL_law_638 rfl ?_
  refine mw_ic hX 2 dL_law_640 rfl ?_
  refine mw_iadd hX dL_law_641 ?_
  refine mw_sload hX hS (j := i + 2) dL_law_642 (by decide) (nI_add i 2) (by omega) (by omega) ?_
  refine mw_aload_n hX dL_law_643 rfl rfl ?_
  refine mw_iload hX dL_law_644 rfl ?_
  refine mw_ic hX 3 dL_law_646 rfl ?_
  refine mw_iadd hX dL_law_647 ?_
  refine mw_sload hX hS (j := i + 3) dL_law_648 (by decide) (nI_add i 3) (by omega) (by omega) ?_
  refine mw_cV hX [_, _, _] ws_L_123 dL_law_649 hm (mw_Yl (by decide)) mw_YM (by decide) rfl hdm (by omega) (by omega) (Nat.le_of_ble_eq_true rfl) ?_
  refine mw_istore hX dL_law_652 (Nat.le_of_ble_eq_true rfl) ?_
  dsimp only [List.set]
  refine mw_aload_n hX dL_law_654 rfl rfl ?_
  refine mw_cV hX [] ws_L_94 dL_law_655 (c_m_thrown (mw_l X) K L') (mw_Yl (by decide)) mw_YM (by decide) rfl (by omega) (by omega) (by omega) (Nat.le_of_ble_eq_true rfl) ?_
  refine mw_iload hX dL_law_658 rfl ?_
  refine mw_icmp_eq hX (tgt := 665) dL_law_660 (by decide) (fun _ => ?_) (fun h660 => absurd ht h660)
  refine mw_iload hX dL_law_665 rfl ?_
  refine mw_if_ne hX (tgt := 682) dL_law_667 (by decide) (fun h667 => ?_) (fun h667 => ?_)
  · refine mw_goto hX (tgt := 1585) dL_law_682 (by decide) ?_
    refine mw_drop 5 ?_
    refine mw_drop 6 ?_
    dsimp only [List.set]
    exact kk
  · refine mw_aload_n hX dL_law_670 rfl rfl ?_
    refine mw_ic hX 0 dL_law_671 rfl ?_
    refine mw_laload hX (j := 0) dL_law_672 (mw_Yl (by decide)) rfl rfl (by decide) (by decide) ?_
    refine mw_iload hX dL_law_673 rfl ?_
    refine mw_i2l hX dL_law_675 ?_
    refine mw_lcmp hX dL_law_676 ?_
    refine mw_if_eq hX (tgt := 682) dL_law_677 (by decide) (fun _ => ?_) (fun h9 => absurd (by rw [he h667]; exact lg_cmp_self _) h9)
    refine mw_goto hX (tgt := 1585) dL_law_682 (by decide) ?_
    refine mw_drop 5 ?_
    refine mw_drop 6 ?_
    dsimp only [List.set]
    exact kk
set_option maxRecDepth 20000 in
theorem lc_account {X : mw_X} (hX : mw_Ok RL cL_law 14 601024 7293034 X) {N : Nat} {xs : Nat → Int32} (hS : lw_Sc X N xs) {i n k : Nat} (hi : i + 5 ≤ N) (hN : N ≤ 2560) {I J K : mw_I} {L L' : mw_L} {k0 b0 : Int32} {dm : Nat} (hdm : dm < 14) (hw : mw_CT (mw_l X) yL_account (.codeWith yL_account cL_account 5 (some .int) [(0, 10, 13, 13)]) 13 10 60 [.ref 0, .int (xs (i + 1)), .int (xs (i + 2)), .ref 59] (mw_Y0, I, L) (.inl (some (.int k0), mw_Y0, J, L'))) (hm : mw_CT (mw_l X) yX2_account (.code yX2_account cX2_account 3 (some .int)) dm 0 0 [.ref 40, .int (xs (i + 1)), .int (xs (i + 2))] (mw_Y0, J, L') (.inl (some (.int b0), mw_Y0, K, L'))) (ht : K 40 19 = k0) (he : k0 = 0 → L' 59 0 = b0.toInt64) (hn : n + 10 ≤ 601024) (hk : k + 60 ≤ 7293034) (kk : mw_G X 1585 [some (.ref 1000000), some (.ref 0), some (.ref 40), some (.ref 59), some (.int (nI i)), none, none] [] mw_Y0 K L' (n + 10) (k + 60)) : mw_G X 685 [some (.ref 1000000), some (.ref 0), some (.ref 40), some (.ref 59), some (.int (nI i)), none, none] [] mw_Y0 I L n k := by
  refine mw_aload_n hX dL_law_685 rfl rfl ?_
  refine mw_aload_n hX dL_law_686 rfl rfl ?_
  refine mw_iload hX dL_law_687 rfl ?_
  refine mw_ic hX 1 dL_law_689 rfl ?_
  refine mw_iadd hX dL_law_690 ?_
  refine mw_sload hX hS (j := i + 1) dL_law_691 (by decide) (nI_add i 1) (by omega) (by omega) ?_
  refine mw_aload_n hX dL_law_692 rfl rfl ?_
  refine mw_iload hX dL_law_693 rfl ?_
  refine mw_ic hX 2 dL_law_695 rfl ?_
  refine mw_iadd hX dL_law_696 ?_
  refine mw_sload hX hS (j := i + 2) dL_law_697 (by decide) (nI_add i 2) (by omega) (by omega) ?_
  refine mw_aload_n hX dL_law_698 rfl rfl ?_
  refine mw_cSH hX [_, _, _, _] ws_L_124 dL_law_699 hw rfl (by omega) hn hk (Nat.le_of_ble_eq_true rfl) ?_
  refine mw_istore hX dL_law_702 (Nat.le_of_ble_eq_true rfl) ?_
  dsimp only [List.set]
  refine mw_aload_n hX dL_law_704 rfl rfl ?_
  refine mw_aload_n hX dL_law_705 rfl rfl ?_
  refine mw_iload hX dL_law_706 rfl ?_
  refine mw_ic hX 1 dL_law_708 rfl ?_
  refine mw_iadd hX dL_law_709 ?_
  refine mw_sload hX hS (j := i + 1) dL_law_710 (by decide) (nI_add i 1) (by omega) (by omega) ?_
  refine mw_aload_n hX dL_law_711 rfl rfl ?_
  refine mw_iload hX dL_law_712 rfl ?_
  refine mw_ic hX 2 dL_law_714 rfl ?_
  refine mw_iadd hX dL_law_715 ?_
  refine mw_sload hX hS (j := i + 2) dL_law_716 (by decide) (nI_add i 2) (by omega) (by omega) ?_
  refine mw_cV hX [_, _] ws_L_126 dL_law_717 hm (mw_Yl (by decide)) mw_YM (by decide) rfl hdm (by omega) (by omega) (Nat.le_of_ble_eq_true rfl) ?_
  refine mw_istore hX dL_law_720 (Nat.le_of_ble_eq_true rfl) ?_
  dsimp only [List.set]
  refine mw_aload_n hX dL_law_722 rfl rfl ?_
  refine mw_cV hX [] ws_L_94 dL_law_723 (c_m_thrown (mw_l X) K L') (mw_Yl (by decide)) mw_YM (by decide) rfl (by omega) (by omega) (by omega) (Nat.le_of_ble_eq_true rfl) ?_
  refine mw_iload hX dL_law_726 rfl ?_
  refine mw_icmp_eq hX (tgt := 733) dL_law_728 (by decide) (fun _ => ?_) (fun h728 => absurd ht h728)
  refine mw_iload hX dL_law_733 rfl ?_
  refine mw_if_ne hX (tgt := 750) dL_law_735 (by decide) (fun h735 => ?_) (fun h735 => ?_)
  · refine mw_goto hX (tgt := 1585) dL_law_750 (by decide) ?_
    refine mw_drop 5 ?_
    refine mw_drop 6 ?_
    dsimp only [List.set]
    exact kk
  · refine mw_aload_n hX dL_law_738 rfl rfl ?_
    refine mw_ic hX 0 dL_law_739 rfl ?_
    refine mw_laload hX (j := 0) dL_law_740 (mw_Yl (by decide)) rfl rfl (by decide) (by decide) ?_
    refine mw_iload hX dL_law_741 rfl ?_
    refine mw_i2l hX dL_law_743 ?_
    refine mw_lcmp hX dL_law_744 ?_
    refine mw_if_eq hX (tgt := 750) dL_law_745 (by decide) (fun _ => ?_) (fun h9 => absurd (by rw [he h735]; exact lg_cmp_self _) h9)
    refine mw_goto hX (tgt := 1585) dL_law_750 (by decide) ?_
    refine mw_drop 5 ?_
    refine mw_drop 6 ?_
    dsimp only [List.set]
    exact kk
set_option maxRecDepth 20000 in
theorem lc_level {X : mw_X} (hX : mw_Ok RL cL_law 14 601024 7293034 X) {N : Nat} {xs : Nat → Int32} (hS : lw_Sc X N xs) {i n k : Nat} (hi : i + 5 ≤ N) (hN : N ≤ 2560) {I J K : mw_I} {L L' : mw_L} {k0 b0 : Int32} {dm : Nat} (hdm : dm < 14) (hw : mw_CT (mw_l X) yL_level (.codeWith yL_level cL_level 4 (some .int) [(0, 9, 12, 13)]) 13 10 60 [.ref 0, .int (xs (i + 1)), .ref 59] (mw_Y0, I, L) (.inl (some (.int k0), mw_Y0, J, L'))) (hm : mw_CT (mw_l X) yX2_level (.code yX2_level cX2_level 2 (some .int)) dm 0 0 [.ref 40, .int (xs (i + 1))] (mw_Y0, J, L') (.inl (some (.int b0), mw_Y0, K, L'))) (ht : K 40 19 = k0) (he : k0 = 0 → L' 59 0 = b0.toInt64) (hn : n + 10 ≤ 601024) (hk : k + 60 ≤ 7293034) (kk : mw_G X 1585 [some (.ref 1000000), some (.ref 0), some (.ref 40), some (.ref 59), some (.int (nI i)), none, none] [] mw_Y0 K L' (n + 10) (k + 60)) : mw_G X 753 [some (.ref 1000000), some (.ref 0), some (.ref 40), some (.ref 59), some (.int (nI i)), none, none] [] mw_Y0 I L n k := by
  refine mw_aload_n hX dL_law_753 rfl rfl ?_
  refine mw_aload_n hX dL_law_754 rfl rfl ?_
  refine mw_iload hX dL_law_755 rfl ?_
  refine mw_ic hX 1 dL_law_757 rfl ?_
  refine mw_iadd hX dL_law_758 ?_
  refine mw_sload hX hS (j := i + 1) dL_law_759 (by decide) (nI_add i 1) (by omega) (by omega) ?_
  refine mw_aload_n hX dL_law_760 rfl rfl ?_
  refine mw_cSH hX [_, _, _] ws_L_127 dL_law_761 hw rfl (by omega) hn hk (Nat.le_of_ble_eq_true rfl) ?_
  refine mw_istore hX dL_law_764 (Nat.le_of_ble_eq_true rfl) ?_
  dsimp only [List.set]
  refine mw_aload_n hX dL_law_766 rfl rfl ?_
  refine mw_aload_n hX dL_law_767 rfl rfl ?_
  refine mw_iload hX dL_law_768 rfl ?_
  refine mw_ic hX 1 dL_law_770 rfl ?_
  refine mw_iadd hX dL_law_771 ?_
  refine mw_sload hX hS (j := i + 1) dL_law_772 (by decide) (nI_add i 1) (by omega) (by omega) ?_
  refine mw_cV hX [_] ws_L_129 dL_law_773 hm (mw_Yl (by decide)) mw_YM (by decide) rfl hdm (by omega) (by omega) (Nat.le_of_ble_eq_true rfl) ?_
  refine mw_istore hX dL_law_776 (Nat.le_of_ble_eq_true rfl) ?_
  dsimp only [List.set]
  refine mw_aload_n hX dL_law_778 rfl rfl ?_
  refine mw_cV hX [] ws_L_94 dL_law_779 (c_m_thrown (mw_l X) K L') (mw_Yl (by decide)) mw_YM (by decide) rfl (by omega) (by omega) (by omega) (Nat.le_of_ble_eq_true rfl) ?_
  refine mw_iload hX dL_law_782 rfl ?_
  refine mw_icmp_eq hX (tgt := 789) dL_law_784 (by decide) (fun _ => ?_) (fun h784 => absurd ht h784)
  refine mw_iload hX dL_law_789 rfl ?_
  refine mw_if_ne hX (tgt := 806) dL_law_791 (by decide) (fun h791 => ?_) (fun h791 => ?_)
  · refine mw_goto hX (tgt := 1585) dL_law_806 (by decide) ?_
    refine mw_drop 5 ?_
    refine mw_drop 6 ?_
    dsimp only [List.set]
    exact kk
  · refine mw_aload_n hX dL_law_794 rfl rfl ?_
    refine mw_ic hX 0 dL_law_795 rfl ?_
    refine mw_laload hX (j := 0) dL_law_796 (mw_Yl (by decide)) rfl rfl (by decide) (by decide) ?_
    refine mw_iload hX dL_law_797 rfl ?_
    refine mw_i2l hX dL_law_799 ?_
    refine mw_lcmp hX dL_law_800 ?_
    refine mw_if_eq hX (tgt := 806) dL_law_801 (by decide) (fun _ => ?_) (fun h9 => absurd (by rw [he h791]; exact lg_cmp_self _) h9)
    refine mw_goto hX (tgt := 1585) dL_law_806 (by decide) ?_
    refine mw_drop 5 ?_
    refine mw_drop 6 ?_
    dsimp only [List.set]
    exact kk
set_option maxRecDepth 20000 in
theorem lc_travelling {X : mw_X} (hX : mw_Ok RL cL_law 14 601024 7293034 X) {N : Nat} {xs : Nat → Int32} (hS : lw_Sc X N xs) {i n k : Nat} (hi : i + 5 ≤ N) (hN : N ≤ 2560) {I J K : mw_I} {L L' : mw_L} {k0 b0 : Int32} {dm : Nat} (hdm : dm < 14) (hw : mw_CT (mw_l X) yL_travelling (.codeWith yL_travelling cL_travelling 5 (some .int) [(0, 10, 13, 13)]) 13 10 60 [.ref 0, .int (xs (i + 1)), .int (xs (i + 2)), .ref 59] (mw_Y0, I, L) (.inl (some (.int k0), mw_Y0, J, L'))) (hm : mw_CT (mw_l X) yX2_travelling (.code yX2_travelling cX2_travelling 5 (some .int)) dm 0 0 [.ref 40, .int (xs (i + 1)), .int (xs (i + 2))] (mw_Y0, J, L') (.inl (some (.int b0), mw_Y0, K, L'))) (ht : K 40 19 = k0) (he : k0 = 0 → L' 59 0 = b0.toInt64) (hn : n + 10 ≤ 601024) (hk : k + 60 ≤ 7293034) (kk : mw_G X 1585 [some (.ref 1000000), some (.ref 0), some (.ref 40), some (.ref 59), some (.int (nI i)), none, none] [] mw_Y0 K L' (n + 10) (k + 60)) : mw_G X 809 [some (.ref 1000000), some (.ref 0), some (.ref 40), some (.ref 59), some (.int (nI i)), none, none] [] mw_Y0 I L n k := by
  refine mw_aload_n hX dL_law_809 rfl rfl ?_
  refine mw_aload_n hX dL_law_810 rfl rfl ?_
  refine mw_iload hX dL_law_811 rfl ?_
  refine mw_ic hX 1 dL_law_813 rfl ?_
  refine mw_iadd hX dL_law_814 ?_
  refine mw_sload hX hS (j := i + 1) dL_law_815 (by decide) (nI_add i 1) (by omega) (by omega) ?_
  refine mw_aload_n hX dL_law_816 rfl rfl ?_
  refine mw_iload hX dL_law_817 rfl ?_
  refine mw_ic hX 2 dL_law_819 rfl ?_
  refine mw_iadd hX dL_law_820 ?_
  refine mw_sload hX hS (j := i + 2) dL_law_821 (by decide) (nI_add i 2) (by omega) (by omega) ?_
  refine mw_aload_n hX dL_law_822 rfl rfl ?_
  refine mw_cSH hX [_, _, _, _] ws_L_130 dL_law_823 hw rfl (by omega) hn hk (Nat.le_of_ble_eq_true rfl) ?_
  refine mw_istore hX dL_law_826 (Nat.le_of_ble_eq_true rfl) ?_
  dsimp only [List.set]
  refine mw_aload_n hX dL_law_828 rfl rfl ?_
  refine mw_aload_n hX dL_law_829 rfl rfl ?_
  refine mw_iload hX dL_law_830 rfl ?_
  refine mw_ic hX 1 dL_law_832 rfl ?_
  refine mw_iadd hX dL_law_833 ?_
  refine mw_sload hX hS (j := i + 1) dL_law_834 (by decide) (nI_add i 1) (by omega) (by omega) ?_
  refine mw_aload_n hX dL_law_835 rfl rfl ?_
  refine mw_iload hX dL_law_836 rfl ?_
  refine mw_ic hX 2 dL_law_838 rfl ?_
  refine mw_iadd hX dL_law_839 ?_
  refine mw_sload hX hS (j := i + 2) dL_law_840 (by decide) (nI_add i 2) (by omega) (by omega) ?_
  refine mw_cV hX [_, _] ws_L_132 dL_law_841 hm (mw_Yl (by decide)) mw_YM (by decide) rfl hdm (by omega) (by omega) (Nat.le_of_ble_eq_true rfl) ?_
  refine mw_istore hX dL_law_844 (Nat.le_of_ble_eq_true rfl) ?_
  dsimp only [List.set]
  refine mw_aload_n hX dL_law_846 rfl rfl ?_
  refine mw_cV hX [] ws_L_94 dL_law_847 (c_m_thrown (mw_l X) K L') (mw_Yl (by decide)) mw_YM (by decide) rfl (by omega) (by omega) (by omega) (Nat.le_of_ble_eq_true rfl) ?_
  refine mw_iload hX dL_law_850 rfl ?_
  refine mw_icmp_eq hX (tgt := 857) dL_law_852 (by decide) (fun _ => ?_) (fun h852 => absurd ht h852)
  refine mw_iload hX dL_law_857 rfl ?_
  refine mw_if_ne hX (tgt := 874) dL_law_859 (by decide) (fun h859 => ?_) (fun h859 => ?_)
  · refine mw_goto hX (tgt := 1585) dL_law_874 (by decide) ?_
    refine mw_drop 5 ?_
    refine mw_drop 6 ?_
    dsimp only [List.set]
    exact kk
  · refine mw_aload_n hX dL_law_862 rfl rfl ?_
    refine mw_ic hX 0 dL_law_863 rfl ?_
    refine mw_laload hX (j := 0) dL_law_864 (mw_Yl (by decide)) rfl rfl (by decide) (by decide) ?_
    refine mw_iload hX dL_law_865 rfl ?_
    refine mw_i2l hX dL_law_867 ?_
    refine mw_lcmp hX dL_law_868 ?_
    refine mw_if_eq hX (tgt := 874) dL_law_869 (by decide) (fun _ => ?_) (fun h9 => absurd (by rw [he h859]; exact lg_cmp_self _) h9)
    refine mw_goto hX (tgt := 1585) dL_law_874 (by decide) ?_
    refine mw_drop 5 ?_
    refine mw_drop 6 ?_
    dsimp only [List.set]
    exact kk
set_option maxRecDepth 20000 in
theorem lc_arriving {X : mw_X} (hX : mw_Ok RL cL_law 14 601024 7293034 X) {N : Nat} {xs : Nat → Int32} (hS : lw_Sc X N xs) {i n k : Nat} (hi : i + 5 ≤ N) (hN : N ≤ 2560) {I J K : mw_I} {L L' : mw_L} {k0 b0 : Int32} {dm : Nat} (hdm : dm < 14) (hw : mw_CT (mw_l X) yL_arriving (.codeWith yL_arriving cL_arriving 6 (some .int) [(0, 12, 15, 13)]) 13 10 60 [.ref 0, .int (xs (i + 1)), .int (xs (i + 2)), .int (xs (i + 3)), .ref 59] (mw_Y0, I, L) (.inl (some (.int k0), mw_Y0, J, L'))) (hm : mw_CT (mw_l X) yX2_arriving (.code yX2_arriving cX2_arriving 4 (some .int)) dm 0 0 [.ref 40, .int (xs (i + 1)), .int (xs (i + 2)), .int (xs (i + 3))] (mw_Y0, J, L') (.inl (some (.int b0), mw_Y0, K, L'))) (ht : K 40 19 = k0) (he : k0 = 0 → L' 59 0 = b0.toInt64) (hn : n + 10 ≤ 601024) (hk : k + 60 ≤ 7293034) (kk : mw_G X 1585 [some (.ref 1000000), some (.ref 0), some (.ref 40), some (.ref 59), some (.int (nI i)), none, none] [] mw_Y0 K L' (n + 10) (k + 60)) : mw_G X 877 [some (.ref 1000000), some (.ref 0), some (.ref 40), some (.ref 59), some (.int (nI i)), none, none] [] mw_Y0 I L n k := by
  refine mw_aload_n hX dL_law_877 rfl rfl ?_
  refine mw_aload_n hX dL_law_878 rfl rfl ?_
  refine mw_iload hX dL_law_879 rfl ?_
  refine mw_ic hX 1 dL_law_881 rfl ?_
  refine mw_iadd hX dL_law_882 ?_
  refine mw_sload hX hS (j := i + 1) dL_law_883 (by decide) (nI_add i 1) (by omega) (by omega) ?_
  refine mw_aload_n hX dL_law_884 rfl rfl ?_
  refine mw_iload hX dL_law_885 rfl ?_
  refine mw_ic hX 2 dL_law_887 rfl ?_
  refine mw_iadd hX dL_law_888 ?_
  refine mw_sload hX hS (j := i + 2) dL_law_889 (by decide) (nI_add i 2) (by omega) (by omega) ?_
  refine mw_aload_n hX dL_law_890 rfl rfl ?_
  refine mw_iload hX dL_law_891 rfl ?_
  refine mw_ic hX 3 dL_law_893 rfl ?_
  refine mw_iadd hX dL_law_894 ?_
  refine mw_sload hX hS (j := i + 3) dL_law_895 (by decide) (nI_add i 3) (by omega) (by omega) ?_
  refine mw_aload_n hX dL_law_896 rfl rfl ?_
  refine mw_cSH hX [_, _, _, _, _] ws_L_133 dL_law_897 hw rfl (by omega) hn hk (Nat.le_of_ble_eq_true rfl) ?_
  refine mw_istore hX dL_law_900 (Nat.le_of_ble_eq_true rfl) ?_
  dsimp only [List.set]
  refine mw_aload_n hX dL_law_902 rfl rfl ?_
  refine mw_aload_n hX dL_law_903 rfl rfl ?_
  refine mw_iload hX dL_law_904 rfl ?_
  refine mw_ic hX 1 dL_law_906 rfl ?_
  refine mw_iadd hX dL_law_907 ?_
  refine mw_sload hX hS (j := i + 1) dL_law_908 (by decide) (nI_add i 1) (by omega) (by omega) ?_
  refine mw_aload_n hX dL_law_909 rfl rfl ?_
  refine mw_iload hX dL_law_910 rfl ?_
  refine mw_ic hX 2 dL_law_912 rfl ?_
  refine mw_iadd hX dL_law_913 ?_
  refine mw_sload hX hS (j := i + 2) dL_law_914 (by decide) (nI_add i 2) (by omega) (by omega) ?_
  refine mw_aload_n hX dL_law_915 rfl rfl ?_
  refine mw_iload hX dL_law_916 rfl ?_
  refine mw_ic hX 3 dL_law_918 rfl ?_
  refine mw_iadd hX dL_law_919 ?_
  refine mw_sload hX hS (j := i + 3) dL_law_920 (by decide) (nI_add i 3) (by omega) (by omega) ?_
  refine mw_cV hX [_, _, _] ws_L_135 dL_law_921 hm (mw_Yl (by decide)) mw_YM (by decide) rfl hdm (by omega) (by omega) (Nat.le_of_ble_eq_true rfl) ?_
  refine mw_istore hX dL_law_924 (Nat.le_of_ble_eq_true rfl) ?_
  dsimp only [List.set]
  refine mw_aload_n hX dL_law_926 rfl rfl ?_
  refine mw_cV hX [] ws_L_94 dL_law_927 (c_m_thrown (mw_l X) K L') (mw_Yl (by decide)) mw_YM (by decide) rfl (by omega) (by omega) (by omega) (Nat.le_of_ble_eq_true rfl) ?_
  refine mw_iload hX dL_law_930 rfl ?_
  refine mw_icmp_eq hX (tgt := 937) dL_law_932 (by decide) (fun _ => ?_) (fun h932 => absurd ht h932)
  refine mw_iload hX dL_law_937 rfl ?_
  refine mw_if_ne hX (tgt := 954) dL_law_939 (by decide) (fun h939 => ?_) (fun h939 => ?_)
  · refine mw_goto hX (tgt := 1585) dL_law_954 (by decide) ?_
    refine mw_drop 5 ?_
    refine mw_drop 6 ?_
    dsimp only [List.set]
    exact kk
  · refine mw_aload_n hX dL_law_942 rfl rfl ?_
    refine mw_ic hX 0 dL_law_943 rfl ?_
    refine mw_laload hX (j := 0) dL_law_944 (mw_Yl (by decide)) rfl rfl (by decide) (by decide) ?_
    refine mw_iload hX dL_law_945 rfl ?_
    refine mw_i2l hX dL_law_947 ?_
    refine mw_lcmp hX dL_law_948 ?_
    refine mw_if_eq hX (tgt := 954) dL_law_949 (by decide) (fun _ => ?_) (fun h9 => absurd (by rw [he h939]; exact lg_cmp_self _) h9)
    refine mw_goto hX (tgt := 1585) dL_law_954 (by decide) ?_
    refine mw_drop 5 ?_
    refine mw_drop 6 ?_
    dsimp only [List.set]
    exact kk
set_option maxRecDepth 20000 in
theorem lc_cameIn {X : mw_X} (hX : mw_Ok RL cL_law 14 601024 7293034 X) {N : Nat} {xs : Nat → Int32} (hS : lw_Sc X N xs) {i n k : Nat} (hi : i + 5 ≤ N) (hN : N ≤ 2560) {I J K : mw_I} {L L' : mw_L} {k0 b0 : Int32} {dm : Nat} (hdm : dm < 14) (hw : mw_CT (mw_l X) yL_cameIn (.codeWith yL_cameIn cL_cameIn 4 (some .int) [(0, 9, 12, 13)]) 13 10 60 [.ref 0, .int (xs (i + 1)), .ref 59] (mw_Y0, I, L) (.inl (some (.int k0), mw_Y0, J, L'))) (hm : mw_CT (mw_l X) yX2_cameIn (.code yX2_cameIn cX2_cameIn 2 (some .int)) dm 0 0 [.ref 40, .int (xs (i + 1))] (mw_Y0, J, L') (.inl (some (.int b0), mw_Y0, K, L'))) (ht : K 40 19 = k0) (he : k0 = 0 → L' 59 0 = b0.toInt64) (hn : n + 10 ≤ 601024) (hk : k + 60 ≤ 7293034) (kk : mw_G X 1585 [some (.ref 1000000), some (.ref 0), some (.ref 40), some (.ref 59), some (.int (nI i)), none, none] [] mw_Y0 K L' (n + 10) (k + 60)) : mw_G X 957 [some (.ref 1000000), some (.ref 0), some (.ref 40), some (.ref 59), some (.int (nI i)), none, none] [] mw_Y0 I L n k := by
  refine mw_aload_n hX dL_law_957 rfl rfl ?_
  refine mw_aload_n hX dL_law_958 rfl rfl ?_
  refine mw_iload hX dL_law_959 rfl ?_
  refine mw_ic hX 1 dL_law_961 rfl ?_
  refine mw_iadd hX dL_law_962 ?_
  refine mw_sload hX hS (j := i + 1) dL_law_963 (by decide) (nI_add i 1) (by omega) (by omega) ?_
  refine mw_aload_n hX dL_law_964 rfl rfl ?_
  refine mw_cSH hX [_, _, _] ws_L_136 dL_law_965 hw rfl (by omega) hn hk (Nat.le_of_ble_eq_true rfl) ?_
  refine mw_istore hX dL_law_968 (Nat.le_of_ble_eq_true rfl) ?_
  dsimp only [List.set]
  refine mw_aload_n hX dL_law_970 rfl rfl ?_
  refine mw_aload_n hX dL_law_971 rfl rfl ?_
  refine mw_iload hX dL_law_972 rfl ?_
  refine mw_ic hX 1 dL_law_974 rfl ?_
  refine mw_iadd hX dL_law_975 ?_
  refine mw_sload hX hS (j := i + 1) dL_law_976 (by decide) (nI_add i 1) (by omega) (by omega) ?_
  refine mw_cV hX [_] ws_L_138 dL_law_977 hm (mw_Yl (by decide)) mw_YM (by decide) rfl hdm (by omega) (by omega) (Nat.le_of_ble_eq_true rfl) ?_
  refine mw_istore hX dL_law_980 (Nat.le_of_ble_eq_true rfl) ?_
  dsimp only [List.set]
  refine mw_aload_n hX dL_law_982 rfl rfl ?_
  refine mw_cV hX [] ws_L_94 dL_law_983 (c_m_thrown (mw_l X) K L') (mw_Yl (by decide)) mw_YM (by decide) rfl (by omega) (by omega) (by omega) (Nat.le_of_ble_eq_true rfl) ?_
  refine mw_iload hX dL_law_986 rfl ?_
  refine mw_icmp_eq hX (tgt := 993) dL_law_988 (by decide) (fun _ => ?_) (fun h988 => absurd ht h988)
  refine mw_iload hX dL_law_993 rfl ?_
  refine mw_if_ne hX (tgt := 1010) dL_law_995 (by decide) (fun h995 => ?_) (fun h995 => ?_)
  · refine mw_goto hX (tgt := 1585) dL_law_1010 (by decide) ?_
    refine mw_drop 5 ?_
    refine mw_drop 6 ?_
    dsimp only [List.set]
    exact kk
  · refine mw_aload_n hX dL_law_998 rfl rfl ?_
    refine mw_ic hX 0 dL_law_999 rfl ?_
    refine mw_laload hX (j := 0) dL_law_1000 (mw_Yl (by decide)) rfl rfl (by decide) (by decide) ?_
    refine mw_iload hX dL_law_1001 rfl ?_
    refine mw_i2l hX dL_law_1003 ?_
    refine mw_lcmp hX dL_law_1004 ?_
    refine mw_if_eq hX (tgt := 1010) dL_law_1005 (by decide) (fun _ => ?_) (fun h9 => absurd (by rw [he h995]; exact lg_cmp_self _) h9)
    refine mw_goto hX (tgt := 1585) dL_law_1010 (by decide) ?_
    refine mw_drop 5 ?_
    refine mw_drop 6 ?_
    dsimp only [List.set]
    exact kk
set_option maxRecDepth 20000 in
theorem lc_gone {X : mw_X} (hX : mw_Ok RL cL_law 14 601024 7293034 X) {N : Nat} {xs : Nat → Int32} (hS : lw_Sc X N xs) {i n k : Nat} (hi : i + 5 ≤ N) (hN : N ≤ 2560) {I J K : mw_I} {L L' : mw_L} {k0 b0 : Int32} {dm : Nat} (hdm : dm < 14) (hw : mw_CT (mw_l X) yL_gone (.codeWith yL_gone cL_gone 4 (some .int) [(0, 9, 12, 13)]) 13 10 60 [.ref 0, .int (xs (i + 1)), .ref 59] (mw_Y0, I, L) (.inl (some (.int k0), mw_Y0, J, L'))) (hm : mw_CT (mw_l X) yX2_gone (.code yX2_gone cX2_gone 2 (some .int)) dm 0 0 [.ref 40, .int (xs (i + 1))] (mw_Y0, J, L') (.inl (some (.int b0), mw_Y0, K, L'))) (ht : K 40 19 = k0) (he : k0 = 0 → L' 59 0 = b0.toInt64) (hn : n + 10 ≤ 601024) (hk : k + 60 ≤ 7293034) (kk : mw_G X 1585 [some (.ref 1000000), some (.ref 0), some (.ref 40), some (.ref 59), some (.int (nI i)), none, none] [] mw_Y0 K L' (n + 10) (k + 60)) : mw_G X 1013 [some (.ref 1000000), some (.ref 0), some (.ref 40), some (.ref 59), some (.int (nI i)), none, none] [] mw_Y0 I L n k := by
  refine mw_aload_n hX dL_law_1013 rfl rfl ?_
  refine mw_aload_n hX dL_law_1014 rfl rfl ?_
  refine mw_iload hX dL_law_1015 rfl ?_
  refine mw_ic hX 1 dL_law_1017 rfl ?_
  refine mw_iadd hX dL_law_1018 ?_
  refine mw_sload hX hS (j := i + 1) dL_law_1019 (by decide) (nI_add i 1) (by omega) (by omega) ?_
  refine mw_aload_n hX dL_law_1020 rfl rfl ?_
  refine mw_cSH hX [_, _, _] ws_L_139 dL_law_1021 hw rfl (by omega) hn hk (Nat.le_of_ble_eq_true rfl) ?_
  refine mw_istore hX dL_law_1024 (Nat.le_of_ble_eq_true rfl) ?_
  dsimp only [List.set]
  refine mw_aload_n hX dL_law_1026 rfl rfl ?_
  refine mw_aload_n hX dL_law_1027 rfl rfl ?_
  refine mw_iload hX dL_law_1028 rfl ?_
  refine mw_ic hX 1 dL_law_1030 rfl ?_
  refine mw_iadd hX dL_law_1031 ?_
  refine mw_sload hX hS (j := i + 1) dL_law_1032 (by decide) (nI_add i 1) (by omega) (by omega) ?_
  refine mw_cV hX [_] ws_L_141 dL_law_1033 hm (mw_Yl (by decide)) mw_YM (by decide) rfl hdm (by omega) (by omega) (Nat.le_of_ble_eq_true rfl) ?_
  refine mw_istore hX dL_law_1036 (Nat.le_of_ble_eq_true rfl) ?_
  dsimp only [List.set]
  refine mw_aload_n hX dL_law_1038 rfl rfl ?_
  refine mw_cV hX [] ws_L_94 dL_law_1039 (c_m_thrown (mw_l X) K L') (mw_Yl (by decide)) mw_YM (by decide) rfl (by omega) (by omega) (by omega) (Nat.le_of_ble_eq_true rfl) ?_
  refine mw_iload hX dL_law_1042 rfl ?_
  refine mw_icmp_eq hX (tgt := 1049) dL_law_1044 (by decide) (fun _ => ?_) (fun h1044 => absurd ht h1044)
  refine mw_iload hX dL_law_1049 rfl ?_
  refine mw_if_ne hX (tgt := 1066) dL_law_1051 (by decide) (fun h1051 => ?_) (fun h1051 => ?_)
  · refine mw_goto hX (tgt := 1585) dL_law_1066 (by decide) ?_
    refine mw_drop 5 ?_
    refine mw_drop 6 ?_
    dsimp only [List.set]
    exact kk
  · refine mw_aload_n hX dL_law_1054 rfl rfl ?_
    refine mw_ic hX 0 dL_law_1055 rfl ?_
    refine mw_laload hX (j := 0) dL_law_1056 (mw_Yl (by decide)) rfl rfl (by decide) (by decide) ?_
    refine mw_iload hX dL_law_1057 rfl ?_
    refine mw_i2l hX dL_law_1059 ?_
    refine mw_lcmp hX dL_law_1060 ?_
    refine mw_if_eq hX (tgt := 1066) dL_law_1061 (by decide) (fun _ => ?_) (fun h9 => absurd (by rw [he h1051]; exact lg_cmp_self _) h9)
    refine mw_goto hX (tgt := 1585) dL_law_1066 (by decide) ?_
    refine mw_drop 5 ?_
    refine mw_drop 6 ?_
    dsimp only [List.set]
    exact kk
set_option maxRecDepth 20000 in
theorem lc_balance {X : mw_X} (hX : mw_Ok RL cL_law 14 601024 7293034 X) {N : Nat} {xs : Nat → Int32} (hS : lw_Sc X N xs) {i n k : Nat} (hi : i + 5 ≤ N) (hN : N ≤ 2560) {I J K : mw_I} {L L' : mw_L} {k0 b0 : Int32} {dm : Nat} (hdm : dm < 14) (hw : mw_CT (mw_l X) yL_balance (.codeWith yL_balance cL_balance 4 (some .int) [(0, 9, 12, 13)]) 13 10 60 [.ref 0, .int (xs (i + 1)), .ref 59] (mw_Y0, I, L) (.inl (some (.int k0), mw_Y0, J, L'))) (hm : mw_CT (mw_l X) yX2_balance (.code yX2_balance cX2_balance 2 (some .int)) dm 0 0 [.ref 40, .int (xs (i + 1))] (mw_Y0, J, L') (.inl (some (.int b0), mw_Y0, K, L'))) (ht : K 40 19 = k0) (he : k0 = 0 → L' 59 0 = b0.toInt64) (hn : n + 10 ≤ 601024) (hk : k + 60 ≤ 7293034) (kk : mw_G X 1585 [some (.ref 1000000), some (.ref 0), some (.ref 40), some (.ref 59), some (.int (nI i)), none, none] [] mw_Y0 K L' (n + 10) (k + 60)) : mw_G X 1069 [some (.ref 1000000), some (.ref 0), some (.ref 40), some (.ref 59), some (.int (nI i)), none, none] [] mw_Y0 I L n k := by
  refine mw_aload_n hX dL_law_1069 rfl rfl ?_
  refine mw_aload_n hX dL_law_1070 rfl rfl ?_
  refine mw_iload hX dL_law_1071 rfl ?_
  refine mw_ic hX 1 dL_law_1073 rfl ?_
  refine mw_iadd hX dL_law_1074 ?_
  refine mw_sload hX hS (j := i + 1) dL_law_1075 (by decide) (nI_add i 1) (by omega) (by omega) ?_
  refine mw_aload_n hX dL_law_1076 rfl rfl ?_
  refine mw_cSH hX [_, _, _] ws_L_142 dL_law_1077 hw rfl (by omega) hn hk (Nat.le_of_ble_eq_true rfl) ?_
  refine mw_istore hX dL_law_1080 (Nat.le_of_ble_eq_true rfl) ?_
  dsimp only [List.set]
  refine mw_aload_n hX dL_law_1082 rfl rfl ?_
  refine mw_aload_n hX dL_law_1083 rfl rfl ?_
  refine mw_iload hX dL_law_1084 rfl ?_
  refine mw_ic hX 1 dL_law_1086 rfl ?_
  refine mw_iadd hX dL_law_1087 ?_
  refine mw_sload hX hS (j := i + 1) dL_law_1088 (by decide) (nI_add i 1) (by omega) (by omega) ?_
  refine mw_cV hX [_] ws_L_144 dL_law_1089 hm (mw_Yl (by decide)) mw_YM (by decide) rfl hdm (by omega) (by omega) (Nat.le_of_ble_eq_true rfl) ?_
  refine mw_istore hX dL_law_1092 (Nat.le_of_ble_eq_true rfl) ?_
  dsimp only [List.set]
  refine mw_aload_n hX dL_law_1094 rfl rfl ?_
  refine mw_cV hX [] ws_L_94 dL_law_1095 (c_m_thrown (mw_l X) K L') (mw_Yl (by decide)) mw_YM (by decide) rfl (by omega) (by omega) (by omega) (Nat.le_of_ble_eq_true rfl) ?_
  refine mw_iload hX dL_law_1098 rfl ?_
  refine mw_icmp_eq hX (tgt := 1105) dL_law_1100 (by decide) (fun _ => ?_) (fun h1100 => absurd ht h1100)
  refine mw_iload hX dL_law_1105 rfl ?_
  refine mw_if_ne hX (tgt := 1122) dL_law_1107 (by decide) (fun h1107 => ?_) (fun h1107 => ?_)
  · refine mw_goto hX (tgt := 1585) dL_law_1122 (by decide) ?_
    refine mw_drop 5 ?_
    refine mw_drop 6 ?_
    dsimp only [List.set]
    exact kk
  · refine mw_aload_n hX dL_law_1110 rfl rfl ?_
    refine mw_ic hX 0 dL_law_1111 rfl ?_
    refine mw_laload hX (j := 0) dL_law_1112 (mw_Yl (by decide)) rfl rfl (by decide) (by decide) ?_
    refine mw_iload hX dL_law_1113 rfl ?_
    refine mw_i2l hX dL_law_1115 ?_
    refine mw_lcmp hX dL_law_1116 ?_
    refine mw_if_eq hX (tgt := 1122) dL_law_1117 (by decide) (fun _ => ?_) (fun h9 => absurd (by rw [he h1107]; exact lg_cmp_self _) h9)
    refine mw_goto hX (tgt := 1585) dL_law_1122 (by decide) ?_
    refine mw_drop 5 ?_
    refine mw_drop 6 ?_
    dsimp only [List.set]
    exact kk
set_option maxRecDepth 20000 in
theorem lc_spilled {X : mw_X} (hX : mw_Ok RL cL_law 14 601024 7293034 X) {N : Nat} {xs : Nat → Int32} (hS : lw_Sc X N xs) {i n k : Nat} (hi : i + 5 ≤ N) (hN : N ≤ 2560) {I J K : mw_I} {L L' : mw_L} {k0 b0 : Int32} {dm : Nat} (hdm : dm < 14) (hw : mw_CT (mw_l X) yL_spilled (.codeWith yL_spilled cL_spilled 4 (some .int) [(0, 9, 12, 13)]) 13 10 60 [.ref 0, .int (xs (i + 1)), .ref 59] (mw_Y0, I, L) (.inl (some (.int k0), mw_Y0, J, L'))) (hm : mw_CT (mw_l X) yX2_spilled (.code yX2_spilled cX2_spilled 2 (some .int)) dm 0 0 [.ref 40, .int (xs (i + 1))] (mw_Y0, J, L') (.inl (some (.int b0), mw_Y0, K, L'))) (ht : K 40 19 = k0) (he : k0 = 0 → L' 59 0 = b0.toInt64) (hn : n + 10 ≤ 601024) (hk : k + 60 ≤ 7293034) (kk : mw_G X 1585 [some (.ref 1000000), some (.ref 0), some (.ref 40), some (.ref 59), some (.int (nI i)), none, none] [] mw_Y0 K L' (n + 10) (k + 60)) : mw_G X 1125 [some (.ref 1000000), some (.ref 0), some (.ref 40), some (.ref 59), some (.int (nI i)), none, none] [] mw_Y0 I L n k := by
  refine mw_aload_n hX dL_law_1125 rfl rfl ?_
  refine mw_aload_n hX dL_law_1126 rfl rfl ?_
  refine mw_iload hX dL_law_1127 rfl ?_
  refine mw_ic hX 1 dL_law_1129 rfl ?_
  refine mw_iadd hX dL_law_1130 ?_
  refine mw_sload hX hS (j := i + 1) dL_law_1131 (by decide) (nI_add i 1) (by omega) (by omega) ?_
  refine mw_aload_n hX dL_law_1132 rfl rfl ?_
  refine mw_cSH hX [_, _, _] ws_L_145 dL_law_1133 hw rfl (by omega) hn hk (Nat.le_of_ble_eq_true rfl) ?_
  refine mw_istore hX dL_law_1136 (Nat.le_of_ble_eq_true rfl) ?_
  dsimp only [List.set]
  refine mw_aload_n hX dL_law_1138 rfl rfl ?_
  refine mw_aload_n hX dL_law_1139 rfl rfl ?_
  refine mw_iload hX dL_law_1140 rfl ?_
  refine mw_ic hX 1 dL_law_1142 rfl ?_
  refine mw_iadd hX dL_law_1143 ?_
  refine mw_sload hX hS (j := i + 1) dL_law_1144 (by decide) (nI_add i 1) (by omega) (by omega) ?_
  refine mw_cV hX [_] ws_L_147 dL_law_1145 hm (mw_Yl (by decide)) mw_YM (by decide) rfl hdm (by omega) (by omega) (Nat.le_of_ble_eq_true rfl) ?_
  refine mw_istore hX dL_law_1148 (Nat.le_of_ble_eq_true rfl) ?_
  dsimp only [List.set]
  refine mw_aload_n hX dL_law_1150 rfl rfl ?_
  refine mw_cV hX [] ws_L_94 dL_law_1151 (c_m_thrown (mw_l X) K L') (mw_Yl (by decide)) mw_YM (by decide) rfl (by omega) (by omega) (by omega) (Nat.le_of_ble_eq_true rfl) ?_
  refine mw_iload hX dL_law_1154 rfl ?_
  refine mw_icmp_eq hX (tgt := 1161) dL_law_1156 (by decide) (fun _ => ?_) (fun h1156 => absurd ht h1156)
  refine mw_iload hX dL_law_1161 rfl ?_
  refine mw_if_ne hX (tgt := 1178) dL_law_1163 (by decide) (fun h1163 => ?_) (fun h1163 => ?_)
  · refine mw_goto hX (tgt := 1585) dL_law_1178 (by decide) ?_
    refine mw_drop 5 ?_
    refine mw_drop 6 ?_
    dsimp only [List.set]
    exact kk
  · refine mw_aload_n hX dL_law_1166 rfl rfl ?_
    refine mw_ic hX 0 dL_law_1167 rfl ?_
    refine mw_laload hX (j := 0) dL_law_1168 (mw_Yl (by decide)) rfl rfl (by decide) (by decide) ?_
    refine mw_iload hX dL_law_1169 rfl ?_
    refine mw_i2l hX dL_law_1171 ?_
    refine mw_lcmp hX dL_law_1172 ?_
    refine mw_if_eq hX (tgt := 1178) dL_law_1173 (by decide) (fun _ => ?_) (fun h9 => absurd (by rw [he h1163]; exact lg_cmp_self _) h9)
    refine mw_goto hX (tgt := 1585) dL_law_1178 (by decide) ?_
    refine mw_drop 5 ?_
    refine mw_drop 6 ?_
    dsimp only [List.set]
    exact kk
set_option maxRecDepth 20000 in
theorem lc_missed {X : mw_X} (hX : mw_Ok RL cL_law 14 601024 7293034 X) {N : Nat} {xs : Nat → Int32} (hS : lw_Sc X N xs) {i n k : Nat} (hi : i + 5 ≤ N) (hN : N ≤ 2560) {I J K : mw_I} {L L' : mw_L} {k0 b0 : Int32} {dm : Nat} (hdm : dm < 14) (hw : mw_CT (mw_l X) yL_missed (.codeWith yL_missed cL_missed 4 (some .int) [(0, 9, 12, 13)]) 13 10 60 [.ref 0, .int (xs (i + 1)), .ref 59] (mw_Y0, I, L) (.inl (some (.int k0), mw_Y0, J, L'))) (hm : mw_CT (mw_l X) yX2_missed (.code yX2_missed cX2_missed 2 (some .int)) dm 0 0 [.ref 40, .int (xs (i + 1))] (mw_Y0, J, L') (.inl (some (.int b0), mw_Y0, K, L'))) (ht : K 40 19 = k0) (he : k0 = 0 → L' 59 0 = b0.toInt64) (hn : n + 10 ≤ 601024) (hk : k + 60 ≤ 7293034) (kk : mw_G X 1585 [some (.ref 1000000), some (.ref 0), some (.ref 40), some (.ref 59), some (.int (nI i)), none, none] [] mw_Y0 K L' (n + 10) (k + 60)) : mw_G X 1181 [some (.ref 1000000), some (.ref 0), some (.ref 40), some (.ref 59), some (.int (nI i)), none, none] [] mw_Y0 I L n k := by
  refine mw_aload_n hX dL_law_1181 rfl rfl ?_
  refine mw_aload_n hX dL_law_1182 rfl rfl ?_
  refine mw_iload hX dL_law_1183 rfl ?_
  refine mw_ic hX 1 dL_law_1185 rfl ?_
  refine mw_iadd hX dL_law_1186 ?_
  refine mw_sload hX hS (j := i + 1) dL_law_1187 (by decide) (nI_add i 1) (by omega) (by omega) ?_
  refine mw_aload_n hX dL_law_1188 rfl rfl ?_
  refine mw_cSH hX [_, _, _] ws_L_148 dL_law_1189 hw rfl (by omega) hn hk (Nat.le_of_ble_eq_true rfl) ?_
  refine mw_istore hX dL_law_1192 (Nat.le_of_ble_eq_true rfl) ?_
  dsimp only [List.set]
  refine mw_aload_n hX dL_law_1194 rfl rfl ?_
  refine mw_aload_n hX dL_law_1195 rfl rfl ?_
  refine mw_iload hX dL_law_1196 rfl ?_
  refine mw_ic hX 1 dL_law_1198 rfl ?_
  refine mw_iadd hX dL_law_1199 ?_
  refine mw_sload hX hS (j := i + 1) dL_law_1200 (by decide) (nI_add i 1) (by omega) (by omega) ?_
  refine mw_cV hX [_] ws_L_150 dL_law_1201 hm (mw_Yl (by decide)) mw_YM (by decide) rfl hdm (by omega) (by omega) (Nat.le_of_ble_eq_true rfl) ?_
  refine mw_istore hX dL_law_1204 (Nat.le_of_ble_eq_true rfl) ?_
  dsimp only [List.set]
  refine mw_aload_n hX dL_law_1206 rfl rfl ?_
  refine mw_cV hX [] ws_L_94 dL_law_1207 (c_m_thrown (mw_l X) K L') (mw_Yl (by decide)) mw_YM (by decide) rfl (by omega) (by omega) (by omega) (Nat.le_of_ble_eq_true rfl) ?_
  refine mw_iload hX dL_law_1210 rfl ?_
  refine mw_icmp_eq hX (tgt := 1217) dL_law_1212 (by decide) (fun _ => ?_) (fun h1212 => absurd ht h1212)
  refine mw_iload hX dL_law_1217 rfl ?_
  refine mw_if_ne hX (tgt := 1234) dL_law_1219 (by decide) (fun h1219 => ?_) (fun h1219 => ?_)
  · refine mw_goto hX (tgt := 1585) dL_law_1234 (by decide) ?_
    refine mw_drop 5 ?_
    refine mw_drop 6 ?_
    dsimp only [List.set]
    exact kk
  · refine mw_aload_n hX dL_law_1222 rfl rfl ?_
    refine mw_ic hX 0 dL_law_1223 rfl ?_
    refine mw_laload hX (j := 0) dL_law_1224 (mw_Yl (by decide)) rfl rfl (by decide) (by decide) ?_
    refine mw_iload hX dL_law_1225 rfl ?_
    refine mw_i2l hX dL_law_1227 ?_
    refine mw_lcmp hX dL_law_1228 ?_
    refine mw_if_eq hX (tgt := 1234) dL_law_1229 (by decide) (fun _ => ?_) (fun h9 => absurd (by rw [he h1219]; exact lg_cmp_self _) h9)
    refine mw_goto hX (tgt := 1585) dL_law_1234 (by decide) ?_
    refine mw_drop 5 ?_
    refine mw_drop 6 ?_
    dsimp only [List.set]
    exact kk
set_option maxRecDepth 20000 in
theorem lc_flow {X : mw_X} (hX : mw_Ok RL cL_law 14 601024 7293034 X) {N : Nat} {xs : Nat → Int32} (hS : lw_Sc X N xs) {i n k : Nat} (hi : i + 5 ≤ N) (hN : N ≤ 2560) {I J K : mw_I} {L L' : mw_L} {k0 b0 : Int32} {dm : Nat} (hdm : dm < 14) (hw : mw_CT (mw_l X) yL_flow (.codeWith yL_flow cL_flow 4 (some .int) [(0, 9, 12, 13)]) 13 10 60 [.ref 0, .int (xs (i + 1)), .ref 59] (mw_Y0, I, L) (.inl (some (.int k0), mw_Y0, J, L'))) (hm : mw_CT (mw_l X) yX2_flow (.code yX2_flow cX2_flow 2 (some .int)) dm 0 0 [.ref 40, .int (xs (i + 1))] (mw_Y0, J, L') (.inl (some (.int b0), mw_Y0, K, L'))) (ht : K 40 19 = k0) (he : k0 = 0 → L' 59 0 = b0.toInt64) (hn : n + 10 ≤ 601024) (hk : k + 60 ≤ 7293034) (kk : mw_G X 1585 [some (.ref 1000000), some (.ref 0), some (.ref 40), some (.ref 59), some (.int (nI i)), none, none] [] mw_Y0 K L' (n + 10) (k + 60)) : mw_G X 1237 [some (.ref 1000000), some (.ref 0), some (.ref 40), some (.ref 59), some (.int (nI i)), none, none] [] mw_Y0 I L n k := by
  refine mw_aload_n hX dL_law_1237 rfl rfl ?_
  refine mw_aload_n hX dL_law_1238 rfl rfl ?_
  refine mw_iload hX dL_law_1239 rfl ?_
  refine mw_ic hX 1 dL_law_1241 rfl ?_
  refine mw_iadd hX dL_law_1242 ?_
  refine mw_sload hX hS (j := i + 1) dL_law_1243 (by decide) (nI_add i 1) (by omega) (by omega) ?_
  refine mw_aload_n hX dL_law_1244 rfl rfl ?_
  refine mw_cSH hX [_, _, _] ws_L_151 dL_law_1245 hw rfl (by omega) hn hk (Nat.le_of_ble_eq_true rfl) ?_
  refine mw_istore hX dL_law_1248 (Nat.le_of_ble_eq_true rfl) ?_
  dsimp only [List.set]
  refine mw_aload_n hX dL_law_1250 rfl rfl ?_
  refine mw_aload_n hX dL_law_1251 rfl rfl ?_
  refine mw_iload hX dL_law_1252 rfl ?_
  refine mw_ic hX 1 dL_law_1254 rfl ?_
  refine mw_iadd hX dL_law_1255 ?_
  refine mw_sload hX hS (j := i + 1) dL_law_1256 (by decide) (nI_add i 1) (by omega) (by omega) ?_
  refine mw_cV hX [_] ws_L_153 dL_law_1257 hm (mw_Yl (by decide)) mw_YM (by decide) rfl hdm (by omega) (by omega) (Nat.le_of_ble_eq_true rfl) ?_
  refine mw_istore hX dL_law_1260 (Nat.le_of_ble_eq_true rfl) ?_
  dsimp only [List.set]
  refine mw_aload_n hX dL_law_1262 rfl rfl ?_
  refine mw_cV hX [] ws_L_94 dL_law_1263 (c_m_thrown (mw_l X) K L') (mw_Yl (by decide)) mw_YM (by decide) rfl (by omega) (by omega) (by omega) (Nat.le_of_ble_eq_true rfl) ?_
  refine mw_iload hX dL_law_1266 rfl ?_
  refine mw_icmp_eq hX (tgt := 1273) dL_law_1268 (by decide) (fun _ => ?_) (fun h1268 => absurd ht h1268)
  refine mw_iload hX dL_law_1273 rfl ?_
  refine mw_if_ne hX (tgt := 1290) dL_law_1275 (by decide) (fun h1275 => ?_) (fun h1275 => ?_)
  · refine mw_goto hX (tgt := 1585) dL_law_1290 (by decide) ?_
    refine mw_drop 5 ?_
    refine mw_drop 6 ?_
    dsimp only [List.set]
    exact kk
  · refine mw_aload_n hX dL_law_1278 rfl rfl ?_
    refine mw_ic hX 0 dL_law_1279 rfl ?_
    refine mw_laload hX (j := 0) dL_law_1280 (mw_Yl (by decide)) rfl rfl (by decide) (by decide) ?_
    refine mw_iload hX dL_law_1281 rfl ?_
    refine mw_i2l hX dL_law_1283 ?_
    refine mw_lcmp hX dL_law_1284 ?_
    refine mw_if_eq hX (tgt := 1290) dL_law_1285 (by decide) (fun _ => ?_) (fun h9 => absurd (by rw [he h1275]; exact lg_cmp_self _) h9)
    refine mw_goto hX (tgt := 1585) dL_law_1290 (by decide) ?_
    refine mw_drop 5 ?_
    refine mw_drop 6 ?_
    dsimp only [List.set]
    exact kk
set_option maxRecDepth 20000 in
theorem lc_energy {X : mw_X} (hX : mw_Ok RL cL_law 14 601024 7293034 X) {N : Nat} {xs : Nat → Int32} (hS : lw_Sc X N xs) {i n k : Nat} (hi : i + 5 ≤ N) (hN : N ≤ 2560) {I J K : mw_I} {L L' : mw_L} {k0 b0 : Int32} {dm : Nat} (hdm : dm < 14) (hw : mw_CT (mw_l X) yL_energy (.codeWith yL_energy cL_energy 4 (some .int) [(0, 9, 12, 13)]) 13 10 60 [.ref 0, .int (xs (i + 1)), .ref 59] (mw_Y0, I, L) (.inl (some (.int k0), mw_Y0, J, L'))) (hm : mw_CT (mw_l X) yX2_energy (.code yX2_energy cX2_energy 2 (some .int)) dm 0 0 [.ref 40, .int (xs (i + 1))] (mw_Y0, J, L') (.inl (some (.int b0), mw_Y0, K, L'))) (ht : K 40 19 = k0) (he : k0 = 0 → L' 59 0 = b0.toInt64) (hn : n + 10 ≤ 601024) (hk : k + 60 ≤ 7293034) (kk : mw_G X 1585 [some (.ref 1000000), some (.ref 0), some (.ref 40), some (.ref 59), some (.int (nI i)), none, none] [] mw_Y0 K L' (n + 10) (k + 60)) : mw_G X 1293 [some (.ref 1000000), some (.ref 0), some (.ref 40), some (.ref 59), some (.int (nI i)), none, none] [] mw_Y0 I L n k := by
  refine mw_aload_n hX dL_law_1293 rfl rfl ?_
  refine mw_aload_n hX dL_law_1294 rfl rfl ?_
  refine mw_iload hX dL_law_1295 rfl ?_
  refine mw_ic hX 1 dL_law_1297 rfl ?_
  refine mw_iadd hX dL_law_1298 ?_
  refine mw_sload hX hS (j := i + 1) dL_law_1299 (by decide) (nI_add i 1) (by omega) (by omega) ?_
  refine mw_aload_n hX dL_law_1300 rfl rfl ?_
  refine mw_cSH hX [_, _, _] ws_L_154 dL_law_1301 hw rfl (by omega) hn hk (Nat.le_of_ble_eq_true rfl) ?_
  refine mw_istore hX dL_law_1304 (Nat.le_of_ble_eq_true rfl) ?_
  dsimp only [List.set]
  refine mw_aload_n hX dL_law_1306 rfl rfl ?_
  refine mw_aload_n hX dL_law_1307 rfl rfl ?_
  refine mw_iload hX dL_law_1308 rfl ?_
  refine mw_ic hX 1 dL_law_1310 rfl ?_
  refine mw_iadd hX dL_law_1311 ?_
  refine mw_sload hX hS (j := i + 1) dL_law_1312 (by decide) (nI_add i 1) (by omega) (by omega) ?_
  refine mw_cV hX [_] ws_L_156 dL_law_1313 hm (mw_Yl (by decide)) mw_YM (by decide) rfl hdm (by omega) (by omega) (Nat.le_of_ble_eq_true rfl) ?_
  refine mw_istore hX dL_law_1316 (Nat.le_of_ble_eq_true rfl) ?_
  dsimp only [List.set]
  refine mw_aload_n hX dL_law_1318 rfl rfl ?_
  refine mw_cV hX [] ws_L_94 dL_law_1319 (c_m_thrown (mw_l X) K L') (mw_Yl (by decide)) mw_YM (by decide) rfl (by omega) (by omega) (by omega) (Nat.le_of_ble_eq_true rfl) ?_
  refine mw_iload hX dL_law_1322 rfl ?_
  refine mw_icmp_eq hX (tgt := 1329) dL_law_1324 (by decide) (fun _ => ?_) (fun h1324 => absurd ht h1324)
  refine mw_iload hX dL_law_1329 rfl ?_
  refine mw_if_ne hX (tgt := 1346) dL_law_1331 (by decide) (fun h1331 => ?_) (fun h1331 => ?_)
  · refine mw_goto hX (tgt := 1585) dL_law_1346 (by decide) ?_
    refine mw_drop 5 ?_
    refine mw_drop 6 ?_
    dsimp only [List.set]
    exact kk
  · refine mw_aload_n hX dL_law_1334 rfl rfl ?_
    refine mw_ic hX 0 dL_law_1335 rfl ?_
    refine mw_laload hX (j := 0) dL_law_1336 (mw_Yl (by decide)) rfl rfl (by decide) (by decide) ?_
    refine mw_iload hX dL_law_1337 rfl ?_
    refine mw_i2l hX dL_law_1339 ?_
    refine mw_lcmp hX dL_law_1340 ?_
    refine mw_if_eq hX (tgt := 1346) dL_law_1341 (by decide) (fun _ => ?_) (fun h9 => absurd (by rw [he h1331]; exact lg_cmp_self _) h9)
    refine mw_goto hX (tgt := 1585) dL_law_1346 (by decide) ?_
    refine mw_drop 5 ?_
    refine mw_drop 6 ?_
    dsimp only [List.set]
    exact kk
set_option maxRecDepth 20000 in
theorem lc_mix {X : mw_X} (hX : mw_Ok RL cL_law 14 601024 7293034 X) {N : Nat} {xs : Nat → Int32} (hS : lw_Sc X N xs) {i n k : Nat} (hi : i + 5 ≤ N) (hN : N ≤ 2560) {I J K : mw_I} {L L' : mw_L} {k0 b0 : Int32} {dm : Nat} (hdm : dm < 14) (hw : mw_CT (mw_l X) yL_mix (.codeWith yL_mix cL_mix 5 (some .int) [(0, 10, 13, 13)]) 13 10 60 [.ref 0, .int (xs (i + 1)), .int (xs (i + 2)), .ref 59] (mw_Y0, I, L) (.inl (some (.int k0), mw_Y0, J, L'))) (hm : mw_CT (mw_l X) yX2_mix (.code yX2_mix cX2_mix 3 (some .int)) dm 0 0 [.ref 40, .int (xs (i + 1)), .int (xs (i + 2))] (mw_Y0, J, L') (.inl (some (.int b0), mw_Y0, K, L'))) (ht : K 40 19 = k0) (he : k0 = 0 → L' 59 0 = b0.toInt64) (hn : n + 10 ≤ 601024) (hk : k + 60 ≤ 7293034) (kk : mw_G X 1585 [some (.ref 1000000), some (.ref 0), some (.ref 40), some (.ref 59), some (.int (nI i)), none, none] [] mw_Y0 K L' (n + 10) (k + 60)) : mw_G X 1349 [some (.ref 1000000), some (.ref 0), some (.ref 40), some (.ref 59), some (.int (nI i)), none, none] [] mw_Y0 I L n k := by
  refine mw_aload_n hX dL_law_1349 rfl rfl ?_
  refine mw_aload_n hX dL_law_1350 rfl rfl ?_
  refine mw_iload hX dL_law_1351 rfl ?_
  refine mw_ic hX 1 dL_law_1353 rfl ?_
  refine mw_iadd hX dL_law_1354 ?_
  refine mw_sload hX hS (j := i + 1) dL_law_1355 (by decide) (nI_add i 1) (by omega) (by omega) ?_
  refine mw_aload_n hX dL_law_1356 rfl rfl ?_
  refine mw_iload hX dL_law_1357 rfl ?_
  refine mw_ic hX 2 dL_law_1359 rfl ?_
  refine mw_iadd hX dL_law_1360 ?_
  refine mw_sload hX hS (j := i + 2) dL_law_1361 (by decide) (nI_add i 2) (by omega) (by omega) ?_
  refine mw_aload_n hX dL_law_1362 rfl rfl ?_
  refine mw_cSH hX [_, _, _, _] ws_L_157 dL_law_1363 hw rfl (by omega) hn hk (Nat.le_of_ble_eq_true rfl) ?_
  refine mw_istore hX dL_law_1366 (Nat.le_of_ble_eq_true rfl) ?_
  dsimp only [List.set]
  refine mw_aload_n hX dL_law_1368 rfl rfl ?_
  refine mw_aload_n hX dL_law_1369 rfl rfl ?_
  refine mw_iload hX dL_law_1370 rfl ?_
  refine mw_ic hX 1 dL_law_1372 rfl ?_
  refine mw_iadd hX dL_law_1373 ?_
  refine mw_sload hX hS (j := i + 1) dL_law_1374 (by decide) (nI_add i 1) (by omega) (by omega) ?_
  refine mw_aload_n hX dL_law_1375 rfl rfl ?_
  refine mw_iload hX dL_law_1376 rfl ?_
  refine mw_ic hX 2 dL_law_1378 rfl ?_
  refine mw_iadd hX dL_law_1379 ?_
  refine mw_sload hX hS (j := i + 2) dL_law_1380 (by decide) (nI_add i 2) (by omega) (by omega) ?_
  refine mw_cV hX [_, _] ws_L_159 dL_law_1381 hm (mw_Yl (by decide)) mw_YM (by decide) rfl hdm (by omega) (by omega) (Nat.le_of_ble_eq_true rfl) ?_
  refine mw_istore hX dL_law_1384 (Nat.le_of_ble_eq_true rfl) ?_
  dsimp only [List.set]
  refine mw_aload_n hX dL_law_1386 rfl rfl ?_
  refine mw_cV hX [] ws_L_94 dL_law_1387 (c_m_thrown (mw_l X) K L') (mw_Yl (by decide)) mw_YM (by decide) rfl (by omega) (by omega) (by omega) (Nat.le_of_ble_eq_true rfl) ?_
  refine mw_iload hX dL_law_1390 rfl ?_
  refine mw_icmp_eq hX (tgt := 1397) dL_law_1392 (by decide) (fun _ => ?_) (fun h1392 => absurd ht h1392)
  refine mw_iload hX dL_law_1397 rfl ?_
  refine mw_if_ne hX (tgt := 1414) dL_law_1399 (by decide) (fun h1399 => ?_) (fun h1399 => ?_)
  · refine mw_goto hX (tgt := 1585) dL_law_1414 (by decide) ?_
    refine mw_drop 5 ?_
    refine mw_drop 6 ?_
    dsimp only [List.set]
    exact kk
  · refine mw_aload_n hX dL_law_1402 rfl rfl ?_
    refine mw_ic hX 0 dL_law_1403 rfl ?_
    refine mw_laload hX (j := 0) dL_law_1404 (mw_Yl (by decide)) rfl rfl (by decide) (by decide) ?_
    refine mw_iload hX dL_law_1405 rfl ?_
    refine mw_i2l hX dL_law_1407 ?_
    refine mw_lcmp hX dL_law_1408 ?_
    refine mw_if_eq hX (tgt := 1414) dL_law_1409 (by decide) (fun _ => ?_) (fun h9 => absurd (by rw [he h1399]; exact lg_cmp_self _) h9)
    refine mw_goto hX (tgt := 1585) dL_law_1414 (by decide) ?_
    refine mw_drop 5 ?_
    refine mw_drop 6 ?_
    dsimp only [List.set]
    exact kk
set_option maxRecDepth 20000 in
theorem lc_bestEnergy {X : mw_X} (hX : mw_Ok RL cL_law 14 601024 7293034 X) {N : Nat} {xs : Nat → Int32} (hS : lw_Sc X N xs) {i n k : Nat} (hi : i + 5 ≤ N) (hN : N ≤ 2560) {I J K : mw_I} {L L' : mw_L} {k0 b0 : Int32} {dm : Nat} (hdm : dm < 14) (hw : mw_CT (mw_l X) yL_bestEnergy (.codeWith yL_bestEnergy cL_bestEnergy 4 (some .int) [(0, 9, 12, 13)]) 13 10 60 [.ref 0, .int (xs (i + 1)), .ref 59] (mw_Y0, I, L) (.inl (some (.int k0), mw_Y0, J, L'))) (hm : mw_CT (mw_l X) yX2_bestEnergy (.code yX2_bestEnergy cX2_bestEnergy 2 (some .int)) dm 0 0 [.ref 40, .int (xs (i + 1))] (mw_Y0, J, L') (.inl (some (.int b0), mw_Y0, K, L'))) (ht : K 40 19 = k0) (he : k0 = 0 → L' 59 0 = b0.toInt64) (hn : n + 10 ≤ 601024) (hk : k + 60 ≤ 7293034) (kk : mw_G X 1585 [some (.ref 1000000), some (.ref 0), some (.ref 40), some (.ref 59), some (.int (nI i)), none, none] [] mw_Y0 K L' (n + 10) (k + 60)) : mw_G X 1417 [some (.ref 1000000), some (.ref 0), some (.ref 40), some (.ref 59), some (.int (nI i)), none, none] [] mw_Y0 I L n k := by
  refine mw_aload_n hX dL_law_1417 rfl rfl ?_
  refine mw_aload_n hX dL_law_1418 rfl rfl ?_
  refine mw_iload hX dL_law_1419 rfl ?_
  refine mw_ic hX 1 dL_law_1421 rfl ?_
  refine mw_iadd hX dL_law_1422 ?_
  refine mw_sload hX hS (j := i + 1) dL_law_1423 (by decide) (nI_add i 1) (by omega) (by omega) ?_
  refine mw_aload_n hX dL_law_1424 rfl rfl ?_
  refine mw_cSH hX [_, _, _] ws_L_160 dL_law_1425 hw rfl (by omega) hn hk (Nat.le_of_ble_eq_true rfl) ?_
  refine mw_istore hX dL_law_1428 (Nat.le_of_ble_eq_true rfl) ?_
  dsimp only [List.set]
  refine mw_aload_n hX dL_law_1430 rfl rfl ?_
  refine mw_aload_n hX dL_law_1431 rfl rfl ?_
  refine mw_iload hX dL_law_1432 rfl ?_
  refine mw_ic hX 1 dL_law_1434 rfl ?_
  refine mw_iadd hX dL_law_1435 ?_
  refine mw_sload hX hS (j := i + 1) dL_law_1436 (by decide) (nI_add i 1) (by omega) (by omega) ?_
  refine mw_cV hX [_] ws_L_162 dL_law_1437 hm (mw_Yl (by decide)) mw_YM (by decide) rfl hdm (by omega) (by omega) (Nat.le_of_ble_eq_true rfl) ?_
  refine mw_istore hX dL_law_1440 (Nat.le_of_ble_eq_true rfl) ?_
  dsimp only [List.set]
  refine mw_aload_n hX dL_law_1442 rfl rfl ?_
  refine mw_cV hX [] ws_L_94 dL_law_1443 (c_m_thrown (mw_l X) K L') (mw_Yl (by decide)) mw_YM (by decide) rfl (by omega) (by omega) (by omega) (Nat.le_of_ble_eq_true rfl) ?_
  refine mw_iload hX dL_law_1446 rfl ?_
  refine mw_icmp_eq hX (tgt := 1453) dL_law_1448 (by decide) (fun _ => ?_) (fun h1448 => absurd ht h1448)
  refine mw_iload hX dL_law_1453 rfl ?_
  refine mw_if_ne hX (tgt := 1470) dL_law_1455 (by decide) (fun h1455 => ?_) (fun h1455 => ?_)
  · refine mw_goto hX (tgt := 1585) dL_law_1470 (by decide) ?_
    refine mw_drop 5 ?_
    refine mw_drop 6 ?_
    dsimp only [List.set]
    exact kk
  · refine mw_aload_n hX dL_law_1458 rfl rfl ?_
    refine mw_ic hX 0 dL_law_1459 rfl ?_
    refine mw_laload hX (j := 0) dL_law_1460 (mw_Yl (by decide)) rfl rfl (by decide) (by decide) ?_
    refine mw_iload hX dL_law_1461 rfl ?_
    refine mw_i2l hX dL_law_1463 ?_
    refine mw_lcmp hX dL_law_1464 ?_
    refine mw_if_eq hX (tgt := 1470) dL_law_1465 (by decide) (fun _ => ?_) (fun h9 => absurd (by rw [he h1455]; exact lg_cmp_self _) h9)
    refine mw_goto hX (tgt := 1585) dL_law_1470 (by decide) ?_
    refine mw_drop 5 ?_
    refine mw_drop 6 ?_
    dsimp only [List.set]
    exact kk
set_option maxRecDepth 20000 in
theorem lc_bestEnergyByAll {X : mw_X} (hX : mw_Ok RL cL_law 14 601024 7293034 X) {N : Nat} {xs : Nat → Int32} (hS : lw_Sc X N xs) {i n k : Nat} (hi : i + 5 ≤ N) (hN : N ≤ 2560) {I J K : mw_I} {L L' : mw_L} {k0 b0 : Int32} {dm : Nat} (hdm : dm < 14) (hw : mw_CT (mw_l X) yL_bestEnergyByAll (.codeWith yL_bestEnergyByAll cL_bestEnergyByAll 4 (some .int) [(0, 9, 12, 13)]) 13 10 60 [.ref 0, .int (xs (i + 1)), .ref 59] (mw_Y0, I, L) (.inl (some (.int k0), mw_Y0, J, L'))) (hm : mw_CT (mw_l X) yX2_bestEnergyByAll (.code yX2_bestEnergyByAll cX2_bestEnergyByAll 2 (some .int)) dm 0 0 [.ref 40, .int (xs (i + 1))] (mw_Y0, J, L') (.inl (some (.int b0), mw_Y0, K, L'))) (ht : K 40 19 = k0) (he : k0 = 0 → L' 59 0 = b0.toInt64) (hn : n + 10 ≤ 601024) (hk : k + 60 ≤ 7293034) (kk : mw_G X 1585 [some (.ref 1000000), some (.ref 0), some (.ref 40), some (.ref 59), some (.int (nI i)), none, none] [] mw_Y0 K L' (n + 10) (k + 60)) : mw_G X 1473 [some (.ref 1000000), some (.ref 0), some (.ref 40), some (.ref 59), some (.int (nI i)), none, none] [] mw_Y0 I L n k := by
  refine mw_aload_n hX dL_law_1473 rfl rfl ?_
  refine mw_aload_n hX dL_law_1474 rfl rfl ?_
  refine mw_iload hX dL_law_1475 rfl ?_
  refine mw_ic hX 1 dL_law_1477 rfl ?_
  refine mw_iadd hX dL_law_1478 ?_
  refine mw_sload hX hS (j := i + 1) dL_law_1479 (by decide) (nI_add i 1) (by omega) (by omega) ?_
  refine mw_aload_n hX dL_law_1480 rfl rfl ?_
  refine mw_cSH hX [_, _, _] ws_L_163 dL_law_1481 hw rfl (by omega) hn hk (Nat.le_of_ble_eq_true rfl) ?_
  refine mw_istore hX dL_law_1484 (Nat.le_of_ble_eq_true rfl) ?_
  dsimp only [List.set]
  refine mw_aload_n hX dL_law_1486 rfl rfl ?_
  refine mw_aload_n hX dL_law_1487 rfl rfl ?_
  refine mw_iload hX dL_law_1488 rfl ?_
  refine mw_ic hX 1 dL_law_1490 rfl ?_
  refine mw_iadd hX dL_law_1491 ?_
  refine mw_sload hX hS (j := i + 1) dL_law_1492 (by decide) (nI_add i 1) (by omega) (by omega) ?_
  refine mw_cV hX [_] ws_L_165 dL_law_1493 hm (mw_Yl (by decide)) mw_YM (by decide) rfl hdm (by omega) (by omega) (Nat.le_of_ble_eq_true rfl) ?_
  refine mw_istore hX dL_law_1496 (Nat.le_of_ble_eq_true rfl) ?_
  dsimp only [List.set]
  refine mw_aload_n hX dL_law_1498 rfl rfl ?_
  refine mw_cV hX [] ws_L_94 dL_law_1499 (c_m_thrown (mw_l X) K L') (mw_Yl (by decide)) mw_YM (by decide) rfl (by omega) (by omega) (by omega) (Nat.le_of_ble_eq_true rfl) ?_
  refine mw_iload hX dL_law_1502 rfl ?_
  refine mw_icmp_eq hX (tgt := 1509) dL_law_1504 (by decide) (fun _ => ?_) (fun h1504 => absurd ht h1504)
  refine mw_iload hX dL_law_1509 rfl ?_
  refine mw_if_ne hX (tgt := 1526) dL_law_1511 (by decide) (fun h1511 => ?_) (fun h1511 => ?_)
  · refine mw_goto hX (tgt := 1585) dL_law_1526 (by decide) ?_
    refine mw_drop 5 ?_
    refine mw_drop 6 ?_
    dsimp only [List.set]
    exact kk
  · refine mw_aload_n hX dL_law_1514 rfl rfl ?_
    refine mw_ic hX 0 dL_law_1515 rfl ?_
    refine mw_laload hX (j := 0) dL_law_1516 (mw_Yl (by decide)) rfl rfl (by decide) (by decide) ?_
    refine mw_iload hX dL_law_1517 rfl ?_
    refine mw_i2l hX dL_law_1519 ?_
    refine mw_lcmp hX dL_law_1520 ?_
    refine mw_if_eq hX (tgt := 1526) dL_law_1521 (by decide) (fun _ => ?_) (fun h9 => absurd (by rw [he h1511]; exact lg_cmp_self _) h9)
    refine mw_goto hX (tgt := 1585) dL_law_1526 (by decide) ?_
    refine mw_drop 5 ?_
    refine mw_drop 6 ?_
    dsimp only [List.set]
    exact kk
set_option maxRecDepth 20000 in
theorem lc_bestRelease {X : mw_X} (hX : mw_Ok RL cL_law 14 601024 7293034 X) {N : Nat} {xs : Nat → Int32} (hS : lw_Sc X N xs) {i n k : Nat} (hi : i + 5 ≤ N) (hN : N ≤ 2560) {I J K : mw_I} {L L' : mw_L} {k0 b0 : Int32} {dm : Nat} (hdm : dm < 14) (hw : mw_CT (mw_l X) yL_bestRelease (.codeWith yL_bestRelease cL_bestRelease 4 (some .int) [(0, 9, 12, 13)]) 13 10 60 [.ref 0, .int (xs (i + 1)), .ref 59] (mw_Y0, I, L) (.inl (some (.int k0), mw_Y0, J, L'))) (hm : mw_CT (mw_l X) yX2_bestRelease (.code yX2_bestRelease cX2_bestRelease 6 (some .int)) dm 0 0 [.ref 40, .int (xs (i + 1))] (mw_Y0, J, L') (.inl (some (.int b0), mw_Y0, K, L'))) (ht : K 40 19 = k0) (he : k0 = 0 → L' 59 0 = b0.toInt64) (hn : n + 10 ≤ 601024) (hk : k + 60 ≤ 7293034) (kk : mw_G X 1585 [some (.ref 1000000), some (.ref 0), some (.ref 40), some (.ref 59), some (.int (nI i)), none, none] [] mw_Y0 K L' (n + 10) (k + 60)) : mw_G X 1529 [some (.ref 1000000), some (.ref 0), some (.ref 40), some (.ref 59), some (.int (nI i)), none, none] [] mw_Y0 I L n k := by
  refine mw_aload_n hX dL_law_1529 rfl rfl ?_
  refine mw_aload_n hX dL_law_1530 rfl rfl ?_
  refine mw_iload hX dL_law_1531 rfl ?_
  refine mw_ic hX 1 dL_law_1533 rfl ?_
  refine mw_iadd hX dL_law_1534 ?_
  refine mw_sload hX hS (j := i + 1) dL_law_1535 (by decide) (nI_add i 1) (by omega) (by omega) ?_
  refine mw_aload_n hX dL_law_1536 rfl rfl ?_
  refine mw_cSH hX [_, _, _] ws_L_166 dL_law_1537 hw rfl (by omega) hn hk (Nat.le_of_ble_eq_true rfl) ?_
  refine mw_istore hX dL_law_1540 (Nat.le_of_ble_eq_true rfl) ?_
  dsimp only [List.set]
  refine mw_aload_n hX dL_law_1542 rfl rfl ?_
  refine mw_aload_n hX dL_law_1543 rfl rfl ?_
  refine mw_iload hX dL_law_1544 rfl ?_
  refine mw_ic hX 1 dL_law_1546 rfl ?_
  refine mw_iadd hX dL_law_1547 ?_
  refine mw_sload hX hS (j := i + 1) dL_law_1548 (by decide) (nI_add i 1) (by omega) (by omega) ?_
  refine mw_cV hX [_] ws_L_168 dL_law_1549 hm (mw_Yl (by decide)) mw_YM (by decide) rfl hdm (by omega) (by omega) (Nat.le_of_ble_eq_true rfl) ?_
  refine mw_istore hX dL_law_1552 (Nat.le_of_ble_eq_true rfl) ?_
  dsimp only [List.set]
  refine mw_aload_n hX dL_law_1554 rfl rfl ?_
  refine mw_cV hX [] ws_L_94 dL_law_1555 (c_m_thrown (mw_l X) K L') (mw_Yl (by decide)) mw_YM (by decide) rfl (by omega) (by omega) (by omega) (Nat.le_of_ble_eq_true rfl) ?_
  refine mw_iload hX dL_law_1558 rfl ?_
  refine mw_icmp_eq hX (tgt := 1565) dL_law_1560 (by decide) (fun _ => ?_) (fun h1560 => absurd ht h1560)
  refine mw_iload hX dL_law_1565 rfl ?_
  refine mw_if_ne hX (tgt := 1582) dL_law_1567 (by decide) (fun h1567 => ?_) (fun h1567 => ?_)
  · refine mw_goto hX (tgt := 1585) dL_law_1582 (by decide) ?_
    refine mw_drop 5 ?_
    refine mw_drop 6 ?_
    dsimp only [List.set]
    exact kk
  · refine mw_aload_n hX dL_law_1570 rfl rfl ?_
    refine mw_ic hX 0 dL_law_1571 rfl ?_
    refine mw_laload hX (j := 0) dL_law_1572 (mw_Yl (by decide)) rfl rfl (by decide) (by decide) ?_
    refine mw_iload hX dL_law_1573 rfl ?_
    refine mw_i2l hX dL_law_1575 ?_
    refine mw_lcmp hX dL_law_1576 ?_
    refine mw_if_eq hX (tgt := 1582) dL_law_1577 (by decide) (fun _ => ?_) (fun h9 => absurd (by rw [he h1567]; exact lg_cmp_self _) h9)
    refine mw_goto hX (tgt := 1585) dL_law_1582 (by decide) ?_
    refine mw_drop 5 ?_
    refine mw_drop 6 ?_
    dsimp only [List.set]
    exact kk
theorem lc_hour {X : mw_X} (hX : mw_Ok RL cL_law 14 601024 7293034 X) {i n k : Nat} {I : mw_I} {L : mw_L} (ht : I 0 6 = I 40 10) (hn : n + 10 ≤ 601024) (hk : k + 60 ≤ 7293034) (kk : mw_G X 1585 [some (.ref 1000000), some (.ref 0), some (.ref 40), some (.ref 59), some (.int (nI i)), none, none] [] mw_Y0 (mw_up I 40 19 0) L (n + 10) (k + 60)) : mw_G X 592 [some (.ref 1000000), some (.ref 0), some (.ref 40), some (.ref 59), some (.int (nI i)), none, none] [] mw_Y0 I L n k := by
  refine mw_aload_n hX dL_law_592 rfl rfl ?_
  refine mw_cV hX [] ws_L_117 dL_law_593 (c_hour (mw_l X) I L) (mw_Yl (by decide)) mw_YW (by decide) rfl (by omega) (by omega) (by omega) (Nat.le_of_ble_eq_true rfl) ?_
  refine mw_aload_n hX dL_law_596 rfl rfl ?_
  refine mw_cV hX [] ws_L_120 dL_law_597 (c_m_hour (mw_l X) I L) (mw_Yl (by decide)) mw_YM (by decide) rfl (by omega) (by omega) (by omega) (Nat.le_of_ble_eq_true rfl) ?_
  refine mw_icmp_eq hX (tgt := 1585) dL_law_600 (by decide) (fun _ => ?_) (fun h => absurd (ht.trans (mw_up_nj (by decide)).symm) h)
  exact mw_le (by omega) (by omega) kk
