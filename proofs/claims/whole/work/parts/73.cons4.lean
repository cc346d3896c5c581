set_option maxHeartbeats 2000000 in
set_option maxRecDepth 100000 in
theorem zi_X5 (l : Launch) (D : va_G) (cy : Nat → ClassId) (h0 : Nat) : Zx l D (zM cy) mX5_init 0 (xent [.ref h0] 1) [] [(h0, .inr (4, [.null, .null, .null, .int 0, .null, .null, .int 0, .int 0, .null, .int 0, .int 0, .int 0, .int 0, .long 0, .null, .null, .null, .null, .null, .null, .null]))] 0 0 (fun ws => ∃ q1 q2 q3 q4 q5 q6 q7 q8 q9 q10 q11 q12 q13 : Nat, ws = [(h0, .inr (4, [.ref q1, .ref q2, .ref q3, .int 0, .ref q4, .ref q5, .int 0, .int 0, .ref q6, .int 0, .int 0, .int 0, .int 0, .long 0, .ref q7, .ref q8, .ref q9, .ref q10, .ref q11, .ref q12, .ref q13])), (q1, .inl (cy 0, 147, .inl (upd (fun _ => 0) 1 3))), (q2, .inl (cy 0, 147, .inl (fun _ => 0))), (q3, .inl (cy 0, 147, .inl (fun _ => 0))), (q4, .inl (cy 0, 7, .inl (fun _ => 0))), (q5, .inl (cy 0, 20, .inl (fun _ => 0))), (q6, .inl (cy 0, 120, .inl (fun _ => 0))), (q7, .inl (cy 2, 54, .inl (wr mL7 54))), (q8, .inl (cy 2, 18, .inl (wr mL8 18))), (q9, .inl (cy 2, 54, .inl (wr mL9 54))), (q10, .inl (cy 0, 4, .inl (fun _ => 0))), (q11, .inl (cy 0, 4, .inl (fun _ => 0))), (q12, .inl (cy 1, 160, .inr (.inl (fun _ => 0)))), (q13, .inl (cy 1, 40, .inr (.inl (fun _ => 0))))]) := by
  refine z_ent (ls := [some (.ref h0)]) rfl ?_
  refine z_aload (i := 0) dX5_init_0 rfl rfl ?_
  refine z_obj dX5_init_1 ml_X5_1 (by decide) (fun _ _ => (Nat.le_of_ble_eq_true rfl)) ?_
  refine z_aload (i := 0) dX5_init_4 rfl rfl ?_
  refine z_sipush (v := nI 147) dX5_init_5 (by decide) ?_
  refine z_newi (N := 147) (kc2 := 1) (ks2 := 147) (cA := cy 0) dX5_init_8 rfl (by decide) (Nat.le_of_ble_eq_true rfl) rfl rfl (Nat.le_of_ble_eq_true rfl) (Nat.le_of_ble_eq_true rfl) (fun q1 => ?_)
  refine z_putF (q0 := 0) (i := 0) (ws2 := [(h0, .inr (4, [.ref q1, .null, .null, .int 0, .null, .null, .int 0, .int 0, .null, .int 0, .int 0, .int 0, .int 0, .long 0, .null, .null, .null, .null, .null, .null, .null])), (q1, .inl (cy 0, 147, .inl (fun _ => 0)))]) dX5_init_10 rfl rfl (by decide) fl_X5_9 inX5 tyX5_ok nmX5 rfl rfl rfl rfl rfl (Nat.le_of_ble_eq_true rfl) rfl ?_
  refine z_aload (i := 0) dX5_init_13 rfl rfl ?_
  refine z_sipush (v := nI 147) dX5_init_14 (by decide) ?_
  refine z_newi (N := 147) (kc2 := 2) (ks2 := 294) (cA := cy 0) dX5_init_17 rfl (by decide) (Nat.le_of_ble_eq_true rfl) rfl rfl (Nat.le_of_ble_eq_true rfl) (Nat.le_of_ble_eq_true rfl) (fun q2 => ?_)
  refine z_putF (q0 := 0) (i := 1) (ws2 := [(h0, .inr (4, [.ref q1, .ref q2, .null, .int 0, .null, .null, .int 0, .int 0, .null, .int 0, .int 0, .int 0, .int 0, .long 0, .null, .null, .null, .null, .null, .null, .null])), (q1, .inl (cy 0, 147, .inl (fun _ => 0))), (q2, .inl (cy 0, 147, .inl (fun _ => 0)))]) dX5_init_19 rfl rfl (by decide) fl_X5_13 inX5 tyX5_ok nmX5 rfl rfl rfl rfl rfl (Nat.le_of_ble_eq_true rfl) rfl ?_
  refine z_aload (i := 0) dX5_init_22 rfl rfl ?_
  refine z_sipush (v := nI 147) dX5_init_23 (by decide) ?_
  refine z_newi (N := 147) (kc2 := 3) (ks2 := 441) (cA := cy 0) dX5_init_26 rfl (by decide) (Nat.le_of_ble_eq_true rfl) rfl rfl (Nat.le_of_ble_eq_true rfl) (Nat.le_of_ble_eq_true rfl) (fun q3 => ?_)
  refine z_putF (q0 := 0) (i := 2) (ws2 := [(h0, .inr (4, [.ref q1, .ref q2, .ref q3, .int 0, .null, .null, .int 0, .int 0, .null, .int 0, .int 0, .int 0, .int 0, .long 0, .null, .null, .null, .null, .null, .null, .null])), (q1, .inl (cy 0, 147, .inl (fun _ => 0))), (q2, .inl (cy 0, 147, .inl (fun _ => 0))), (q3, .inl (cy 0, 147, .inl (fun _ => 0)))]) dX5_init_28 rfl rfl (by decide) fl_X5_16 inX5 tyX5_ok nmX5 rfl rfl rfl rfl rfl (Nat.le_of_ble_eq_true rfl) rfl ?_
  refine z_aload (i := 0) dX5_init_31 rfl rfl ?_
  refine z_bipush (v := nI 7) dX5_init_32 (by decide) ?_
  refine z_newi (N := 7) (kc2 := 4) (ks2 := 448) (cA := cy 0) dX5_init_34 rfl (by decide) (Nat.le_of_ble_eq_true rfl) rfl rfl (Nat.le_of_ble_eq_true rfl) (Nat.le_of_ble_eq_true rfl) (fun q4 => ?_)
  refine z_putF (q0 := 0) (i := 4) (ws2 := [(h0, .inr (4, [.ref q1, .ref q2, .ref q3, .int 0, .ref q4, .null, .int 0, .int 0, .null, .int 0, .int 0, .int 0, .int 0, .long 0, .null, .null, .null, .null, .null, .null, .null])), (q1, .inl (cy 0, 147, .inl (fun _ => 0))), (q2, .inl (cy 0, 147, .inl (fun _ => 0))), (q3, .inl (cy 0, 147, .inl (fun _ => 0))), (q4, .inl (cy 0, 7, .inl (fun _ => 0)))]) dX5_init_36 rfl rfl (by decide) fl_X5_19 inX5 tyX5_ok nmX5 rfl rfl rfl rfl rfl (Nat.le_of_ble_eq_true rfl) rfl ?_
  refine z_aload (i := 0) dX5_init_39 rfl rfl ?_
  refine z_bipush (v := nI 20) dX5_init_40 (by decide) ?_
  refine z_newi (N := 20) (kc2 := 5) (ks2 := 468) (cA := cy 0) dX5_init_42 rfl (by decide) (Nat.le_of_ble_eq_true rfl) rfl rfl (Nat.le_of_ble_eq_true rfl) (Nat.le_of_ble_eq_true rfl) (fun q5 => ?_)
  refine z_putF (q0 := 0) (i := 5) (ws2 := [(h0, .inr (4, [.ref q1, .ref q2, .ref q3, .int 0, .ref q4, .ref q5, .int 0, .int 0, .null, .int 0, .int 0, .int 0, .int 0, .long 0, .null, .null, .null, .null, .null, .null, .null])), (q1, .inl (cy 0, 147, .inl (fun _ => 0))), (q2, .inl (cy 0, 147, .inl (fun _ => 0))), (q3, .inl (cy 0, 147, .inl (fun _ => 0))), (q4, .inl (cy 0, 7, .inl (fun _ => 0))), (q5, .inl (cy 0, 20, .inl (fun _ => 0)))]) dX5_init_44 rfl rfl (by decide) fl_X5_22 inX5 tyX5_ok nmX5 rfl rfl rfl rfl rfl (Nat.le_of_ble_eq_true rfl) rfl ?_
  refine z_aload (i := 0) dX5_init_47 rfl rfl ?_
  refine z_bipush (v := nI 120) dX5_init_48 (by decide) ?_
  refine z_newi (N := 120) (kc2 := 6) (ks2 := 588) (cA := cy 0) dX5_init_50 rfl (by decide) (Nat.le_of_ble_eq_true rfl) rfl rfl (Nat.le_of_ble_eq_true rfl) (Nat.le_of_ble_eq_true rfl) (fun q6 => ?_)
  refine z_putF (q0 := 0) (i := 8) (ws2 := [(h0, .inr (4, [.ref q1, .ref q2, .ref q3, .int 0, .ref q4, .ref q5, .int 0, .int 0, .ref q6, .int 0, .int 0, .int 0, .int 0, .long 0, .null, .null, .null, .null, .null, .null, .null])), (q1, .inl (cy 0, 147, .inl (fun _ => 0))), (q2, .inl (cy 0, 147, .inl (fun _ => 0))), (q3, .inl (cy 0, 147, .inl (fun _ => 0))), (q4, .inl (cy 0, 7, .inl (fun _ => 0))), (q5, .inl (cy 0, 20, .inl (fun _ => 0))), (q6, .inl (cy 0, 120, .inl (fun _ => 0)))]) dX5_init_52 rfl rfl (by decide) fl_X5_25 inX5 tyX5_ok nmX5 rfl rfl rfl rfl rfl (Nat.le_of_ble_eq_true rfl) rfl ?_
  refine z_aload (i := 0) dX5_init_55 rfl rfl ?_
  refine z_bipush (v := nI 54) dX5_init_56 (by decide) ?_
  refine z_newc (N := 54) (kc2 := 7) (ks2 := 642) (cA := cy 2) dX5_init_58 rfl (by decide) (Nat.le_of_ble_eq_true rfl) rfl rfl (Nat.le_of_ble_eq_true rfl) (Nat.le_of_ble_eq_true rfl) (fun q7 => ?_)
  refine z_eqw (ws2 := [(h0, .inr (4, [.ref q1, .ref q2, .ref q3, .int 0, .ref q4, .ref q5, .int 0, .int 0, .ref q6, .int 0, .int 0, .int 0, .int 0, .long 0, .null, .null, .null, .null, .null, .null, .null])), (q1, .inl (cy 0, 147, .inl (fun _ => 0))), (q2, .inl (cy 0, 147, .inl (fun _ => 0))), (q3, .inl (cy 0, 147, .inl (fun _ => 0))), (q4, .inl (cy 0, 7, .inl (fun _ => 0))), (q5, .inl (cy 0, 20, .inl (fun _ => 0))), (q6, .inl (cy 0, 120, .inl (fun _ => 0)))] ++ [(q7, .inl (cy 2, 54, .inl (wr mL7 0)))]) (by rw [wr_0]) ?_
  refine z_ch5 (t := mL7) (i := 0) rfl dX5_init_60 dX5_init_61 dX5_init_62 dX5_init_64 (by decide) (by decide) (by decide) (by decide) ?_
  refine z_ch5 (t := mL7) (i := 1) rfl dX5_init_65 dX5_init_66 dX5_init_67 dX5_init_69 (by decide) (by decide) (by decide) (by decide) ?_
  refine z_ch5 (t := mL7) (i := 2) rfl dX5_init_70 dX5_init_71 dX5_init_72 dX5_init_74 (by decide) (by decide) (by decide) (by decide) ?_
  refine z_ch5 (t := mL7) (i := 3) rfl dX5_init_75 dX5_init_76 dX5_init_77 dX5_init_79 (by decide) (by decide) (by decide) (by decide) ?_
  refine z_ch5 (t := mL7) (i := 4) rfl dX5_init_80 dX5_init_81 dX5_init_82 dX5_init_84 (by decide) (by decide) (by decide) (by decide) ?_
  refine z_ch5 (t := mL7) (i := 5) rfl dX5_init_85 dX5_init_86 dX5_init_87 dX5_init_89 (by decide) (by decide) (by decide) (by decide) ?_
  refine z_ch6 (t := mL7) (i := 6) rfl dX5_init_90 dX5_init_91 dX5_init_93 dX5_init_95 (by decide) (by decide) (by decide) (by decide) (by decide) ?_
  refine z_ch6 (t := mL7) (i := 7) rfl dX5_init_96 dX5_init_97 dX5_init_99 dX5_init_101 (by decide) (by decide) (by decide) (by decide) (by decide) ?_
  refine z_ch6 (t := mL7) (i := 8) rfl dX5_init_102 dX5_init_103 dX5_init_105 dX5_init_107 (by decide) (by decide) (by decide) (by decide) (by decide) ?_
  refine z_ch6 (t := mL7) (i := 9) rfl dX5_init_108 dX5_init_109 dX5_init_111 dX5_init_113 (by decide) (by decide) (by decide) (by decide) (by decide) ?_
  refine z_ch6 (t := mL7) (i := 10) rfl dX5_init_114 dX5_init_115 dX5_init_117 dX5_init_119 (by decide) (by decide) (by decide) (by decide) (by decide) ?_
  refine z_ch6 (t := mL7) (i := 11) rfl dX5_init_120 dX5_init_121 dX5_init_123 dX5_init_125 (by decide) (by decide) (by decide) (by decide) (by decide) ?_
  refine z_ch6 (t := mL7) (i := 12) rfl dX5_init_126 dX5_init_127 dX5_init_129 dX5_init_131 (by decide) (by decide) (by decide) (by decide) (by decide) ?_
  refine z_ch6 (t := mL7) (i := 13) rfl dX5_init_132 dX5_init_133 dX5_init_135 dX5_init_137 (by decide) (by decide) (by decide) (by decide) (by decide) ?_
  refine z_ch6 (t := mL7) (i := 14) rfl dX5_init_138 dX5_init_139 dX5_init_141 dX5_init_143 (by decide) (by decide) (by decide) (by decide) (by decide) ?_
  refine z_ch6 (t := mL7) (i := 15) rfl dX5_init_144 dX5_init_145 dX5_init_147 dX5_init_149 (by decide) (by decide) (by decide) (by decide) (by decide) ?_
  refine z_ch6 (t := mL7) (i := 16) rfl dX5_init_150 dX5_init_151 dX5_init_153 dX5_init_155 (by decide) (by decide) (by decide) (by decide) (by decide) ?_
  refine z_ch6 (t := mL7) (i := 17) rfl dX5_init_156 dX5_init_157 dX5_init_159 dX5_init_161 (by decide) (by decide) (by decide) (by decide) (by decide) ?_
  refine z_ch6 (t := mL7) (i := 18) rfl dX5_init_162 dX5_init_163 dX5_init_165 dX5_init_167 (by decide) (by decide) (by decide) (by decide) (by decide) ?_
  refine z_ch6 (t := mL7) (i := 19) rfl dX5_init_168 dX5_init_169 dX5_init_171 dX5_init_173 (by decide) (by decide) (by decide) (by decide) (by decide) ?_
  refine z_ch6 (t := mL7) (i := 20) rfl dX5_init_174 dX5_init_175 dX5_init_177 dX5_init_179 (by decide) (by decide) (by decide) (by decide) (by decide) ?_
  refine z_ch6 (t := mL7) (i := 21) rfl dX5_init_180 dX5_init_181 dX5_init_183 dX5_init_185 (by decide) (by decide) (by decide) (by decide) (by decide) ?_
  refine z_ch6 (t := mL7) (i := 22) rfl dX5_init_186 dX5_init_187 dX5_init_189 dX5_init_191 (by decide) (by decide) (by decide) (by decide) (by decide) ?_
  refine z_ch6 (t := mL7) (i := 23) rfl dX5_init_192 dX5_init_193 dX5_init_195 dX5_init_197 (by decide) (by decide) (by decide) (by decide) (by decide) ?_
  refine z_ch6 (t := mL7) (i := 24) rfl dX5_init_198 dX5_init_199 dX5_init_201 dX5_init_203 (by decide) (by decide) (by decide) (by decide) (by decide) ?_
  refine z_ch6 (t := mL7) (i := 25) rfl dX5_init_204 dX5_init_205 dX5_init_207 dX5_init_209 (by decide) (by decide) (by decide) (by decide) (by decide) ?_
  refine z_ch6 (t := mL7) (i := 26) rfl dX5_init_210 dX5_init_211 dX5_init_213 dX5_init_215 (by decide) (by decide) (by decide) (by decide) (by decide) ?_
  refine z_ch6 (t := mL7) (i := 27) rfl dX5_init_216 dX5_init_217 dX5_init_219 dX5_init_221 (by decide) (by decide) (by decide) (by decide) (by decide) ?_
  refine z_ch6 (t := mL7) (i := 28) rfl dX5_init_222 dX5_init_223 dX5_init_225 dX5_init_227 (by decide) (by decide) (by decide) (by decide) (by decide) ?_
  refine z_ch6 (t := mL7) (i := 29) rfl dX5_init_228 dX5_init_229 dX5_init_231 dX5_init_233 (by decide) (by decide) (by decide) (by decide) (by decide) ?_
  refine z_ch6 (t := mL7) (i := 30) rfl dX5_init_234 dX5_init_235 dX5_init_237 dX5_init_239 (by decide) (by decide) (by decide) (by decide) (by decide) ?_
  refine z_ch6 (t := mL7) (i := 31) rfl dX5_init_240 dX5_init_241 dX5_init_243 dX5_init_245 (by decide) (by decide) (by decide) (by decide) (by decide) ?_
  refine z_ch6 (t := mL7) (i := 32) rfl dX5_init_246 dX5_init_247 dX5_init_249 dX5_init_251 (by decide) (by decide) (by decide) (by decide) (by decide) ?_
  refine z_ch6 (t := mL7) (i := 33) rfl dX5_init_252 dX5_init_253 dX5_init_255 dX5_init_257 (by decide) (by decide) (by decide) (by decide) (by decide) ?_
  refine z_ch6 (t := mL7) (i := 34) rfl dX5_init_258 dX5_init_259 dX5_init_261 dX5_init_263 (by decide) (by decide) (by decide) (by decide) (by decide) ?_
  refine z_ch6 (t := mL7) (i := 35) rfl dX5_init_264 dX5_init_265 dX5_init_267 dX5_init_269 (by decide) (by decide) (by decide) (by decide) (by decide) ?_
  refine z_ch6 (t := mL7) (i := 36) rfl dX5_init_270 dX5_init_271 dX5_init_273 dX5_init_275 (by decide) (by decide) (by decide) (by decide) (by decide) ?_
  refine z_ch6 (t := mL7) (i := 37) rfl dX5_init_276 dX5_init_277 dX5_init_279 dX5_init_281 (by decide) (by decide) (by decide) (by decide) (by decide) ?_
  refine z_ch6 (t := mL7) (i := 38) rfl dX5_init_282 dX5_init_283 dX5_init_285 dX5_init_287 (by decide) (by decide) (by decide) (by decide) (by decide) ?_
  refine z_ch6 (t := mL7) (i := 39) rfl dX5_init_288 dX5_init_289 dX5_init_291 dX5_init_293 (by decide) (by decide) (by decide) (by decide) (by decide) ?_
  refine z_ch6 (t := mL7) (i := 40) rfl dX5_init_294 dX5_init_295 dX5_init_297 dX5_init_299 (by decide) (by decide) (by decide) (by decide) (by decide) ?_
  refine z_ch6 (t := mL7) (i := 41) rfl dX5_init_300 dX5_init_301 dX5_init_303 dX5_init_305 (by decide) (by decide) (by decide) (by decide) (by decide) ?_
  refine z_ch6 (t := mL7) (i := 42) rfl dX5_init_306 dX5_init_307 dX5_init_309 dX5_init_311 (by decide) (by decide) (by decide) (by decide) (by decide) ?_
  refine z_ch6 (t := mL7) (i := 43) rfl dX5_init_312 dX5_init_313 dX5_init_315 dX5_init_317 (by decide) (by decide) (by decide) (by decide) (by decide) ?_
  refine z_ch6 (t := mL7) (i := 44) rfl dX5_init_318 dX5_init_319 dX5_init_321 dX5_init_323 (by decide) (by decide) (by decide) (by decide) (by decide) ?_
  refine z_ch6 (t := mL7) (i := 45) rfl dX5_init_324 dX5_init_325 dX5_init_327 dX5_init_329 (by decide) (by decide) (by decide) (by decide) (by decide) ?_
  refine z_ch6 (t := mL7) (i := 46) rfl dX5_init_330 dX5_init_331 dX5_init_333 dX5_init_335 (by decide) (by decide) (by decide) (by decide) (by decide) ?_
  refine z_ch6 (t := mL7) (i := 47) rfl dX5_init_336 dX5_init_337 dX5_init_339 dX5_init_341 (by decide) (by decide) (by decide) (by decide) (by decide) ?_
  refine z_ch6 (t := mL7) (i := 48) rfl dX5_init_342 dX5_init_343 dX5_init_345 dX5_init_347 (by decide) (by decide) (by decide) (by decide) (by decide) ?_
  refine z_ch6 (t := mL7) (i := 49) rfl dX5_init_348 dX5_init_349 dX5_init_351 dX5_init_353 (by decide) (by decide) (by decide) (by decide) (by decide) ?_
  refine z_ch6 (t := mL7) (i := 50) rfl dX5_init_354 dX5_init_355 dX5_init_357 dX5_init_359 (by decide) (by decide) (by decide) (by decide) (by decide) ?_
  refine z_ch6 (t := mL7) (i := 51) rfl dX5_init_360 dX5_init_361 dX5_init_363 dX5_init_365 (by decide) (by decide) (by decide) (by decide) (by decide) ?_
  refine z_ch6 (t := mL7) (i := 52) rfl dX5_init_366 dX5_init_367 dX5_init_369 dX5_init_371 (by decide) (by decide) (by decide) (by decide) (by decide) ?_
  refine z_ch6 (t := mL7) (i := 53) rfl dX5_init_372 dX5_init_373 dX5_init_375 dX5_init_377 (by decide) (by decide) (by decide) (by decide) (by decide) ?_
  refine z_putF (q0 := 0) (i := 14) (ws2 := [(h0, .inr (4, [.ref q1, .ref q2, .ref q3, .int 0, .ref q4, .ref q5, .int 0, .int 0, .ref q6, .int 0, .int 0, .int 0, .int 0, .long 0, .ref q7, .null, .null, .null, .null, .null, .null])), (q1, .inl (cy 0, 147, .inl (fun _ => 0))), (q2, .inl (cy 0, 147, .inl (fun _ => 0))), (q3, .inl (cy 0, 147, .inl (fun _ => 0))), (q4, .inl (cy 0, 7, .inl (fun _ => 0))), (q5, .inl (cy 0, 20, .inl (fun _ => 0))), (q6, .inl (cy 0, 120, .inl (fun _ => 0))), (q7, .inl (cy 2, 54, .inl (wr mL7 54)))]) dX5_init_378 rfl rfl (by decide) fl_X5_28 inX5 tyX5_ok nmX5 rfl rfl rfl rfl rfl (Nat.le_of_ble_eq_true rfl) rfl ?_
  refine z_aload (i := 0) dX5_init_381 rfl rfl ?_
  refine z_bipush (v := nI 18) dX5_init_382 (by decide) ?_
  refine z_newc (N := 18) (kc2 := 8) (ks2 := 660) (cA := cy 2) dX5_init_384 rfl (by decide) (Nat.le_of_ble_eq_true rfl) rfl rfl (Nat.le_of_ble_eq_true rfl) (Nat.le_of_ble_eq_true rfl) (fun q8 => ?_)
  refine z_eqw (ws2 := [(h0, .inr (4, [.ref q1, .ref q2, .ref q3, .int 0, .ref q4, .ref q5, .int 0, .int 0, .ref q6, .int 0, .int 0, .int 0, .int 0, .long 0, .ref q7, .null, .null, .null, .null, .null, .null])), (q1, .inl (cy 0, 147, .inl (fun _ => 0))), (q2, .inl (cy 0, 147, .inl (fun _ => 0))), (q3, .inl (cy 0, 147, .inl (fun _ => 0))), (q4, .inl (cy 0, 7, .inl (fun _ => 0))), (q5, .inl (cy 0, 20, .inl (fun _ => 0))), (q6, .inl (cy 0, 120, .inl (fun _ => 0))), (q7, .inl (cy 2, 54, .inl (wr mL7 54)))] ++ [(q8, .inl (cy 2, 18, .inl (wr mL8 0)))]) (by rw [wr_0]) ?_
  refine z_ch5 (t := mL8) (i := 0) rfl dX5_init_386 dX5_init_387 dX5_init_388 dX5_init_390 (by decide) (by decide) (by decide) (by decide) ?_
  refine z_ch5 (t := mL8) (i := 1) rfl dX5_init_391 dX5_init_392 dX5_init_393 dX5_init_395 (by decide) (by decide) (by decide) (by decide) ?_
  refine z_ch5 (t := mL8) (i := 2) rfl dX5_init_396 dX5_init_397 dX5_init_398 dX5_init_400 (by decide) (by decide) (by decide) (by decide) ?_
  refine z_ch5 (t := mL8) (i := 3) rfl dX5_init_401 dX5_init_402 dX5_init_403 dX5_init_405 (by decide) (by decide) (by decide) (by decide) ?_
  refine z_ch5 (t := mL8) (i := 4) rfl dX5_init_406 dX5_init_407 dX5_init_408 dX5_init_410 (by decide) (by decide) (by decide) (by decide) ?_
  refine z_ch5 (t := mL8) (i := 5) rfl dX5_init_411 dX5_init_412 dX5_init_413 dX5_init_415 (by decide) (by decide) (by decide) (by decide) ?_
  refine z_ch6 (t := mL8) (i := 6) rfl dX5_init_416 dX5_init_417 dX5_init_419 dX5_init_421 (by decide) (by decide) (by decide) (by decide) (by decide) ?_
  refine z_ch6 (t := mL8) (i := 7) rfl dX5_init_422 dX5_init_423 dX5_init_425 dX5_init_427 (by decide) (by decide) (by decide) (by decide) (by decide) ?_
  refine z_ch6 (t := mL8) (i := 8) rfl dX5_init_428 dX5_init_429 dX5_init_431 dX5_init_433 (by decide) (by decide) (by decide) (by decide) (by decide) ?_
  refine z_ch6 (t := mL8) (i := 9) rfl dX5_init_434 dX5_init_435 dX5_init_437 dX5_init_439 (by decide) (by decide) (by decide) (by decide) (by decide) ?_
  refine z_ch6 (t := mL8) (i := 10) rfl dX5_init_440 dX5_init_441 dX5_init_443 dX5_init_445 (by decide) (by decide) (by decide) (by decide) (by decide) ?_
  refine z_ch6 (t := mL8) (i := 11) rfl dX5_init_446 dX5_init_447 dX5_init_449 dX5_init_451 (by decide) (by decide) (by decide) (by decide) (by decide) ?_
  refine z_ch6 (t := mL8) (i := 12) rfl dX5_init_452 dX5_init_453 dX5_init_455 dX5_init_457 (by decide) (by decide) (by decide) (by decide) (by decide) ?_
  refine z_ch6 (t := mL8) (i := 13) rfl dX5_init_458 dX5_init_459 dX5_init_461 dX5_init_463 (by decide) (by decide) (by decide) (by decide) (by decide) ?_
  refine z_ch6 (t := mL8) (i := 14) rfl dX5_init_464 dX5_init_465 dX5_init_467 dX5_init_469 (by decide) (by decide) (by decide) (by decide) (by decide) ?_
  refine z_ch6 (t := mL8) (i := 15) rfl dX5_init_470 dX5_init_471 dX5_init_473 dX5_init_475 (by decide) (by decide) (by decide) (by decide) (by decide) ?_
  refine z_ch6 (t := mL8) (i := 16) rfl dX5_init_476 dX5_init_477 dX5_init_479 dX5_init_481 (by decide) (by decide) (by decide) (by decide) (by decide) ?_
  refine z_ch6 (t := mL8) (i := 17) rfl dX5_init_482 dX5_init_483 dX5_init_485 dX5_init_487 (by decide) (by decide) (by decide) (by decide) (by decide) ?_
  refine z_putF (q0 := 0) (i := 15) (ws2 := [(h0, .inr (4, [.ref q1, .ref q2, .ref q3, .int 0, .ref q4, .ref q5, .int 0, .int 0, .ref q6, .int 0, .int 0, .int 0, .int 0, .long 0, .ref q7, .ref q8, .null, .null, .null, .null, .null])), (q1, .inl (cy 0, 147, .inl (fun _ => 0))), (q2, .inl (cy 0, 147, .inl (fun _ => 0))), (q3, .inl (cy 0, 147, .inl (fun _ => 0))), (q4, .inl (cy 0, 7, .inl (fun _ => 0))), (q5, .inl (cy 0, 20, .inl (fun _ => 0))), (q6, .inl (cy 0, 120, .inl (fun _ => 0))), (q7, .inl (cy 2, 54, .inl (wr mL7 54))), (q8, .inl (cy 2, 18, .inl (wr mL8 18)))]) dX5_init_488 rfl rfl (by decide) fl_X5_32 inX5 tyX5_ok nmX5 rfl rfl rfl rfl rfl (Nat.le_of_ble_eq_true rfl) rfl ?_
  refine z_aload (i := 0) dX5_init_491 rfl rfl ?_
  refine z_bipush (v := nI 54) dX5_init_492 (by decide) ?_
  refine z_newc (N := 54) (kc2 := 9) (ks2 := 714) (cA := cy 2) dX5_init_494 rfl (by decide) (Nat.le_of_ble_eq_true rfl) rfl rfl (Nat.le_of_ble_eq_true rfl) (Nat.le_of_ble_eq_true rfl) (fun q9 => ?_)
  refine z_eqw (ws2 := [(h0, .inr (4, [.ref q1, .ref q2, .ref q3, .int 0, .ref q4, .ref q5, .int 0, .int 0, .ref q6, .int 0, .int 0, .int 0, .int 0, .long 0, .ref q7, .ref q8, .null, .null, .null, .null, .null])), (q1, .inl (cy 0, 147, .inl (fun _ => 0))), (q2, .inl (cy 0, 147, .inl (fun _ => 0))), (q3, .inl (cy 0, 147, .inl (fun _ => 0))), (q4, .inl (cy 0, 7, .inl (fun _ => 0))), (q5, .inl (cy 0, 20, .inl (fun _ => 0))), (q6, .inl (cy 0, 120, .inl (fun _ => 0))), (q7, .inl (cy 2, 54, .inl (wr mL7 54))), (q8, .inl (cy 2, 18, .inl (wr mL8 18)))] ++ [(q9, .inl (cy 2, 54, .inl (wr mL9 0)))]) (by rw [wr_0]) ?_
  refine z_ch5 (t := mL9) (i := 0) rfl dX5_init_496 dX5_init_497 dX5_init_498 dX5_init_500 (by decide) (by decide) (by decide) (by decide) ?_
  refine z_ch5 (t := mL9) (i := 1) rfl dX5_init_501 dX5_init_502 dX5_init_503 dX5_init_505 (by decide) (by decide) (by decide) (by decide) ?_
  refine z_ch5 (t := mL9) (i := 2) rfl dX5_init_506 dX5_init_507 dX5_init_508 dX5_init_510 (by decide) (by decide) (by decide) (by decide) ?_
  refine z_ch5 (t := mL9) (i := 3) rfl dX5_init_511 dX5_init_512 dX5_init_513 dX5_init_515 (by decide) (by decide) (by decide) (by decide) ?_
  refine z_ch5 (t := mL9) (i := 4) rfl dX5_init_516 dX5_init_517 dX5_init_518 dX5_init_520 (by decide) (by decide) (by decide) (by decide) ?_
  refine z_ch5 (t := mL9) (i := 5) rfl dX5_init_521 dX5_init_522 dX5_init_523 dX5_init_525 (by decide) (by decide) (by decide) (by decide) ?_
  refine z_ch6 (t := mL9) (i := 6) rfl dX5_init_526 dX5_init_527 dX5_init_529 dX5_init_531 (by decide) (by decide) (by decide) (by decide) (by decide) ?_
  refine z_ch6 (t := mL9) (i := 7) rfl dX5_init_532 dX5_init_533 dX5_init_535 dX5_init_537 (by decide) (by decide) (by decide) (by decide) (by decide) ?_
  refine z_ch6 (t := mL9) (i := 8) rfl dX5_init_538 dX5_init_539 dX5_init_541 dX5_init_543 (by decide) (by decide) (by decide) (by decide) (by decide) ?_
  refine z_ch6 (t := mL9) (i := 9) rfl dX5_init_544 dX5_init_545 dX5_init_547 dX5_init_549 (by decide) (by decide) (by decide) (by decide) (by decide) ?_
  refine z_ch6 (t := mL9) (i := 10) rfl dX5_init_550 dX5_init_551 dX5_init_553 dX5_init_555 (by decide) (by decide) (by decide) (by decide) (by decide) ?_
  refine z_ch6 (t := mL9) (i := 11) rfl dX5_init_556 dX5_init_557 dX5_init_559 dX5_init_561 (by decide) (by decide) (by decide) (by decide) (by decide) ?_
  refine z_ch6 (t := mL9) (i := 12) rfl dX5_init_562 dX5_init_563 dX5_init_565 dX5_init_567 (by decide) (by decide) (by decide) (by decide) (by decide) ?_
  refine z_ch6 (t := mL9) (i := 13) rfl dX5_init_568 dX5_init_569 dX5_init_571 dX5_init_573 (by decide) (by decide) (by decide) (by decide) (by decide) ?_
  refine z_ch6 (t := mL9) (i := 14) rfl dX5_init_574 dX5_init_575 dX5_init_577 dX5_init_579 (by decide) (by decide) (by decide) (by decide) (by decide) ?_
  refine z_ch6 (t := mL9) (i := 15) rfl dX5_init_580 dX5_init_581 dX5_init_583 dX5_init_585 (by decide) (by decide) (by decide) (by decide) (by decide) ?_
  refine z_ch6 (t := mL9) (i := 16) rfl dX5_init_586 dX5_init_587 dX5_init_589 dX5_init_591 (by decide) (by decide) (by decide) (by decide) (by decide) ?_
  refine z_ch6 (t := mL9) (i := 17) rfl dX5_init_592 dX5_init_593 dX5_init_595 dX5_init_597 (by decide) (by decide) (by decide) (by decide) (by decide) ?_
  refine z_ch6 (t := mL9) (i := 18) rfl dX5_init_598 dX5_init_599 dX5_init_601 dX5_init_603 (by decide) (by decide) (by decide) (by decide) (by decide) ?_
  refine z_ch6 (t := mL9) (i := 19) rfl dX5_init_604 dX5_init_605 dX5_init_607 dX5_init_609 (by decide) (by decide) (by decide) (by decide) (by decide) ?_
  refine z_ch6 (t := mL9) (i := 20) rfl dX5_init_610 dX5_init_611 dX5_init_613 dX5_init_615 (by decide) (by decide) (by decide) (by decide) (by decide) ?_
  refine z_ch6 (t := mL9) (i := 21) rfl dX5_init_616 dX5_init_617 dX5_init_619 dX5_init_621 (by decide) (by decide) (by decide) (by decide) (by decide) ?_
  refine z_ch6 (t := mL9) (i := 22) rfl dX5_init_622 dX5_init_623 dX5_init_625 dX5_init_627 (by decide) (by decide) (by decide) (by decide) (by decide) ?_
  refine z_ch6 (t := mL9) (i := 23) rfl dX5_init_628 dX5_init_629 dX5_init_631 dX5_init_633 (by decide) (by decide) (by decide) (by decide) (by decide) ?_
  refine z_ch6 (t := mL9) (i := 24) rfl dX5_init_634 dX5_init_635 dX5_init_637 dX5_init_639 (by decide) (by decide) (by decide) (by decide) (by decide) ?_
  refine z_ch6 (t := mL9) (i := 25) rfl dX5_init_640 dX5_init_641 dX5_init_643 dX5_init_645 (by decide) (by decide) (by decide) (by decide) (by decide) ?_
  refine z_ch6 (t := mL9) (i := 26) rfl dX5_init_646 dX5_init_647 dX5_init_649 dX5_init_651 (by decide) (by decide) (by decide) (by decide) (by decide) ?_
  refine z_ch6 (t := mL9) (i := 27) rfl dX5_init_652 dX5_init_653 dX5_init_655 dX5_init_657 (by decide) (by decide) (by decide) (by decide) (by decide) ?_
  refine z_ch6 (t := mL9) (i := 28) rfl dX5_init_658 dX5_init_659 dX5_init_661 dX5_init_663 (by decide) (by decide) (by decide) (by decide) (by decide) ?_
  refine z_ch6 (t := mL9) (i := 29) rfl dX5_init_664 dX5_init_665 dX5_init_667 dX5_init_669 (by decide) (by decide) (by decide) (by decide) (by decide) ?_
  refine z_ch6 (t := mL9) (i := 30) rfl dX5_init_670 dX5_init_671 dX5_init_673 dX5_init_675 (by decide) (by decide) (by decide) (by decide) (by decide) ?_
  refine z_ch6 (t := mL9) (i := 31) rfl dX5_init_676 dX5_init_677 dX5_init_679 dX5_init_681 (by decide) (by decide) (by decide) (by decide) (by decide) ?_
  refine z_ch6 (t := mL9) (i := 32) rfl dX5_init_682 dX5_init_683 dX5_init_685 dX5_init_687 (by decide) (by decide) (by decide) (by decide) (by decide) ?_
  refine z_ch6 (t := mL9) (i := 33) rfl dX5_init_688 dX5_init_689 dX5_init_691 dX5_init_693 (by decide) (by decide) (by decide) (by decide) (by decide) ?_
  refine z_ch6 (t := mL9) (i := 34) rfl dX5_init_694 dX5_init_695 dX5_init_697 dX5_init_699 (by decide) (by decide) (by decide) (by decide) (by decide) ?_
  refine z_ch6 (t := mL9) (i := 35) rfl dX5_init_700 dX5_init_701 dX5_init_703 dX5_init_705 (by decide) (by decide) (by decide) (by decide) (by decide) ?_
  refine z_ch6 (t := mL9) (i := 36) rfl dX5_init_706 dX5_init_707 dX5_init_709 dX5_init_711 (by decide) (by decide) (by decide) (by decide) (by decide) ?_
  refine z_ch6 (t := mL9) (i := 37) rfl dX5_init_712 dX5_init_713 dX5_init_715 dX5_init_717 (by decide) (by decide) (by decide) (by decide) (by decide) ?_
  refine z_ch6 (t := mL9) (i := 38) rfl dX5_init_718 dX5_init_719 dX5_init_721 dX5_init_723 (by decide) (by decide) (by decide) (by decide) (by decide) ?_
  refine z_ch6 (t := mL9) (i := 39) rfl dX5_init_724 dX5_init_725 dX5_init_727 dX5_init_729 (by decide) (by decide) (by decide) (by decide) (by decide) ?_
  refine z_ch6 (t := mL9) (i := 40) rfl dX5_init_730 dX5_init_731 dX5_init_733 dX5_init_735 (by decide) (by decide) (by decide) (by decide) (by decide) ?_
  refine z_ch6 (t := mL9) (i := 41) rfl dX5_init_736 dX5_init_737 dX5_init_739 dX5_init_741 (by decide) (by decide) (by decide) (by decide) (by decide) ?_
  refine z_ch6 (t := mL9) (i := 42) rfl dX5_init_742 dX5_init_743 dX5_init_745 dX5_init_747 (by decide) (by decide) (by decide) (by decide) (by decide) ?_
  refine z_ch6 (t := mL9) (i := 43) rfl dX5_init_748 dX5_init_749 dX5_init_751 dX5_init_753 (by decide) (by decide) (by decide) (by decide) (by decide) ?_
  refine z_ch6 (t := mL9) (i := 44) rfl dX5_init_754 dX5_init_755 dX5_init_757 dX5_init_759 (by decide) (by decide) (by decide) (by decide) (by decide) ?_
  refine z_ch6 (t := mL9) (i := 45) rfl dX5_init_760 dX5_init_761 dX5_init_763 dX5_init_765 (by decide) (by decide) (by decide) (by decide) (by decide) ?_
  refine z_ch6 (t := mL9) (i := 46) rfl dX5_init_766 dX5_init_767 dX5_init_769 dX5_init_771 (by decide) (by decide) (by decide) (by decide) (by decide) ?_
  refine z_ch6 (t := mL9) (i := 47) rfl dX5_init_772 dX5_init_773 dX5_init_775 dX5_init_777 (by decide) (by decide) (by decide) (by decide) (by decide) ?_
  refine z_ch6 (t := mL9) (i := 48) rfl dX5_init_778 dX5_init_779 dX5_init_781 dX5_init_783 (by decide) (by decide) (by decide) (by decide) (by decide) ?_
  refine z_ch6 (t := mL9) (i := 49) rfl dX5_init_784 dX5_init_785 dX5_init_787 dX5_init_789 (by decide) (by decide) (by decide) (by decide) (by decide) ?_
  refine z_ch6 (t := mL9) (i := 50) rfl dX5_init_790 dX5_init_791 dX5_init_793 dX5_init_795 (by decide) (by decide) (by decide) (by decide) (by decide) ?_
  refine z_ch6 (t := mL9) (i := 51) rfl dX5_init_796 dX5_init_797 dX5_init_799 dX5_init_801 (by decide) (by decide) (by decide) (by decide) (by decide) ?_
  refine z_ch6 (t := mL9) (i := 52) rfl dX5_init_802 dX5_init_803 dX5_init_805 dX5_init_807 (by decide) (by decide) (by decide) (by decide) (by decide) ?_
  refine z_ch6 (t := mL9) (i := 53) rfl dX5_init_808 dX5_init_809 dX5_init_811 dX5_init_813 (by decide) (by decide) (by decide) (by decide) (by decide) ?_
  refine z_putF (q0 := 0) (i := 16) (ws2 := [(h0, .inr (4, [.ref q1, .ref q2, .ref q3, .int 0, .ref q4, .ref q5, .int 0, .int 0, .ref q6, .int 0, .int 0, .int 0, .int 0, .long 0, .ref q7, .ref q8, .ref q9, .null, .null, .null, .null])), (q1, .inl (cy 0, 147, .inl (fun _ => 0))), (q2, .inl (cy 0, 147, .inl (fun _ => 0))), (q3, .inl (cy 0, 147, .inl (fun _ => 0))), (q4, .inl (cy 0, 7, .inl (fun _ => 0))), (q5, .inl (cy 0, 20, .inl (fun _ => 0))), (q6, .inl (cy 0, 120, .inl (fun _ => 0))), (q7, .inl (cy 2, 54, .inl (wr mL7 54))), (q8, .inl (cy 2, 18, .inl (wr mL8 18))), (q9, .inl (cy 2, 54, .inl (wr mL9 54)))]) dX5_init_814 rfl rfl (by decide) fl_X5_35 inX5 tyX5_ok nmX5 rfl rfl rfl rfl rfl (Nat.le_of_ble_eq_true rfl) rfl ?_
  refine z_aload (i := 0) dX5_init_817 rfl rfl ?_
  refine z_iconst (v := nI 4) dX5_init_818 (by decide) ?_
  refine z_newi (N := 4) (kc2 := 10) (ks2 := 718) (cA := cy 0) dX5_init_819 rfl (by decide) (Nat.le_of_ble_eq_true rfl) rfl rfl (Nat.le_of_ble_eq_true rfl) (Nat.le_of_ble_eq_true rfl) (fun q10 => ?_)
  refine z_putF (q0 := 0) (i := 17) (ws2 := [(h0, .inr (4, [.ref q1, .ref q2, .ref q3, .int 0, .ref q4, .ref q5, .int 0, .int 0, .ref q6, .int 0, .int 0, .int 0, .int 0, .long 0, .ref q7, .ref q8, .ref q9, .ref q10, .null, .null, .null])), (q1, .inl (cy 0, 147, .inl (fun _ => 0))), (q2, .inl (cy 0, 147, .inl (fun _ => 0))), (q3, .inl (cy 0, 147, .inl (fun _ => 0))), (q4, .inl (cy 0, 7, .inl (fun _ => 0))), (q5, .inl (cy 0, 20, .inl (fun _ => 0))), (q6, .inl (cy 0, 120, .inl (fun _ => 0))), (q7, .inl (cy 2, 54, .inl (wr mL7 54))), (q8, .inl (cy 2, 18, .inl (wr mL8 18))), (q9, .inl (cy 2, 54, .inl (wr mL9 54))), (q10, .inl (cy 0, 4, .inl (fun _ => 0)))]) dX5_init_821 rfl rfl (by decide) fl_X5_38 inX5 tyX5_ok nmX5 rfl rfl rfl rfl rfl (Nat.le_of_ble_eq_true rfl) rfl ?_
  refine z_aload (i := 0) dX5_init_824 rfl rfl ?_
  refine z_iconst (v := nI 4) dX5_init_825 (by decide) ?_
  refine z_newi (N := 4) (kc2 := 11) (ks2 := 722) (cA := cy 0) dX5_init_826 rfl (by decide) (Nat.le_of_ble_eq_true rfl) rfl rfl (Nat.le_of_ble_eq_true rfl) (Nat.le_of_ble_eq_true rfl) (fun q11 => ?_)
  refine z_putF (q0 := 0) (i := 18) (ws2 := [(h0, .inr (4, [.ref q1, .ref q2, .ref q3, .int 0, .ref q4, .ref q5, .int 0, .int 0, .ref q6, .int 0, .int 0, .int 0, .int 0, .long 0, .ref q7, .ref q8, .ref q9, .ref q10, .ref q11, .null, .null])), (q1, .inl (cy 0, 147, .inl (fun _ => 0))), (q2, .inl (cy 0, 147, .inl (fun _ => 0))), (q3, .inl (cy 0, 147, .inl (fun _ => 0))), (q4, .inl (cy 0, 7, .inl (fun _ => 0))), (q5, .inl (cy 0, 20, .inl (fun _ => 0))), (q6, .inl (cy 0, 120, .inl (fun _ => 0))), (q7, .inl (cy 2, 54, .inl (wr mL7 54))), (q8, .inl (cy 2, 18, .inl (wr mL8 18))), (q9, .inl (cy 2, 54, .inl (wr mL9 54))), (q10, .inl (cy 0, 4, .inl (fun _ => 0))), (q11, .inl (cy 0, 4, .inl (fun _ => 0)))]) dX5_init_828 rfl rfl (by decide) fl_X5_41 inX5 tyX5_ok nmX5 rfl rfl rfl rfl rfl (Nat.le_of_ble_eq_true rfl) rfl ?_
  refine z_aload (i := 0) dX5_init_831 rfl rfl ?_
  refine z_sipush (v := nI 160) dX5_init_832 (by decide) ?_
  refine z_newl (N := 160) (kc2 := 12) (ks2 := 882) (cA := cy 1) dX5_init_835 rfl (by decide) (Nat.le_of_ble_eq_true rfl) rfl rfl (Nat.le_of_ble_eq_true rfl) (Nat.le_of_ble_eq_true rfl) (fun q12 => ?_)
  refine z_putF (q0 := 0) (i := 19) (ws2 := [(h0, .inr (4, [.ref q1, .ref q2, .ref q3, .int 0, .ref q4, .ref q5, .int 0, .int 0, .ref q6, .int 0, .int 0, .int 0, .int 0, .long 0, .ref q7, .ref q8, .ref q9, .ref q10, .ref q11, .ref q12, .null])), (q1, .inl (cy 0, 147, .inl (fun _ => 0))), (q2, .inl (cy 0, 147, .inl (fun _ => 0))), (q3, .inl (cy 0, 147, .inl (fun _ => 0))), (q4, .inl (cy 0, 7, .inl (fun _ => 0))), (q5, .inl (cy 0, 20, .inl (fun _ => 0))), (q6, .inl (cy 0, 120, .inl (fun _ => 0))), (q7, .inl (cy 2, 54, .inl (wr mL7 54))), (q8, .inl (cy 2, 18, .inl (wr mL8 18))), (q9, .inl (cy 2, 54, .inl (wr mL9 54))), (q10, .inl (cy 0, 4, .inl (fun _ => 0))), (q11, .inl (cy 0, 4, .inl (fun _ => 0))), (q12, .inl (cy 1, 160, .inr (.inl (fun _ => 0))))]) dX5_init_837 rfl rfl (by decide) fl_X5_44 inX5 tyX5_ok nmX5 rfl rfl rfl rfl rfl (Nat.le_of_ble_eq_true rfl) rfl ?_
  refine z_aload (i := 0) dX5_init_840 rfl rfl ?_
  refine z_bipush (v := nI 40) dX5_init_841 (by decide) ?_
  refine z_newl (N := 40) (kc2 := 13) (ks2 := 922) (cA := cy 1) dX5_init_843 rfl (by decide) (Nat.le_of_ble_eq_true rfl) rfl rfl (Nat.le_of_ble_eq_true rfl) (Nat.le_of_ble_eq_true rfl) (fun q13 => ?_)
  refine z_putF (q0 := 0) (i := 20) (ws2 := [(h0, .inr (4, [.ref q1, .ref q2, .ref q3, .int 0, .ref q4, .ref q5, .int 0, .int 0, .ref q6, .int 0, .int 0, .int 0, .int 0, .long 0, .ref q7, .ref q8, .ref q9, .ref q10, .ref q11, .ref q12, .ref q13])), (q1, .inl (cy 0, 147, .inl (fun _ => 0))), (q2, .inl (cy 0, 147, .inl (fun _ => 0))), (q3, .inl (cy 0, 147, .inl (fun _ => 0))), (q4, .inl (cy 0, 7, .inl (fun _ => 0))), (q5, .inl (cy 0, 20, .inl (fun _ => 0))), (q6, .inl (cy 0, 120, .inl (fun _ => 0))), (q7, .inl (cy 2, 54, .inl (wr mL7 54))), (q8, .inl (cy 2, 18, .inl (wr mL8 18))), (q9, .inl (cy 2, 54, .inl (wr mL9 54))), (q10, .inl (cy 0, 4, .inl (fun _ => 0))), (q11, .inl (cy 0, 4, .inl (fun _ => 0))), (q12, .inl (cy 1, 160, .inr (.inl (fun _ => 0)))), (q13, .inl (cy 1, 40, .inr (.inl (fun _ => 0))))]) dX5_init_845 rfl rfl (by decide) fl_X5_48 inX5 tyX5_ok nmX5 rfl rfl rfl rfl rfl (Nat.le_of_ble_eq_true rfl) rfl ?_
  refine z_aload (i := 0) dX5_init_848 rfl rfl ?_
  refine z_get (q0 := 0) (i := 0) dX5_init_849 rfl rfl (by decide) fl_X5_9 inX5 rfl ?_
  refine z_iconst (v := nI 1) dX5_init_852 (by decide) ?_
  refine z_iconst (v := 3) dX5_init_853 (by decide) ?_
  refine z_iast (q0 := 1) (i := 1) (ws2 := [(h0, .inr (4, [.ref q1, .ref q2, .ref q3, .int 0, .ref q4, .ref q5, .int 0, .int 0, .ref q6, .int 0, .int 0, .int 0, .int 0, .long 0, .ref q7, .ref q8, .ref q9, .ref q10, .ref q11, .ref q12, .ref q13])), (q1, .inl (cy 0, 147, .inl (upd (fun _ => 0) 1 3))), (q2, .inl (cy 0, 147, .inl (fun _ => 0))), (q3, .inl (cy 0, 147, .inl (fun _ => 0))), (q4, .inl (cy 0, 7, .inl (fun _ => 0))), (q5, .inl (cy 0, 20, .inl (fun _ => 0))), (q6, .inl (cy 0, 120, .inl (fun _ => 0))), (q7, .inl (cy 2, 54, .inl (wr mL7 54))), (q8, .inl (cy 2, 18, .inl (wr mL8 18))), (q9, .inl (cy 2, 54, .inl (wr mL9 54))), (q10, .inl (cy 0, 4, .inl (fun _ => 0))), (q11, .inl (cy 0, 4, .inl (fun _ => 0))), (q12, .inl (cy 1, 160, .inr (.inl (fun _ => 0)))), (q13, .inl (cy 1, 40, .inr (.inl (fun _ => 0))))]) dX5_init_854 rfl rfl (by decide) (by decide) rfl ?_
  exact z_ret dX5_init_855 ⟨q1, q2, q3, q4, q5, q6, q7, q8, q9, q10, q11, q12, q13, rfl⟩ rfl rfl
