/-! The law's cases. -/
section LAW1
variable {p : Program} {l : Launch} {e : Env} {s : State} {m : MethodId} {args : Array Value} {below : List Frame} {meth : Method} {c : Code} {D : va_G} {A : Nat → Prop} {Q : State → Prop} {g : Nat → Option va_E} {b L i q0 q1 : Nat} {xs : Nat → Int32} {dA : Nat → ClassId}
set_option maxHeartbeats 4000000 in
set_option maxRecDepth 100000 in
theorem law_belt (X : Cx p s m args c D classes A 4 b_L_law R_L gtb (tyL dA)) (hX : Scr s A b L xs) (hi : i + 6 ≤ L) (hI : Inv dA g q0 q1) (k : ∀ g', Inv dA g' q0 q1 → Go p l e room_1 s m args below meth c D classes A 4 Q g' (26 + (i + 6)) (4000 + 7 * (i + 6)) 742 (lvL i b q0 q1) []) : Go p l e room_1 s m args below meth c D classes A 4 Q g (26 + i) (4000 + 7 * i) 92 (lvL i b q0 q1) [] := by
  have hL := hX.2.2.2
  obtain ⟨ad, am, nb, ni, T, B, I, n, tk, fr, th, La, Ja, ed, kn, rfl, rfl, hS, hM, hD, hSim⟩ := hI
  refine go_aload_n X d_L_law_92 rfl (z := 2) rfl ?_
  refine go_long X hX 1 (by omega) d_L_law_93 d_L_law_94 d_L_law_95 d_L_law_96 d_L_law_97 d_L_law_98 d_L_law_99 d_L_law_101 d_L_law_102 d_L_law_103 d_L_law_104 d_L_law_105 d_L_law_106 d_L_law_107 d_L_law_108 d_L_law_111 d_L_law_112 ?_
  refine go_long X hX 3 (by omega) d_L_law_113 d_L_law_114 d_L_law_115 d_L_law_116 d_L_law_117 d_L_law_118 d_L_law_119 d_L_law_121 d_L_law_122 d_L_law_123 d_L_law_124 d_L_law_125 d_L_law_126 d_L_law_127 d_L_law_128 d_L_law_131 d_L_law_132 ?_
  refine go_callI_V X (As := [.long (lawJ (xs (i + 1)) (xs (i + (1 + 1)))), .long (lawJ (xs (i + 3)) (xs (i + (3 + 1))))]) (rest := []) (c_S_belt hS (lawJ (xs (i + 1)) (xs (i + (1 + 1)))) (lawJ (xs (i + 3)) (xs (i + (3 + 1))))) gm_ml_L_15 cw_S_belt ⟨Nat.le_of_ble_eq_true rfl, Nat.le_of_ble_eq_true rfl⟩ rfl hS.this rfl rfl (Nat.le_of_ble_eq_true rfl) d_L_law_133 ⟨by have := rm1_cells; show 26 + i + 4 ≤ room_1.cells; omega, by have := rm1_slots; show 4000 + 7 * i + 37 ≤ room_1.slots; omega⟩ (fun r1 g1 p1 => ?_)
  have hF : SFr ad nb ni g g1 := by
    rcases p1 with ⟨-, -, rfl⟩ | ⟨-, -, -, -, ⟨-, -, rfl⟩ | ⟨-, -, _, _, -, -, -, -, -, -, -, -, -, -, -, -, h⟩⟩ <;> first | exact SFr.rfl' | exact h
  have hM1 := hM.keepS hD hF
  refine go_aload_n X d_L_law_136 rfl (z := 1) rfl ?_
  refine go_long X hX 1 (by omega) d_L_law_137 d_L_law_138 d_L_law_139 d_L_law_140 d_L_law_141 d_L_law_142 d_L_law_143 d_L_law_145 d_L_law_146 d_L_law_147 d_L_law_148 d_L_law_149 d_L_law_150 d_L_law_151 d_L_law_152 d_L_law_155 d_L_law_156 ?_
  refine go_long X hX 3 (by omega) d_L_law_157 d_L_law_158 d_L_law_159 d_L_law_160 d_L_law_161 d_L_law_162 d_L_law_163 d_L_law_165 d_L_law_166 d_L_law_167 d_L_law_168 d_L_law_169 d_L_law_170 d_L_law_171 d_L_law_172 d_L_law_175 d_L_law_176 ?_
  refine go_callI_V X (As := [.long (lawJ (xs (i + 1)) (xs (i + (1 + 1)))), .long (lawJ (xs (i + 3)) (xs (i + (3 + 1))))]) (rest := [.int r1]) (c_M_belt hM1 hSim.wf (lawJ (xs (i + 1)) (xs (i + (1 + 1)))) (lawJ (xs (i + 3)) (xs (i + (3 + 1))))) gm_ml_L_19 cw_M_belt ⟨Nat.le_of_ble_eq_true rfl, Nat.le_of_ble_eq_true rfl⟩ rfl hM1.this rfl rfl (Nat.le_of_ble_eq_true rfl) d_L_law_177 ⟨by have := rm1_cells; show 26 + i + 4 + 0 ≤ room_1.cells; omega, by have := rm1_slots; show 4000 + 7 * i + 37 + 0 ≤ room_1.slots; omega⟩ (fun r2 g2 p2 => ?_)
  have hE := belt_sim hS hM hD hSim p1 p2
  refine go_icmp_eq X d_L_law_180 (tgt := 742) (by decide) (fun _ => ?_) (fun z => absurd hE.1 z)
  exact go_widen (k := 26 + (i + 6)) (n := 4000 + 7 * (i + 6)) (by show 26 + i + 4 + 0 ≤ _; omega) (by show 4000 + 7 * i + 37 + 0 ≤ _; omega) (k g2 hE.2)
set_option maxHeartbeats 4000000 in
set_option maxRecDepth 100000 in
theorem law_join (X : Cx p s m args c D classes A 4 b_L_law R_L gtb (tyL dA)) (hX : Scr s A b L xs) (hi : i + 6 ≤ L) (hI : Inv dA g q0 q1) (k : ∀ g', Inv dA g' q0 q1 → Go p l e room_1 s m args below meth c D classes A 4 Q g' (26 + (i + 6)) (4000 + 7 * (i + 6)) 742 (lvL i b q0 q1) []) : Go p l e room_1 s m args below meth c D classes A 4 Q g (26 + i) (4000 + 7 * i) 185 (lvL i b q0 q1) [] := by
  have hL := hX.2.2.2
  obtain ⟨ad, am, nb, ni, T, B, I, n, tk, fr, th, La, Ja, ed, kn, rfl, rfl, hS, hM, hD, hSim⟩ := hI
  refine go_aload_n X d_L_law_185 rfl (z := 2) rfl ?_
  refine go_cell X hX 1 (by omega) d_L_law_186 d_L_law_187 d_L_law_188 d_L_law_189 d_L_law_190 ?_
  refine go_cell X hX 2 (by omega) d_L_law_191 d_L_law_192 d_L_law_193 d_L_law_194 d_L_law_195 ?_
  refine go_callI_V X (As := [.int (xs (i + 1)), .int (xs (i + 2))]) (rest := []) (c_S_join hS (xs (i + 1)) (xs (i + 2))) gm_ml_L_20 cw_S_join ⟨Nat.le_of_ble_eq_true rfl, Nat.le_of_ble_eq_true rfl⟩ rfl hS.this rfl rfl (Nat.le_of_ble_eq_true rfl) d_L_law_196 ⟨by have := rm1_cells; show 26 + i + 0 ≤ room_1.cells; omega, by have := rm1_slots; show 4000 + 7 * i + 0 ≤ room_1.slots; omega⟩ (fun r1 g1 p1 => ?_)
  have hF : SFr ad nb ni g g1 := by
    rcases p1 with ⟨-, -, rfl⟩ | ⟨_, -, -, _, -, -, ⟨-, -, rfl⟩ | ⟨-, -, -, h⟩⟩ <;> first | exact SFr.rfl' | exact h
  have hM1 := hM.keepS hD hF
  refine go_aload_n X d_L_law_199 rfl (z := 1) rfl ?_
  refine go_cell X hX 1 (by omega) d_L_law_200 d_L_law_201 d_L_law_202 d_L_law_203 d_L_law_204 ?_
  refine go_cell X hX 2 (by omega) d_L_law_205 d_L_law_206 d_L_law_207 d_L_law_208 d_L_law_209 ?_
  refine go_callI_V X (As := [.int (xs (i + 1)), .int (xs (i + 2))]) (rest := [.int r1]) (c_M_join hM1 hSim.wf (xs (i + 1)) (xs (i + 2))) gm_ml_L_24 cw_M_join ⟨Nat.le_of_ble_eq_true rfl, Nat.le_of_ble_eq_true rfl⟩ rfl hM1.this rfl rfl (Nat.le_of_ble_eq_true rfl) d_L_law_210 ⟨by have := rm1_cells; show 26 + i + 0 + 0 ≤ room_1.cells; omega, by have := rm1_slots; show 4000 + 7 * i + 0 + 0 ≤ room_1.slots; omega⟩ (fun r2 g2 p2 => ?_)
  have hE := join_sim hS hD hSim p1 p2
  refine go_icmp_eq X d_L_law_213 (tgt := 742) (by decide) (fun _ => ?_) (fun z => absurd hE.1 z)
  exact go_widen (k := 26 + (i + 6)) (n := 4000 + 7 * (i + 6)) (by show 26 + i + 0 + 0 ≤ _; omega) (by show 4000 + 7 * i + 0 + 0 ≤ _; omega) (k g2 hE.2)
set_option maxHeartbeats 4000000 in
set_option maxRecDepth 100000 in
theorem law_feed (X : Cx p s m args c D classes A 4 b_L_law R_L gtb (tyL dA)) (hX : Scr s A b L xs) (hi : i + 6 ≤ L) (hI : Inv dA g q0 q1) (k : ∀ g', Inv dA g' q0 q1 → Go p l e room_1 s m args below meth c D classes A 4 Q g' (26 + (i + 6)) (4000 + 7 * (i + 6)) 742 (lvL i b q0 q1) []) : Go p l e room_1 s m args below meth c D classes A 4 Q g (26 + i) (4000 + 7 * i) 218 (lvL i b q0 q1) [] := by
  have hL := hX.2.2.2
  obtain ⟨ad, am, nb, ni, T, B, I, n, tk, fr, th, La, Ja, ed, kn, rfl, rfl, hS, hM, hD, hSim⟩ := hI
  refine go_aload_n X d_L_law_218 rfl (z := 2) rfl ?_
  refine go_cell X hX 1 (by omega) d_L_law_219 d_L_law_220 d_L_law_221 d_L_law_222 d_L_law_223 ?_
  refine go_long X hX 2 (by omega) d_L_law_224 d_L_law_225 d_L_law_226 d_L_law_227 d_L_law_228 d_L_law_229 d_L_law_230 d_L_law_232 d_L_law_233 d_L_law_234 d_L_law_235 d_L_law_236 d_L_law_237 d_L_law_238 d_L_law_239 d_L_law_242 d_L_law_243 ?_
  refine go_long X hX 4 (by omega) d_L_law_244 d_L_law_245 d_L_law_246 d_L_law_247 d_L_law_248 d_L_law_249 d_L_law_250 d_L_law_252 d_L_law_253 d_L_law_254 d_L_law_255 d_L_law_256 d_L_law_257 d_L_law_258 d_L_law_259 d_L_law_262 d_L_law_263 ?_
  refine go_callI_V X (As := [.int (xs (i + 1)), .long (lawJ (xs (i + 2)) (xs (i + (2 + 1)))), .long (lawJ (xs (i + 4)) (xs (i + (4 + 1))))]) (rest := []) (c_S_feed hS (xs (i + 1)) (lawJ (xs (i + 2)) (xs (i + (2 + 1)))) (lawJ (xs (i + 4)) (xs (i + (4 + 1))))) gm_ml_L_25 cw_S_feed ⟨Nat.le_of_ble_eq_true rfl, Nat.le_of_ble_eq_true rfl⟩ rfl hS.this rfl rfl (Nat.le_of_ble_eq_true rfl) d_L_law_264 ⟨by have := rm1_cells; show 26 + i + 1 ≤ room_1.cells; omega, by have := rm1_slots; show 4000 + 7 * i + 8 ≤ room_1.slots; omega⟩ (fun r1 g1 p1 => ?_)
  have hF : SFr ad nb ni g g1 := by
    rcases p1 with ⟨-, -, rfl⟩ | ⟨_, -, -, ⟨-, -, rfl⟩ | ⟨-, -, -, ⟨-, -, rfl⟩ | ⟨-, -, _, -, -, h⟩⟩⟩ <;> first | exact SFr.rfl' | exact h
  have hM1 := hM.keepS hD hF
  refine go_aload_n X d_L_law_267 rfl (z := 1) rfl ?_
  refine go_cell X hX 1 (by omega) d_L_law_268 d_L_law_269 d_L_law_270 d_L_law_271 d_L_law_272 ?_
  refine go_long X hX 2 (by omega) d_L_law_273 d_L_law_274 d_L_law_275 d_L_law_276 d_L_law_277 d_L_law_278 d_L_law_279 d_L_law_281 d_L_law_282 d_L_law_283 d_L_law_284 d_L_law_285 d_L_law_286 d_L_law_287 d_L_law_288 d_L_law_291 d_L_law_292 ?_
  refine go_long X hX 4 (by omega) d_L_law_293 d_L_law_294 d_L_law_295 d_L_law_296 d_L_law_297 d_L_law_298 d_L_law_299 d_L_law_301 d_L_law_302 d_L_law_303 d_L_law_304 d_L_law_305 d_L_law_306 d_L_law_307 d_L_law_308 d_L_law_311 d_L_law_312 ?_
  refine go_callI_V X (As := [.int (xs (i + 1)), .long (lawJ (xs (i + 2)) (xs (i + (2 + 1)))), .long (lawJ (xs (i + 4)) (xs (i + (4 + 1))))]) (rest := [.int r1]) (c_M_feed hM1 hSim.wf (xs (i + 1)) (lawJ (xs (i + 2)) (xs (i + (2 + 1)))) (lawJ (xs (i + 4)) (xs (i + (4 + 1))))) gm_ml_L_29 cw_M_feed ⟨Nat.le_of_ble_eq_true rfl, Nat.le_of_ble_eq_true rfl⟩ rfl hM1.this rfl rfl (Nat.le_of_ble_eq_true rfl) d_L_law_313 ⟨by have := rm1_cells; show 26 + i + 1 + 0 ≤ room_1.cells; omega, by have := rm1_slots; show 4000 + 7 * i + 8 + 0 ≤ room_1.slots; omega⟩ (fun r2 g2 p2 => ?_)
  have hE := feed_sim hS hM hD hSim p1 p2
  refine go_icmp_eq X d_L_law_316 (tgt := 742) (by decide) (fun _ => ?_) (fun z => absurd hE.1 z)
  exact go_widen (k := 26 + (i + 6)) (n := 4000 + 7 * (i + 6)) (by show 26 + i + 1 + 0 ≤ _; omega) (by show 4000 + 7 * i + 8 + 0 ≤ _; omega) (k g2 hE.2)
set_option maxHeartbeats 4000000 in
set_option maxRecDepth 100000 in
theorem law_step (X : Cx p s m args c D classes A 4 b_L_law R_L gtb (tyL dA)) (hX : Scr s A b L xs) (hi : i + 6 ≤ L) (hI : Inv dA g q0 q1) (k : ∀ g', Inv dA g' q0 q1 → Go p l e room_1 s m args below meth c D classes A 4 Q g' (26 + (i + 6)) (4000 + 7 * (i + 6)) 742 (lvL i b q0 q1) []) : Go p l e room_1 s m args below meth c D classes A 4 Q g (26 + i) (4000 + 7 * i) 321 (lvL i b q0 q1) [] := by
  have hL := hX.2.2.2
  obtain ⟨ad, am, nb, ni, T, B, I, n, tk, fr, th, La, Ja, ed, kn, rfl, rfl, hS, hM, hD, hSim⟩ := hI
  refine go_aload_n X d_L_law_321 rfl (z := 2) rfl ?_
  refine go_long X hX 1 (by omega) d_L_law_322 d_L_law_323 d_L_law_324 d_L_law_325 d_L_law_326 d_L_law_327 d_L_law_328 d_L_law_330 d_L_law_331 d_L_law_332 d_L_law_333 d_L_law_334 d_L_law_335 d_L_law_336 d_L_law_337 d_L_law_340 d_L_law_341 ?_
  refine go_callI_V X (As := [.long (lawJ (xs (i + 1)) (xs (i + (1 + 1))))]) (rest := []) (c_S_step hS hSim.nle (lawJ (xs (i + 1)) (xs (i + (1 + 1))))) gm_ml_L_30 cw_S_step ⟨Nat.le_of_ble_eq_true rfl, Nat.le_of_ble_eq_true rfl⟩ rfl hS.this rfl rfl (Nat.le_of_ble_eq_true rfl) d_L_law_342 ⟨by have := rm1_cells; show 26 + i + 0 ≤ room_1.cells; omega, by have := rm1_slots; show 4000 + 7 * i + 0 ≤ room_1.slots; omega⟩ (fun r1 g1 p1 => ?_)
  have hF : SFr ad nb ni g g1 := by
    rcases p1 with ⟨-, -, rfl⟩ | ⟨-, -, -, h⟩ <;> first | exact SFr.rfl' | exact h
  have hM1 := hM.keepS hD hF
  refine go_aload_n X d_L_law_345 rfl (z := 1) rfl ?_
  refine go_long X hX 1 (by omega) d_L_law_346 d_L_law_347 d_L_law_348 d_L_law_349 d_L_law_350 d_L_law_351 d_L_law_352 d_L_law_354 d_L_law_355 d_L_law_356 d_L_law_357 d_L_law_358 d_L_law_359 d_L_law_360 d_L_law_361 d_L_law_364 d_L_law_365 ?_
  refine go_callI_V X (As := [.long (lawJ (xs (i + 1)) (xs (i + (1 + 1))))]) (rest := [.int r1]) (c_M_step hM1 hSim.wf hSim.hed (lawJ (xs (i + 1)) (xs (i + (1 + 1))))) gm_ml_L_34 cw_M_step ⟨Nat.le_of_ble_eq_true rfl, Nat.le_of_ble_eq_true rfl⟩ rfl hM1.this rfl rfl (Nat.le_of_ble_eq_true rfl) d_L_law_366 ⟨by have := rm1_cells; show 26 + i + 0 + 0 ≤ room_1.cells; omega, by have := rm1_slots; show 4000 + 7 * i + 0 + 0 ≤ room_1.slots; omega⟩ (fun r2 g2 p2 => ?_)
  have hE := step_sim hS hD hSim p1 p2
  refine go_icmp_eq X d_L_law_369 (tgt := 742) (by decide) (fun _ => ?_) (fun z => absurd hE.1 z)
  exact go_widen (k := 26 + (i + 6)) (n := 4000 + 7 * (i + 6)) (by show 26 + i + 0 + 0 ≤ _; omega) (by show 4000 + 7 * i + 0 + 0 ≤ _; omega) (k g2 hE.2)
set_option maxHeartbeats 4000000 in
set_option maxRecDepth 100000 in
theorem law_edge (X : Cx p s m args c D classes A 4 b_L_law R_L gtb (tyL dA)) (hX : Scr s A b L xs) (hi : i + 6 ≤ L) (hI : Inv dA g q0 q1) (k : ∀ g', Inv dA g' q0 q1 → Go p l e room_1 s m args below meth c D classes A 4 Q g' (26 + (i + 6)) (4000 + 7 * (i + 6)) 742 (lvL i b q0 q1) []) : Go p l e room_1 s m args below meth c D classes A 4 Q g (26 + i) (4000 + 7 * i) 374 (lvL i b q0 q1) [] := by
  have hL := hX.2.2.2
  obtain ⟨ad, am, nb, ni, T, B, I, n, tk, fr, th, La, Ja, ed, kn, rfl, rfl, hS, hM, hD, hSim⟩ := hI
  refine go_aload_n X d_L_law_374 rfl (z := 2) rfl ?_
  refine go_cell X hX 1 (by omega) d_L_law_375 d_L_law_376 d_L_law_377 d_L_law_378 d_L_law_379 ?_
  refine go_cell X hX 2 (by omega) d_L_law_380 d_L_law_381 d_L_law_382 d_L_law_383 d_L_law_384 ?_
  refine go_callI_V X (As := [.int (xs (i + 1)), .int (xs (i + 2))]) (rest := []) (c_S_edge hS (xs (i + 1)) (xs (i + 2))) gm_ml_L_35 cw_S_edge ⟨Nat.le_of_ble_eq_true rfl, Nat.le_of_ble_eq_true rfl⟩ rfl hS.this rfl rfl (Nat.le_of_ble_eq_true rfl) d_L_law_385 ⟨by have := rm1_cells; show 26 + i + 0 ≤ room_1.cells; omega, by have := rm1_slots; show 4000 + 7 * i + 0 ≤ room_1.slots; omega⟩ (fun r1 g1 p1 => ?_)
  obtain ⟨rfl, p1⟩ := p1
  have hM1 := hM
  refine go_aload_n X d_L_law_388 rfl (z := 1) rfl ?_
  refine go_cell X hX 1 (by omega) d_L_law_389 d_L_law_390 d_L_law_391 d_L_law_392 d_L_law_393 ?_
  refine go_cell X hX 2 (by omega) d_L_law_394 d_L_law_395 d_L_law_396 d_L_law_397 d_L_law_398 ?_
  refine go_callI_V X (As := [.int (xs (i + 1)), .int (xs (i + 2))]) (rest := [.int r1]) (c_M_edge hM1 hSim.wf (xs (i + 1)) (xs (i + 2))) gm_ml_L_38 cw_M_edge ⟨Nat.le_of_ble_eq_true rfl, Nat.le_of_ble_eq_true rfl⟩ rfl hM1.this rfl rfl (Nat.le_of_ble_eq_true rfl) d_L_law_399 ⟨by have := rm1_cells; show 26 + i + 0 + 0 ≤ room_1.cells; omega, by have := rm1_slots; show 4000 + 7 * i + 0 + 0 ≤ room_1.slots; omega⟩ (fun r2 g2 p2 => ?_)
  obtain ⟨⟨m1, m2⟩, p2⟩ := p2
  have hE : r1 = r2 ∧ Inv dA g2 (ad 0) (am 0) := ⟨by rw [p1, p2]; exact edge_sim hSim _ _, inv_same hS hD hSim m1 m2⟩
  refine go_icmp_eq X d_L_law_402 (tgt := 742) (by decide) (fun _ => ?_) (fun z => absurd hE.1 z)
  exact go_widen (k := 26 + (i + 6)) (n := 4000 + 7 * (i + 6)) (by show 26 + i + 0 + 0 ≤ _; omega) (by show 4000 + 7 * i + 0 + 0 ≤ _; omega) (k g2 hE.2)
set_option maxHeartbeats 4000000 in
set_option maxRecDepth 100000 in
theorem law_stop (X : Cx p s m args c D classes A 4 b_L_law R_L gtb (tyL dA)) (hX : Scr s A b L xs) (hi : i + 6 ≤ L) (hI : Inv dA g q0 q1) (k : ∀ g', Inv dA g' q0 q1 → Go p l e room_1 s m args below meth c D classes A 4 Q g' (26 + (i + 6)) (4000 + 7 * (i + 6)) 742 (lvL i b q0 q1) []) : Go p l e room_1 s m args below meth c D classes A 4 Q g (26 + i) (4000 + 7 * i) 407 (lvL i b q0 q1) [] := by
  have hL := hX.2.2.2
  obtain ⟨ad, am, nb, ni, T, B, I, n, tk, fr, th, La, Ja, ed, kn, rfl, rfl, hS, hM, hD, hSim⟩ := hI
  refine go_aload_n X d_L_law_407 rfl (z := 2) rfl ?_
  refine go_cell X hX 1 (by omega) d_L_law_408 d_L_law_409 d_L_law_410 d_L_law_411 d_L_law_412 ?_
  refine go_cell X hX 2 (by omega) d_L_law_413 d_L_law_414 d_L_law_415 d_L_law_416 d_L_law_417 ?_
  refine go_bool X d_L_law_418 d_L_law_421 d_L_law_422 d_L_law_425 ?_
  refine go_long X hX 3 (by omega) d_L_law_426 d_L_law_427 d_L_law_428 d_L_law_429 d_L_law_430 d_L_law_431 d_L_law_432 d_L_law_434 d_L_law_435 d_L_law_436 d_L_law_437 d_L_law_438 d_L_law_439 d_L_law_440 d_L_law_441 d_L_law_444 d_L_law_445 ?_
  have hon : (if xs (i + 2) = 0 then (0 : Int32) else 1) = 0 ∨ (if xs (i + 2) = 0 then (0 : Int32) else 1) = 1 := by by_cases z : xs (i + 2) = 0; exact Or.inl (if_pos z); exact Or.inr (if_neg z)
  generalize hog : (if xs (i + 2) = 0 then (0 : Int32) else 1) = on at hon ⊢
  refine go_callI_V X (As := [.int (xs (i + 1)), .int on, .long (lawJ (xs (i + 3)) (xs (i + (3 + 1))))]) (rest := []) (c_S_stop hS hSim.nle (xs (i + 1)) on (by rcases hon with rfl | rfl <;> rfl) (by rcases hon with rfl | rfl <;> rfl) (lawJ (xs (i + 3)) (xs (i + (3 + 1))))) gm_ml_L_39 cw_S_stop ⟨Nat.le_of_ble_eq_true rfl, Nat.le_of_ble_eq_true rfl⟩ rfl hS.this rfl rfl (Nat.le_of_ble_eq_true rfl) d_L_law_446 ⟨by have := rm1_cells; show 26 + i + 0 ≤ room_1.cells; omega, by have := rm1_slots; show 4000 + 7 * i + 0 ≤ room_1.slots; omega⟩ (fun r1 g1 p1 => ?_)
  have hF : SFr ad nb ni g g1 := by
    rcases p1 with ⟨-, -, rfl⟩ | ⟨_, -, -, ⟨-, -, rfl⟩ | ⟨-, ⟨-, -, -, rfl⟩ | ⟨-, -, -, h⟩ | ⟨-, -, -, _, -, -, h⟩⟩⟩ <;> first | exact SFr.rfl' | exact h
  have hM1 := hM.keepS hD hF
  refine go_aload_n X d_L_law_449 rfl (z := 1) rfl ?_
  refine go_cell X hX 1 (by omega) d_L_law_450 d_L_law_451 d_L_law_452 d_L_law_453 d_L_law_454 ?_
  refine go_cell X hX 2 (by omega) d_L_law_455 d_L_law_456 d_L_law_457 d_L_law_458 d_L_law_459 ?_
  refine go_bool X d_L_law_460 d_L_law_463 d_L_law_464 d_L_law_467 ?_
  refine go_long X hX 3 (by omega) d_L_law_468 d_L_law_469 d_L_law_470 d_L_law_471 d_L_law_472 d_L_law_473 d_L_law_474 d_L_law_476 d_L_law_477 d_L_law_478 d_L_law_479 d_L_law_480 d_L_law_481 d_L_law_482 d_L_law_483 d_L_law_486 d_L_law_487 ?_
  rw [hog]
  refine go_callI_V X (As := [.int (xs (i + 1)), .int on, .long (lawJ (xs (i + 3)) (xs (i + (3 + 1))))]) (rest := [.int r1]) (c_M_stop hM1 hSim.wf hSim.hed (xs (i + 1)) on (by rcases hon with rfl | rfl <;> rfl) (lawJ (xs (i + 3)) (xs (i + (3 + 1))))) gm_ml_L_43 cw_M_stop ⟨Nat.le_of_ble_eq_true rfl, Nat.le_of_ble_eq_true rfl⟩ rfl hM1.this rfl rfl (Nat.le_of_ble_eq_true rfl) d_L_law_488 ⟨by have := rm1_cells; show 26 + i + 0 + 0 ≤ room_1.cells; omega, by have := rm1_slots; show 4000 + 7 * i + 0 + 0 ≤ room_1.slots; omega⟩ (fun r2 g2 p2 => ?_)
  have hE := stop_sim hS hD hSim hon p1 p2
  refine go_icmp_eq X d_L_law_491 (tgt := 742) (by decide) (fun _ => ?_) (fun z => absurd hE.1 z)
  exact go_widen (k := 26 + (i + 6)) (n := 4000 + 7 * (i + 6)) (by show 26 + i + 0 + 0 ≤ _; omega) (by show 4000 + 7 * i + 0 + 0 ≤ _; omega) (k g2 hE.2)
set_option maxHeartbeats 4000000 in
set_option maxRecDepth 100000 in
theorem law_slip (X : Cx p s m args c D classes A 4 b_L_law R_L gtb (tyL dA)) (hX : Scr s A b L xs) (hi : i + 6 ≤ L) (hI : Inv dA g q0 q1) (k : ∀ g', Inv dA g' q0 q1 → Go p l e room_1 s m args below meth c D classes A 4 Q g' (26 + (i + 6)) (4000 + 7 * (i + 6)) 742 (lvL i b q0 q1) []) : Go p l e room_1 s m args below meth c D classes A 4 Q g (26 + i) (4000 + 7 * i) 496 (lvL i b q0 q1) [] := by
  have hL := hX.2.2.2
  obtain ⟨ad, am, nb, ni, T, B, I, n, tk, fr, th, La, Ja, ed, kn, rfl, rfl, hS, hM, hD, hSim⟩ := hI
  refine go_aload_n X d_L_law_496 rfl (z := 2) rfl ?_
  refine go_cell X hX 1 (by omega) d_L_law_497 d_L_law_498 d_L_law_499 d_L_law_500 d_L_law_501 ?_
  refine go_long X hX 2 (by omega) d_L_law_502 d_L_law_503 d_L_law_504 d_L_law_505 d_L_law_506 d_L_law_507 d_L_law_508 d_L_law_510 d_L_law_511 d_L_law_512 d_L_law_513 d_L_law_514 d_L_law_515 d_L_law_516 d_L_law_517 d_L_law_520 d_L_law_521 ?_
  refine go_callI_V X (As := [.int (xs (i + 1)), .long (lawJ (xs (i + 2)) (xs (i + (2 + 1))))]) (rest := []) (c_S_slip hS (xs (i + 1)) (lawJ (xs (i + 2)) (xs (i + (2 + 1))))) gm_ml_L_44 cw_S_slip ⟨Nat.le_of_ble_eq_true rfl, Nat.le_of_ble_eq_true rfl⟩ rfl hS.this rfl rfl (Nat.le_of_ble_eq_true rfl) d_L_law_522 ⟨by have := rm1_cells; show 26 + i + 0 ≤ room_1.cells; omega, by have := rm1_slots; show 4000 + 7 * i + 0 ≤ room_1.slots; omega⟩ (fun r1 g1 p1 => ?_)
  have hF : SFr ad nb ni g g1 := by
    rcases p1 with ⟨-, -, rfl⟩ | ⟨_, -, -, ⟨-, -, rfl⟩ | ⟨-, -, ⟨-, -, rfl⟩ | ⟨_, -, -, -, -, h⟩⟩⟩ <;> first | exact SFr.rfl' | exact h
  have hM1 := hM.keepS hD hF
  refine go_aload_n X d_L_law_525 rfl (z := 1) rfl ?_
  refine go_cell X hX 1 (by omega) d_L_law_526 d_L_law_527 d_L_law_528 d_L_law_529 d_L_law_530 ?_
  refine go_long X hX 2 (by omega) d_L_law_531 d_L_law_532 d_L_law_533 d_L_law_534 d_L_law_535 d_L_law_536 d_L_law_537 d_L_law_539 d_L_law_540 d_L_law_541 d_L_law_542 d_L_law_543 d_L_law_544 d_L_law_545 d_L_law_546 d_L_law_549 d_L_law_550 ?_
  refine go_callI_V X (As := [.int (xs (i + 1)), .long (lawJ (xs (i + 2)) (xs (i + (2 + 1))))]) (rest := [.int r1]) (c_M_slip hM1 hSim.wf (xs (i + 1)) (lawJ (xs (i + 2)) (xs (i + (2 + 1))))) gm_ml_L_48 cw_M_slip ⟨Nat.le_of_ble_eq_true rfl, Nat.le_of_ble_eq_true rfl⟩ rfl hM1.this rfl rfl (Nat.le_of_ble_eq_true rfl) d_L_law_551 ⟨by have := rm1_cells; show 26 + i + 0 + 0 ≤ room_1.cells; omega, by have := rm1_slots; show 4000 + 7 * i + 0 + 0 ≤ room_1.slots; omega⟩ (fun r2 g2 p2 => ?_)
  have hE := slip_sim hS hD hSim p1 p2
  refine go_icmp_eq X d_L_law_554 (tgt := 742) (by decide) (fun _ => ?_) (fun z => absurd hE.1 z)
  exact go_widen (k := 26 + (i + 6)) (n := 4000 + 7 * (i + 6)) (by show 26 + i + 0 + 0 ≤ _; omega) (by show 4000 + 7 * i + 0 + 0 ≤ _; omega) (k g2 hE.2)
set_option maxHeartbeats 4000000 in
set_option maxRecDepth 100000 in
theorem law_place (X : Cx p s m args c D classes A 4 b_L_law R_L gtb (tyL dA)) (hX : Scr s A b L xs) (hi : i + 6 ≤ L) (hI : Inv dA g q0 q1) (k : ∀ g', Inv dA g' q0 q1 → Go p l e room_1 s m args below meth c D classes A 4 Q g' (26 + (i + 6)) (4000 + 7 * (i + 6)) 742 (lvL i b q0 q1) []) : Go p l e room_1 s m args below meth c D classes A 4 Q g (26 + i) (4000 + 7 * i) 559 (lvL i b q0 q1) [] := by
  have hL := hX.2.2.2
  obtain ⟨ad, am, nb, ni, T, B, I, n, tk, fr, th, La, Ja, ed, kn, rfl, rfl, hS, hM, hD, hSim⟩ := hI
  refine go_aload_n X d_L_law_559 rfl (z := 2) rfl ?_
  refine go_cell X hX 1 (by omega) d_L_law_560 d_L_law_561 d_L_law_562 d_L_law_563 d_L_law_564 ?_
  refine go_long X hX 2 (by omega) d_L_law_565 d_L_law_566 d_L_law_567 d_L_law_568 d_L_law_569 d_L_law_570 d_L_law_571 d_L_law_573 d_L_law_574 d_L_law_575 d_L_law_576 d_L_law_577 d_L_law_578 d_L_law_579 d_L_law_580 d_L_law_583 d_L_law_584 ?_
  refine go_callL_V X (As := [.int (xs (i + 1)), .long (lawJ (xs (i + 2)) (xs (i + (2 + 1))))]) (rest := []) (c_S_place hS (xs (i + 1)) (lawJ (xs (i + 2)) (xs (i + (2 + 1))))) gm_ml_L_49 cw_S_place ⟨Nat.le_of_ble_eq_true rfl, Nat.le_of_ble_eq_true rfl⟩ rfl hS.this rfl rfl (Nat.le_of_ble_eq_true rfl) d_L_law_585 ⟨by have := rm1_cells; show 26 + i + 0 ≤ room_1.cells; omega, by have := rm1_slots; show 4000 + 7 * i + 0 ≤ room_1.slots; omega⟩ (fun r1 g1 p1 => ?_)
  obtain ⟨rfl, p1⟩ := p1
  have hM1 := hM
  refine go_aload_n X d_L_law_588 rfl (z := 1) rfl ?_
  refine go_cell X hX 1 (by omega) d_L_law_589 d_L_law_590 d_L_law_591 d_L_law_592 d_L_law_593 ?_
  refine go_long X hX 2 (by omega) d_L_law_594 d_L_law_595 d_L_law_596 d_L_law_597 d_L_law_598 d_L_law_599 d_L_law_600 d_L_law_602 d_L_law_603 d_L_law_604 d_L_law_605 d_L_law_606 d_L_law_607 d_L_law_608 d_L_law_609 d_L_law_612 d_L_law_613 ?_
  refine go_callL_V X (As := [.int (xs (i + 1)), .long (lawJ (xs (i + 2)) (xs (i + (2 + 1))))]) (rest := [.long r1]) (c_M_place hM1 hSim.wf (xs (i + 1)) (lawJ (xs (i + 2)) (xs (i + (2 + 1))))) gm_ml_L_53 cw_M_place ⟨Nat.le_of_ble_eq_true rfl, Nat.le_of_ble_eq_true rfl⟩ rfl hM1.this rfl rfl (Nat.le_of_ble_eq_true rfl) d_L_law_614 ⟨by have := rm1_cells; show 26 + i + 0 + 0 ≤ room_1.cells; omega, by have := rm1_slots; show 4000 + 7 * i + 0 + 0 ≤ room_1.slots; omega⟩ (fun r2 g2 p2 => ?_)
  obtain ⟨⟨m1, m2⟩, p2⟩ := p2
  have hE : r1 = r2 ∧ Inv dA g2 (ad 0) (am 0) := ⟨place_sim hSim p1 p2, inv_same hS hD hSim m1 m2⟩
  refine go_lif_eq X d_L_law_617 d_L_law_618 (tgt := 742) (by decide) (fun _ => ?_) (fun z => absurd hE.1 z)
  exact go_widen (k := 26 + (i + 6)) (n := 4000 + 7 * (i + 6)) (by show 26 + i + 0 + 0 ≤ _; omega) (by show 4000 + 7 * i + 0 + 0 ≤ _; omega) (k g2 hE.2)
set_option maxHeartbeats 4000000 in
set_option maxRecDepth 100000 in
theorem law_gap (X : Cx p s m args c D classes A 4 b_L_law R_L gtb (tyL dA)) (hX : Scr s A b L xs) (hi : i + 6 ≤ L) (hI : Inv dA g q0 q1) (k : ∀ g', Inv dA g' q0 q1 → Go p l e room_1 s m args below meth c D classes A 4 Q g' (26 + (i + 6)) (4000 + 7 * (i + 6)) 742 (lvL i b q0 q1) []) : Go p l e room_1 s m args below meth c D classes A 4 Q g (26 + i) (4000 + 7 * i) 623 (lvL i b q0 q1) [] := by
  have hL := hX.2.2.2
  obtain ⟨ad, am, nb, ni, T, B, I, n, tk, fr, th, La, Ja, ed, kn, rfl, rfl, hS, hM, hD, hSim⟩ := hI
  refine go_aload_n X d_L_law_623 rfl (z := 2) rfl ?_
  refine go_cell X hX 1 (by omega) d_L_law_624 d_L_law_625 d_L_law_626 d_L_law_627 d_L_law_628 ?_
  refine go_cell X hX 2 (by omega) d_L_law_629 d_L_law_630 d_L_law_631 d_L_law_632 d_L_law_633 ?_
  refine go_callI_V X (As := [.int (xs (i + 1)), .int (xs (i + 2))]) (rest := []) (c_S_gap hS (xs (i + 1)) (xs (i + 2))) gm_ml_L_54 cw_S_gap ⟨Nat.le_of_ble_eq_true rfl, Nat.le_of_ble_eq_true rfl⟩ rfl hS.this rfl rfl (Nat.le_of_ble_eq_true rfl) d_L_law_634 ⟨by have := rm1_cells; show 26 + i + 0 ≤ room_1.cells; omega, by have := rm1_slots; show 4000 + 7 * i + 0 ≤ room_1.slots; omega⟩ (fun r1 g1 p1 => ?_)
  obtain ⟨rfl, p1⟩ := p1
  have hM1 := hM
  refine go_aload_n X d_L_law_637 rfl (z := 1) rfl ?_
  refine go_cell X hX 1 (by omega) d_L_law_638 d_L_law_639 d_L_law_640 d_L_law_641 d_L_law_642 ?_
  refine go_cell X hX 2 (by omega) d_L_law_643 d_L_law_644 d_L_law_645 d_L_law_646 d_L_law_647 ?_
  refine go_callI_V X (As := [.int (xs (i + 1)), .int (xs (i + 2))]) (rest := [.int r1]) (c_M_gap hM1 hSim.wf (xs (i + 1)) (xs (i + 2))) gm_ml_L_57 cw_M_gap ⟨Nat.le_of_ble_eq_true rfl, Nat.le_of_ble_eq_true rfl⟩ rfl hM1.this rfl rfl (Nat.le_of_ble_eq_true rfl) d_L_law_648 ⟨by have := rm1_cells; show 26 + i + 0 + 0 ≤ room_1.cells; omega, by have := rm1_slots; show 4000 + 7 * i + 0 + 0 ≤ room_1.slots; omega⟩ (fun r2 g2 p2 => ?_)
  obtain ⟨⟨m1, m2⟩, p2⟩ := p2
  have hE : r1 = r2 ∧ Inv dA g2 (ad 0) (am 0) := ⟨gap_sim hSim p1 p2, inv_same hS hD hSim m1 m2⟩
  refine go_icmp_eq X d_L_law_651 (tgt := 742) (by decide) (fun _ => ?_) (fun z => absurd hE.1 z)
  exact go_widen (k := 26 + (i + 6)) (n := 4000 + 7 * (i + 6)) (by show 26 + i + 0 + 0 ≤ _; omega) (by show 4000 + 7 * i + 0 + 0 ≤ _; omega) (k g2 hE.2)
set_option maxHeartbeats 4000000 in
set_option maxRecDepth 100000 in
theorem law_count (X : Cx p s m args c D classes A 4 b_L_law R_L gtb (tyL dA)) (hX : Scr s A b L xs) (hi : i + 6 ≤ L) (hI : Inv dA g q0 q1) (k : ∀ g', Inv dA g' q0 q1 → Go p l e room_1 s m args below meth c D classes A 4 Q g' (26 + (i + 6)) (4000 + 7 * (i + 6)) 742 (lvL i b q0 q1) []) : Go p l e room_1 s m args below meth c D classes A 4 Q g (26 + i) (4000 + 7 * i) 656 (lvL i b q0 q1) [] := by
  have hL := hX.2.2.2
  obtain ⟨ad, am, nb, ni, T, B, I, n, tk, fr, th, La, Ja, ed, kn, rfl, rfl, hS, hM, hD, hSim⟩ := hI
  refine go_aload_n X d_L_law_656 rfl (z := 2) rfl ?_
  refine go_cell X hX 1 (by omega) d_L_law_657 d_L_law_658 d_L_law_659 d_L_law_660 d_L_law_661 ?_
  refine go_callI_V X (As := [.int (xs (i + 1))]) (rest := []) (c_S_count hS (xs (i + 1))) gm_ml_L_58 cw_S_count ⟨Nat.le_of_ble_eq_true rfl, Nat.le_of_ble_eq_true rfl⟩ rfl hS.this rfl rfl (Nat.le_of_ble_eq_true rfl) d_L_law_662 ⟨by have := rm1_cells; show 26 + i + 0 ≤ room_1.cells; omega, by have := rm1_slots; show 4000 + 7 * i + 0 ≤ room_1.slots; omega⟩ (fun r1 g1 p1 => ?_)
  obtain ⟨rfl, p1⟩ := p1
  have hM1 := hM
  refine go_aload_n X d_L_law_665 rfl (z := 1) rfl ?_
  refine go_cell X hX 1 (by omega) d_L_law_666 d_L_law_667 d_L_law_668 d_L_law_669 d_L_law_670 ?_
  refine go_callI_V X (As := [.int (xs (i + 1))]) (rest := [.int r1]) (c_M_count hM1 hSim.wf (xs (i + 1))) gm_ml_L_62 cw_M_count ⟨Nat.le_of_ble_eq_true rfl, Nat.le_of_ble_eq_true rfl⟩ rfl hM1.this rfl rfl (Nat.le_of_ble_eq_true rfl) d_L_law_671 ⟨by have := rm1_cells; show 26 + i + 0 + 0 ≤ room_1.cells; omega, by have := rm1_slots; show 4000 + 7 * i + 0 + 0 ≤ room_1.slots; omega⟩ (fun r2 g2 p2 => ?_)
  obtain ⟨⟨m1, m2⟩, p2⟩ := p2
  have hE : r1 = r2 ∧ Inv dA g2 (ad 0) (am 0) := ⟨count_sim hSim p1 p2, inv_same hS hD hSim m1 m2⟩
  refine go_icmp_eq X d_L_law_674 (tgt := 742) (by decide) (fun _ => ?_) (fun z => absurd hE.1 z)
  exact go_widen (k := 26 + (i + 6)) (n := 4000 + 7 * (i + 6)) (by show 26 + i + 0 + 0 ≤ _; omega) (by show 4000 + 7 * i + 0 + 0 ≤ _; omega) (k g2 hE.2)
set_option maxHeartbeats 4000000 in
set_option maxRecDepth 100000 in
theorem law_gear (X : Cx p s m args c D classes A 4 b_L_law R_L gtb (tyL dA)) (hX : Scr s A b L xs) (hi : i + 6 ≤ L) (hI : Inv dA g q0 q1) (k : ∀ g', Inv dA g' q0 q1 → Go p l e room_1 s m args below meth c D classes A 4 Q g' (26 + (i + 6)) (4000 + 7 * (i + 6)) 742 (lvL i b q0 q1) []) : Go p l e room_1 s m args below meth c D classes A 4 Q g (26 + i) (4000 + 7 * i) 679 (lvL i b q0 q1) [] := by
  have hL := hX.2.2.2
  obtain ⟨ad, am, nb, ni, T, B, I, n, tk, fr, th, La, Ja, ed, kn, rfl, rfl, hS, hM, hD, hSim⟩ := hI
  refine go_aload_n X d_L_law_679 rfl (z := 2) rfl ?_
  refine go_cell X hX 1 (by omega) d_L_law_680 d_L_law_681 d_L_law_682 d_L_law_683 d_L_law_684 ?_
  refine go_long X hX 2 (by omega) d_L_law_685 d_L_law_686 d_L_law_687 d_L_law_688 d_L_law_689 d_L_law_690 d_L_law_691 d_L_law_693 d_L_law_694 d_L_law_695 d_L_law_696 d_L_law_697 d_L_law_698 d_L_law_699 d_L_law_700 d_L_law_703 d_L_law_704 ?_
  refine go_callI_V X (As := [.int (xs (i + 1)), .long (lawJ (xs (i + 2)) (xs (i + (2 + 1))))]) (rest := []) (c_S_gear hS (xs (i + 1)) (lawJ (xs (i + 2)) (xs (i + (2 + 1))))) gm_ml_L_63 cw_S_gear ⟨Nat.le_of_ble_eq_true rfl, Nat.le_of_ble_eq_true rfl⟩ rfl hS.this rfl rfl (Nat.le_of_ble_eq_true rfl) d_L_law_705 ⟨by have := rm1_cells; show 26 + i + 0 ≤ room_1.cells; omega, by have := rm1_slots; show 4000 + 7 * i + 0 ≤ room_1.slots; omega⟩ (fun r1 g1 p1 => ?_)
  obtain ⟨rfl, p1⟩ := p1
  have hM1 := hM
  refine go_aload_n X d_L_law_708 rfl (z := 1) rfl ?_
  refine go_cell X hX 1 (by omega) d_L_law_709 d_L_law_710 d_L_law_711 d_L_law_712 d_L_law_713 ?_
  refine go_long X hX 2 (by omega) d_L_law_714 d_L_law_715 d_L_law_716 d_L_law_717 d_L_law_718 d_L_law_719 d_L_law_720 d_L_law_722 d_L_law_723 d_L_law_724 d_L_law_725 d_L_law_726 d_L_law_727 d_L_law_728 d_L_law_729 d_L_law_732 d_L_law_733 ?_
  refine go_callI_V X (As := [.int (xs (i + 1)), .long (lawJ (xs (i + 2)) (xs (i + (2 + 1))))]) (rest := [.int r1]) (c_M_gear hM1 hSim.wf (xs (i + 1)) (lawJ (xs (i + 2)) (xs (i + (2 + 1))))) gm_ml_L_66 cw_M_gear ⟨Nat.le_of_ble_eq_true rfl, Nat.le_of_ble_eq_true rfl⟩ rfl hM1.this rfl rfl (Nat.le_of_ble_eq_true rfl) d_L_law_734 ⟨by have := rm1_cells; show 26 + i + 0 + 0 ≤ room_1.cells; omega, by have := rm1_slots; show 4000 + 7 * i + 0 + 0 ≤ room_1.slots; omega⟩ (fun r2 g2 p2 => ?_)
  obtain ⟨⟨m1, m2⟩, p2⟩ := p2
  have hE : r1 = r2 ∧ Inv dA g2 (ad 0) (am 0) := ⟨gear_sim hSim p1 p2, inv_same hS hD hSim m1 m2⟩
  refine go_icmp_eq X d_L_law_737 (tgt := 742) (by decide) (fun _ => ?_) (fun z => absurd hE.1 z)
  exact go_widen (k := 26 + (i + 6)) (n := 4000 + 7 * (i + 6)) (by show 26 + i + 0 + 0 ≤ _; omega) (by show 4000 + 7 * i + 0 + 0 ≤ _; omega) (k g2 hE.2)
end LAW1
