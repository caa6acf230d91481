/-! the law's cases, 0 -/
set_option maxHeartbeats 2000000 in
set_option maxRecDepth 100000 in
theorem law_untag {p : Program} {l : Launch} {e : Env} {s : State} {m : MethodId} {args : Array Value} {below : List Frame} {meth : Method} {c : Code} {D : va_G} {A : Nat → Prop} {k n : Nat} {Q : State → Prop} {cI cJ : ClassId} {ad bd : Nat → Nat} {b L o i : Nat} {xs : Nat → Int32} {wx wy : va_W} {t0 : Int32} {g : Nat → Int64} (h0 : LH p l m c s args D A cI cJ b L xs) (h : WP cI ad bd wx wy t0) (hi : i + 5 < L) (hk : k + 1 ≤ 1059) (hn : n + 6 ≤ 9105) (kk : ∀ (wx' wy' : va_W) (t' : Int32) (g' : Nat → Int64), WP cI ad bd wx' wy' t' → V p l e room_1 s m args below meth c D A 7 (k + 1) (n + 6) Q (oC cJ o g' :: (wx' ++ wy')) [(4, .int (nI i)), (3, .ref o), (2, .ref (bd 0)), (1, .ref (ad 0)), (0, .ref b)] 1492 []) : V p l e room_1 s m args below meth c D A 7 k n Q (oC cJ o g :: (wx ++ wy)) [(4, .int (nI i)), (3, .ref o), (2, .ref (bd 0)), (1, .ref (ad 0)), (0, .ref b)] 136 [] := by
  obtain ⟨C0, hst, hK, hA, hEN, hX, hbl, hbA, hL⟩ := h0
  have hK1 : va_K D vwCl (TI cI) s := hK.sub [0] rfl
  obtain ⟨fy, hy0⟩ := h.y0
  obtain ⟨wx', wy', r, TH, g', hw, hy, hE, hg⟩ := u_untag (cJ := cJ) l hst D h o g (xs (i + 1)) (xs (i + 2)) (xs (i + 3))
  obtain ⟨fy1, hy1⟩ := hw.y0
  refine v_aload_n C0 (pc' := 137) 3 rfl rfl dL_law_136 rfl ?_
  refine v_scr C0 hX hbl hbA (i := i) (a := 1) (pc' := 143) (by omega) hL (by decide) 4 0 rfl rfl dL_law_137 dL_law_138 dL_law_140 dL_law_141 dL_law_142 rfl ?_
  refine v_scr C0 hX hbl hbA (i := i) (a := 2) (pc' := 149) (by omega) hL (by decide) 4 0 rfl rfl dL_law_143 dL_law_144 dL_law_146 dL_law_147 dL_law_148 rfl ?_
  refine v_scr C0 hX hbl hbA (i := i) (a := 3) (pc' := 155) (by omega) hL (by decide) 4 0 rfl rfl dL_law_149 dL_law_150 dL_law_152 dL_law_153 dL_law_154 rfl ?_
  refine v_aload_n C0 (pc' := 156) 1 rfl rfl dL_law_155 rfl ?_
  refine v_callSE C0 (av := [.ref (ad 0), .int (xs (i + 1)), .int (xs (i + 2)), .int (xs (i + 3)), .ref o]) (rest := []) (ws' := oC cJ o g' :: (wx' ++ wy)) (pc' := 159) hK hA hEN hE (vx_cwSW 5 C0.2.2.2.2 gL_law_L_untag rfl rfl rfl (by decide +kernel) ⟨Nat.le_of_ble_eq_true rfl, Nat.le_of_ble_eq_true rfl⟩) (PLs.lf (W0 := oC cJ o g :: wx) (W1 := oC cJ o g' :: wx') (R := wy)) rfl rfl (Nat.le_of_ble_eq_true rfl) ⟨hk, hn⟩ dL_law_156 rfl ?_
  refine v_istore C0 (lv' := [(5, .int TH), (4, .int (nI i)), (3, .ref o), (2, .ref (bd 0)), (1, .ref (ad 0)), (0, .ref b)]) (pc' := 161) (by decide) rfl dL_law_159 rfl ?_
  refine v_aload_n C0 (pc' := 162) 3 rfl rfl dL_law_161 rfl ?_
  refine v_scr C0 hX hbl hbA (i := i) (a := 1) (pc' := 168) (by omega) hL (by decide) 5 1 rfl rfl dL_law_162 dL_law_163 dL_law_165 dL_law_166 dL_law_167 rfl ?_
  refine v_scr C0 hX hbl hbA (i := i) (a := 2) (pc' := 174) (by omega) hL (by decide) 5 1 rfl rfl dL_law_168 dL_law_169 dL_law_171 dL_law_172 dL_law_173 rfl ?_
  refine v_scr C0 hX hbl hbA (i := i) (a := 3) (pc' := 180) (by omega) hL (by decide) 5 1 rfl rfl dL_law_174 dL_law_175 dL_law_177 dL_law_178 dL_law_179 rfl ?_
  refine v_callVi0 C0 (av := [.int (xs (i + 1)), .int (xs (i + 2)), .int (xs (i + 3))]) (rest := []) (ws' := oC cJ o g' :: (wx' ++ wy')) (pc' := 183) hK1 hA hy (cwV 3 C0.2.2.2.2 gL_law_X1_untag rfl rfl rfl (by decide +kernel) ⟨Nat.le_of_ble_eq_true rfl, Nat.le_of_ble_eq_true rfl⟩) ⟨_, 1, _, _, _, rfl, ap_r (A := oC cJ o g' :: wx') hy0⟩ (PLs.rt (P := oC cJ o g' :: wx')) rfl rfl (Nat.le_of_ble_eq_true rfl) ⟨hk, hn⟩ dL_law_180 rfl ?_
  refine v_istore C0 (lv' := [(6, .int r), (5, .int TH), (4, .int (nI i)), (3, .ref o), (2, .ref (bd 0)), (1, .ref (ad 0)), (0, .ref b)]) (pc' := 185) (by decide) rfl dL_law_183 rfl ?_
  refine v_aload_n C0 (pc' := 186) 4 rfl rfl dL_law_185 rfl ?_
  refine v_callVi0 C0 (av := []) (rest := []) (ws' := oC cJ o g' :: (wx' ++ wy')) (pc' := 189) hK1 hA (hw.th l D) (cwV 0 C0.2.2.2.2 gL_law_X1_thrown rfl rfl rfl (by decide +kernel) ⟨Nat.le_of_ble_eq_true rfl, Nat.le_of_ble_eq_true rfl⟩) ⟨_, 1, _, _, _, rfl, ap_r (A := oC cJ o g' :: wx') hy1⟩ (PLs.rt (P := oC cJ o g' :: wx')) rfl rfl (Nat.le_of_ble_eq_true rfl) ⟨hk, hn⟩ dL_law_186 rfl ?_
  refine v_iload C0 (pc' := 191) 1 rfl dL_law_189 rfl ?_
  refine v_icmp_eq C0 196 (pc' := 194) dL_law_191 (by decide) rfl (fun _ => ?_) (fun z => absurd rfl z)
  refine v_iload C0 (pc' := 198) 1 rfl dL_law_196 rfl ?_
  refine v_if_ne C0 213 (pc' := 201) dL_law_198 (by decide) rfl (fun z => ?_) (fun z => ?_)
  · refine v_goto C0 1492 dL_law_213 (by decide) ?_
    exact v_sub (lv' := [(4, .int (nI i)), (3, .ref o), (2, .ref (bd 0)), (1, .ref (ad 0)), (0, .ref b)]) [2, 3, 4, 5, 6] rfl (kk wx' wy' TH g' hw)
  · have eg := hg z
    refine v_aload_n C0 (pc' := 202) 3 rfl rfl dL_law_201 rfl ?_
    refine v_iconst C0 (pc' := 203) 0 (by decide) dL_law_202 rfl ?_
    refine v_lald C0 hK (pc' := 204) 0 1 rfl rfl vin01 dL_law_203 rfl ?_
    refine v_iload C0 (pc' := 206) 0 rfl dL_law_204 rfl ?_
    refine v_i2l C0 (pc' := 207) dL_law_206 rfl ?_
    refine v_lcmp C0 (pc' := 208) dL_law_207 rfl ?_
    refine v_if_eq C0 213 (pc' := 211) dL_law_208 (by decide) rfl (fun _ => ?_) (fun z2 => absurd (by rw [eg]; exact lg_self _) z2)
    refine v_goto C0 1492 dL_law_213 (by decide) ?_
    exact v_sub (lv' := [(4, .int (nI i)), (3, .ref o), (2, .ref (bd 0)), (1, .ref (ad 0)), (0, .ref b)]) [2, 3, 4, 5, 6] rfl (kk wx' wy' TH g' hw)
set_option maxHeartbeats 2000000 in
set_option maxRecDepth 100000 in
theorem law_tag {p : Program} {l : Launch} {e : Env} {s : State} {m : MethodId} {args : Array Value} {below : List Frame} {meth : Method} {c : Code} {D : va_G} {A : Nat → Prop} {k n : Nat} {Q : State → Prop} {cI cJ : ClassId} {ad bd : Nat → Nat} {b L o i : Nat} {xs : Nat → Int32} {wx wy : va_W} {t0 : Int32} {g : Nat → Int64} (h0 : LH p l m c s args D A cI cJ b L xs) (h : WP cI ad bd wx wy t0) (hi : i + 5 < L) (hk : k + 1 ≤ 1059) (hn : n + 6 ≤ 9105) (kk : ∀ (wx' wy' : va_W) (t' : Int32) (g' : Nat → Int64), WP cI ad bd wx' wy' t' → V p l e room_1 s m args below meth c D A 7 (k + 1) (n + 6) Q (oC cJ o g' :: (wx' ++ wy')) [(4, .int (nI i)), (3, .ref o), (2, .ref (bd 0)), (1, .ref (ad 0)), (0, .ref b)] 1492 []) : V p l e room_1 s m args below meth c D A 7 k n Q (oC cJ o g :: (wx ++ wy)) [(4, .int (nI i)), (3, .ref o), (2, .ref (bd 0)), (1, .ref (ad 0)), (0, .ref b)] 216 [] := by
  obtain ⟨C0, hst, hK, hA, hEN, hX, hbl, hbA, hL⟩ := h0
  have hK1 : va_K D vwCl (TI cI) s := hK.sub [0] rfl
  obtain ⟨fy, hy0⟩ := h.y0
  obtain ⟨wx', wy', r, TH, g', hw, hy, hE, hg⟩ := u_tag (cJ := cJ) l hst D h o g (xs (i + 1)) (xs (i + 2)) (xs (i + 3)) (bb (xs (i + 4))) (bb01 _)
  obtain ⟨fy1, hy1⟩ := hw.y0
  refine v_aload_n C0 (pc' := 217) 3 rfl rfl dL_law_216 rfl ?_
  refine v_scr C0 hX hbl hbA (i := i) (a := 1) (pc' := 223) (by omega) hL (by decide) 4 0 rfl rfl dL_law_217 dL_law_218 dL_law_220 dL_law_221 dL_law_222 rfl ?_
  refine v_scr C0 hX hbl hbA (i := i) (a := 2) (pc' := 229) (by omega) hL (by decide) 4 0 rfl rfl dL_law_223 dL_law_224 dL_law_226 dL_law_227 dL_law_228 rfl ?_
  refine v_scr C0 hX hbl hbA (i := i) (a := 3) (pc' := 235) (by omega) hL (by decide) 4 0 rfl rfl dL_law_229 dL_law_230 dL_law_232 dL_law_233 dL_law_234 rfl ?_
  refine v_scr C0 hX hbl hbA (i := i) (a := 4) (pc' := 241) (by omega) hL (by decide) 4 0 rfl rfl dL_law_235 dL_law_236 dL_law_238 dL_law_239 dL_law_240 rfl ?_
  refine v_nz C0 248 249 dL_law_241 (by decide) dL_law_244 dL_law_245 (by decide) dL_law_248 rfl ?_
  refine v_aload_n C0 (pc' := 250) 1 rfl rfl dL_law_249 rfl ?_
  refine v_callSE C0 (av := [.ref (ad 0), .int (xs (i + 1)), .int (xs (i + 2)), .int (xs (i + 3)), .int (bb (xs (i + 4))), .ref o]) (rest := []) (ws' := oC cJ o g' :: (wx' ++ wy)) (pc' := 253) hK hA hEN hE (vx_cwSW 6 C0.2.2.2.2 gL_law_L_tag rfl rfl rfl (by decide +kernel) ⟨Nat.le_of_ble_eq_true rfl, Nat.le_of_ble_eq_true rfl⟩) (PLs.lf (W0 := oC cJ o g :: wx) (W1 := oC cJ o g' :: wx') (R := wy)) rfl rfl (Nat.le_of_ble_eq_true rfl) ⟨hk, hn⟩ dL_law_250 rfl ?_
  refine v_istore C0 (lv' := [(5, .int TH), (4, .int (nI i)), (3, .ref o), (2, .ref (bd 0)), (1, .ref (ad 0)), (0, .ref b)]) (pc' := 255) (by decide) rfl dL_law_253 rfl ?_
  refine v_aload_n C0 (pc' := 256) 3 rfl rfl dL_law_255 rfl ?_
  refine v_scr C0 hX hbl hbA (i := i) (a := 1) (pc' := 262) (by omega) hL (by decide) 5 1 rfl rfl dL_law_256 dL_law_257 dL_law_259 dL_law_260 dL_law_261 rfl ?_
  refine v_scr C0 hX hbl hbA (i := i) (a := 2) (pc' := 268) (by omega) hL (by decide) 5 1 rfl rfl dL_law_262 dL_law_263 dL_law_265 dL_law_266 dL_law_267 rfl ?_
  refine v_scr C0 hX hbl hbA (i := i) (a := 3) (pc' := 274) (by omega) hL (by decide) 5 1 rfl rfl dL_law_268 dL_law_269 dL_law_271 dL_law_272 dL_law_273 rfl ?_
  refine v_scr C0 hX hbl hbA (i := i) (a := 4) (pc' := 280) (by omega) hL (by decide) 5 1 rfl rfl dL_law_274 dL_law_275 dL_law_277 dL_law_278 dL_law_279 rfl ?_
  refine v_nz C0 287 288 dL_law_280 (by decide) dL_law_283 dL_law_284 (by decide) dL_law_287 rfl ?_
  refine v_callVi0 C0 (av := [.int (xs (i + 1)), .int (xs (i + 2)), .int (xs (i + 3)), .int (bb (xs (i + 4)))]) (rest := []) (ws' := oC cJ o g' :: (wx' ++ wy')) (pc' := 291) hK1 hA hy (cwV 4 C0.2.2.2.2 gL_law_X1_tag rfl rfl rfl (by decide +kernel) ⟨Nat.le_of_ble_eq_true rfl, Nat.le_of_ble_eq_true rfl⟩) ⟨_, 1, _, _, _, rfl, ap_r (A := oC cJ o g' :: wx') hy0⟩ (PLs.rt (P := oC cJ o g' :: wx')) rfl rfl (Nat.le_of_ble_eq_true rfl) ⟨hk, hn⟩ dL_law_288 rfl ?_
  refine v_istore C0 (lv' := [(6, .int r), (5, .int TH), (4, .int (nI i)), (3, .ref o), (2, .ref (bd 0)), (1, .ref (ad 0)), (0, .ref b)]) (pc' := 293) (by decide) rfl dL_law_291 rfl ?_
  refine v_aload_n C0 (pc' := 294) 4 rfl rfl dL_law_293 rfl ?_
  refine v_callVi0 C0 (av := []) (rest := []) (ws' := oC cJ o g' :: (wx' ++ wy')) (pc' := 297) hK1 hA (hw.th l D) (cwV 0 C0.2.2.2.2 gL_law_X1_thrown rfl rfl rfl (by decide +kernel) ⟨Nat.le_of_ble_eq_true rfl, Nat.le_of_ble_eq_true rfl⟩) ⟨_, 1, _, _, _, rfl, ap_r (A := oC cJ o g' :: wx') hy1⟩ (PLs.rt (P := oC cJ o g' :: wx')) rfl rfl (Nat.le_of_ble_eq_true rfl) ⟨hk, hn⟩ dL_law_294 rfl ?_
  refine v_iload C0 (pc' := 299) 1 rfl dL_law_297 rfl ?_
  refine v_icmp_eq C0 304 (pc' := 302) dL_law_299 (by decide) rfl (fun _ => ?_) (fun z => absurd rfl z)
  refine v_iload C0 (pc' := 306) 1 rfl dL_law_304 rfl ?_
  refine v_if_ne C0 328 (pc' := 309) dL_law_306 (by decide) rfl (fun z => ?_) (fun z => ?_)
  · refine v_goto C0 1492 dL_law_328 (by decide) ?_
    exact v_sub (lv' := [(4, .int (nI i)), (3, .ref o), (2, .ref (bd 0)), (1, .ref (ad 0)), (0, .ref b)]) [2, 3, 4, 5, 6] rfl (kk wx' wy' TH g' hw)
  · have eg := hg z
    refine v_aload_n C0 (pc' := 310) 3 rfl rfl dL_law_309 rfl ?_
    refine v_iconst C0 (pc' := 311) 0 (by decide) dL_law_310 rfl ?_
    refine v_lald C0 hK (pc' := 312) 0 1 rfl rfl vin01 dL_law_311 rfl ?_
    refine v_iload C0 (pc' := 314) 0 rfl dL_law_312 rfl ?_
    refine v_lz C0 321 322 dL_law_314 (by decide) dL_law_317 dL_law_318 (by decide) dL_law_321 rfl ?_
    refine v_lcmp C0 (pc' := 323) dL_law_322 rfl ?_
    refine v_if_eq C0 328 (pc' := 326) dL_law_323 (by decide) rfl (fun _ => ?_) (fun z2 => absurd (by rw [eg]; exact lg_self _) z2)
    refine v_goto C0 1492 dL_law_328 (by decide) ?_
    exact v_sub (lv' := [(4, .int (nI i)), (3, .ref o), (2, .ref (bd 0)), (1, .ref (ad 0)), (0, .ref b)]) [2, 3, 4, 5, 6] rfl (kk wx' wy' TH g' hw)
set_option maxHeartbeats 2000000 in
set_option maxRecDepth 100000 in
theorem law_cable {p : Program} {l : Launch} {e : Env} {s : State} {m : MethodId} {args : Array Value} {below : List Frame} {meth : Method} {c : Code} {D : va_G} {A : Nat → Prop} {k n : Nat} {Q : State → Prop} {cI cJ : ClassId} {ad bd : Nat → Nat} {b L o i : Nat} {xs : Nat → Int32} {wx wy : va_W} {t0 : Int32} {g : Nat → Int64} (h0 : LH p l m c s args D A cI cJ b L xs) (h : WP cI ad bd wx wy t0) (hi : i + 5 < L) (hk : k + 1 ≤ 1059) (hn : n + 6 ≤ 9105) (kk : ∀ (wx' wy' : va_W) (t' : Int32) (g' : Nat → Int64), WP cI ad bd wx' wy' t' → V p l e room_1 s m args below meth c D A 7 (k + 1) (n + 6) Q (oC cJ o g' :: (wx' ++ wy')) [(4, .int (nI i)), (3, .ref o), (2, .ref (bd 0)), (1, .ref (ad 0)), (0, .ref b)] 1492 []) : V p l e room_1 s m args below meth c D A 7 k n Q (oC cJ o g :: (wx ++ wy)) [(4, .int (nI i)), (3, .ref o), (2, .ref (bd 0)), (1, .ref (ad 0)), (0, .ref b)] 331 [] := by
  obtain ⟨C0, hst, hK, hA, hEN, hX, hbl, hbA, hL⟩ := h0
  have hK1 : va_K D vwCl (TI cI) s := hK.sub [0] rfl
  obtain ⟨fy, hy0⟩ := h.y0
  obtain ⟨wx', wy', r, TH, g', hw, hy, hE, hg⟩ := u_cable (cJ := cJ) l hst D h o g (xs (i + 1)) (xs (i + 2)) (xs (i + 3)) (xs (i + 4)) (xs (i + 5))
  obtain ⟨fy1, hy1⟩ := hw.y0
  refine v_aload_n C0 (pc' := 332) 3 rfl rfl dL_law_331 rfl ?_
  refine v_scr C0 hX hbl hbA (i := i) (a := 1) (pc' := 338) (by omega) hL (by decide) 4 0 rfl rfl dL_law_332 dL_law_333 dL_law_335 dL_law_336 dL_law_337 rfl ?_
  refine v_scr C0 hX hbl hbA (i := i) (a := 2) (pc' := 344) (by omega) hL (by decide) 4 0 rfl rfl dL_law_338 dL_law_339 dL_law_341 dL_law_342 dL_law_343 rfl ?_
  refine v_scr C0 hX hbl hbA (i := i) (a := 3) (pc' := 350) (by omega) hL (by decide) 4 0 rfl rfl dL_law_344 dL_law_345 dL_law_347 dL_law_348 dL_law_349 rfl ?_
  refine v_scr C0 hX hbl hbA (i := i) (a := 4) (pc' := 356) (by omega) hL (by decide) 4 0 rfl rfl dL_law_350 dL_law_351 dL_law_353 dL_law_354 dL_law_355 rfl ?_
  refine v_scr C0 hX hbl hbA (i := i) (a := 5) (pc' := 362) (by omega) hL (by decide) 4 0 rfl rfl dL_law_356 dL_law_357 dL_law_359 dL_law_360 dL_law_361 rfl ?_
  refine v_aload_n C0 (pc' := 363) 1 rfl rfl dL_law_362 rfl ?_
  refine v_callSE C0 (av := [.ref (ad 0), .int (xs (i + 1)), .int (xs (i + 2)), .int (xs (i + 3)), .int (xs (i + 4)), .int (xs (i + 5)), .ref o]) (rest := []) (ws' := oC cJ o g' :: (wx' ++ wy)) (pc' := 366) hK hA hEN hE (vx_cwSW 7 C0.2.2.2.2 gL_law_L_cable rfl rfl rfl (by decide +kernel) ⟨Nat.le_of_ble_eq_true rfl, Nat.le_of_ble_eq_true rfl⟩) (PLs.lf (W0 := oC cJ o g :: wx) (W1 := oC cJ o g' :: wx') (R := wy)) rfl rfl (Nat.le_of_ble_eq_true rfl) ⟨hk, hn⟩ dL_law_363 rfl ?_
  refine v_istore C0 (lv' := [(5, .int TH), (4, .int (nI i)), (3, .ref o), (2, .ref (bd 0)), (1, .ref (ad 0)), (0, .ref b)]) (pc' := 368) (by decide) rfl dL_law_366 rfl ?_
  refine v_aload_n C0 (pc' := 369) 3 rfl rfl dL_law_368 rfl ?_
  refine v_scr C0 hX hbl hbA (i := i) (a := 1) (pc' := 375) (by omega) hL (by decide) 5 1 rfl rfl dL_law_369 dL_law_370 dL_law_372 dL_law_373 dL_law_374 rfl ?_
  refine v_scr C0 hX hbl hbA (i := i) (a := 2) (pc' := 381) (by omega) hL (by decide) 5 1 rfl rfl dL_law_375 dL_law_376 dL_law_378 dL_law_379 dL_law_380 rfl ?_
  refine v_scr C0 hX hbl hbA (i := i) (a := 3) (pc' := 387) (by omega) hL (by decide) 5 1 rfl rfl dL_law_381 dL_law_382 dL_law_384 dL_law_385 dL_law_386 rfl ?_
  refine v_scr C0 hX hbl hbA (i := i) (a := 4) (pc' := 393) (by omega) hL (by decide) 5 1 rfl rfl dL_law_387 dL_law_388 dL_law_390 dL_law_391 dL_law_392 rfl ?_
  refine v_scr C0 hX hbl hbA (i := i) (a := 5) (pc' := 399) (by omega) hL (by decide) 5 1 rfl rfl dL_law_393 dL_law_394 dL_law_396 dL_law_397 dL_law_398 rfl ?_
  refine v_callVi0 C0 (av := [.int (xs (i + 1)), .int (xs (i + 2)), .int (xs (i + 3)), .int (xs (i + 4)), .int (xs (i + 5))]) (rest := []) (ws' := oC cJ o g' :: (wx' ++ wy')) (pc' := 402) hK1 hA hy (cwV 5 C0.2.2.2.2 gL_law_X1_cable rfl rfl rfl (by decide +kernel) ⟨Nat.le_of_ble_eq_true rfl, Nat.le_of_ble_eq_true rfl⟩) ⟨_, 1, _, _, _, rfl, ap_r (A := oC cJ o g' :: wx') hy0⟩ (PLs.rt (P := oC cJ o g' :: wx')) rfl rfl (Nat.le_of_ble_eq_true rfl) ⟨hk, hn⟩ dL_law_399 rfl ?_
  refine v_istore C0 (lv' := [(6, .int r), (5, .int TH), (4, .int (nI i)), (3, .ref o), (2, .ref (bd 0)), (1, .ref (ad 0)), (0, .ref b)]) (pc' := 404) (by decide) rfl dL_law_402 rfl ?_
  refine v_aload_n C0 (pc' := 405) 4 rfl rfl dL_law_404 rfl ?_
  refine v_callVi0 C0 (av := []) (rest := []) (ws' := oC cJ o g' :: (wx' ++ wy')) (pc' := 408) hK1 hA (hw.th l D) (cwV 0 C0.2.2.2.2 gL_law_X1_thrown rfl rfl rfl (by decide +kernel) ⟨Nat.le_of_ble_eq_true rfl, Nat.le_of_ble_eq_true rfl⟩) ⟨_, 1, _, _, _, rfl, ap_r (A := oC cJ o g' :: wx') hy1⟩ (PLs.rt (P := oC cJ o g' :: wx')) rfl rfl (Nat.le_of_ble_eq_true rfl) ⟨hk, hn⟩ dL_law_405 rfl ?_
  refine v_iload C0 (pc' := 410) 1 rfl dL_law_408 rfl ?_
  refine v_icmp_eq C0 415 (pc' := 413) dL_law_410 (by decide) rfl (fun _ => ?_) (fun z => absurd rfl z)
  refine v_iload C0 (pc' := 417) 1 rfl dL_law_415 rfl ?_
  refine v_if_ne C0 432 (pc' := 420) dL_law_417 (by decide) rfl (fun z => ?_) (fun z => ?_)
  · refine v_goto C0 1492 dL_law_432 (by decide) ?_
    exact v_sub (lv' := [(4, .int (nI i)), (3, .ref o), (2, .ref (bd 0)), (1, .ref (ad 0)), (0, .ref b)]) [2, 3, 4, 5, 6] rfl (kk wx' wy' TH g' hw)
  · have eg := hg z
    refine v_aload_n C0 (pc' := 421) 3 rfl rfl dL_law_420 rfl ?_
    refine v_iconst C0 (pc' := 422) 0 (by decide) dL_law_421 rfl ?_
    refine v_lald C0 hK (pc' := 423) 0 1 rfl rfl vin01 dL_law_422 rfl ?_
    refine v_iload C0 (pc' := 425) 0 rfl dL_law_423 rfl ?_
    refine v_i2l C0 (pc' := 426) dL_law_425 rfl ?_
    refine v_lcmp C0 (pc' := 427) dL_law_426 rfl ?_
    refine v_if_eq C0 432 (pc' := 430) dL_law_427 (by decide) rfl (fun _ => ?_) (fun z2 => absurd (by rw [eg]; exact lg_self _) z2)
    refine v_goto C0 1492 dL_law_432 (by decide) ?_
    exact v_sub (lv' := [(4, .int (nI i)), (3, .ref o), (2, .ref (bd 0)), (1, .ref (ad 0)), (0, .ref b)]) [2, 3, 4, 5, 6] rfl (kk wx' wy' TH g' hw)
set_option maxHeartbeats 2000000 in
set_option maxRecDepth 100000 in
theorem law_pull {p : Program} {l : Launch} {e : Env} {s : State} {m : MethodId} {args : Array Value} {below : List Frame} {meth : Method} {c : Code} {D : va_G} {A : Nat → Prop} {k n : Nat} {Q : State → Prop} {cI cJ : ClassId} {ad bd : Nat → Nat} {b L o i : Nat} {xs : Nat → Int32} {wx wy : va_W} {t0 : Int32} {g : Nat → Int64} (h0 : LH p l m c s args D A cI cJ b L xs) (h : WP cI ad bd wx wy t0) (hi : i + 5 < L) (hk : k + 1 ≤ 1059) (hn : n + 6 ≤ 9105) (kk : ∀ (wx' wy' : va_W) (t' : Int32) (g' : Nat → Int64), WP cI ad bd wx' wy' t' → V p l e room_1 s m args below meth c D A 7 (k + 1) (n + 6) Q (oC cJ o g' :: (wx' ++ wy')) [(4, .int (nI i)), (3, .ref o), (2, .ref (bd 0)), (1, .ref (ad 0)), (0, .ref b)] 1492 []) : V p l e room_1 s m args below meth c D A 7 k n Q (oC cJ o g :: (wx ++ wy)) [(4, .int (nI i)), (3, .ref o), (2, .ref (bd 0)), (1, .ref (ad 0)), (0, .ref b)] 435 [] := by
  obtain ⟨C0, hst, hK, hA, hEN, hX, hbl, hbA, hL⟩ := h0
  have hK1 : va_K D vwCl (TI cI) s := hK.sub [0] rfl
  obtain ⟨fy, hy0⟩ := h.y0
  obtain ⟨wx', wy', r, TH, g', hw, hy, hE, hg⟩ := u_pull (cJ := cJ) l hst D h o g (xs (i + 1)) (xs (i + 2))
  obtain ⟨fy1, hy1⟩ := hw.y0
  refine v_aload_n C0 (pc' := 436) 3 rfl rfl dL_law_435 rfl ?_
  refine v_scr C0 hX hbl hbA (i := i) (a := 1) (pc' := 442) (by omega) hL (by decide) 4 0 rfl rfl dL_law_436 dL_law_437 dL_law_439 dL_law_440 dL_law_441 rfl ?_
  refine v_scr C0 hX hbl hbA (i := i) (a := 2) (pc' := 448) (by omega) hL (by decide) 4 0 rfl rfl dL_law_442 dL_law_443 dL_law_445 dL_law_446 dL_law_447 rfl ?_
  refine v_aload_n C0 (pc' := 449) 1 rfl rfl dL_law_448 rfl ?_
  refine v_callSE C0 (av := [.ref (ad 0), .int (xs (i + 1)), .int (xs (i + 2)), .ref o]) (rest := []) (ws' := oC cJ o g' :: (wx' ++ wy)) (pc' := 452) hK hA hEN hE (vx_cwSW 4 C0.2.2.2.2 gL_law_L_pull rfl rfl rfl (by decide +kernel) ⟨Nat.le_of_ble_eq_true rfl, Nat.le_of_ble_eq_true rfl⟩) (PLs.lf (W0 := oC cJ o g :: wx) (W1 := oC cJ o g' :: wx') (R := wy)) rfl rfl (Nat.le_of_ble_eq_true rfl) ⟨hk, hn⟩ dL_law_449 rfl ?_
  refine v_istore C0 (lv' := [(5, .int TH), (4, .int (nI i)), (3, .ref o), (2, .ref (bd 0)), (1, .ref (ad 0)), (0, .ref b)]) (pc' := 454) (by decide) rfl dL_law_452 rfl ?_
  refine v_aload_n C0 (pc' := 455) 3 rfl rfl dL_law_454 rfl ?_
  refine v_scr C0 hX hbl hbA (i := i) (a := 1) (pc' := 461) (by omega) hL (by decide) 5 1 rfl rfl dL_law_455 dL_law_456 dL_law_458 dL_law_459 dL_law_460 rfl ?_
  refine v_scr C0 hX hbl hbA (i := i) (a := 2) (pc' := 467) (by omega) hL (by decide) 5 1 rfl rfl dL_law_461 dL_law_462 dL_law_464 dL_law_465 dL_law_466 rfl ?_
  refine v_callVi0 C0 (av := [.int (xs (i + 1)), .int (xs (i + 2))]) (rest := []) (ws' := oC cJ o g' :: (wx' ++ wy')) (pc' := 470) hK1 hA hy (cwV 2 C0.2.2.2.2 gL_law_X1_pull rfl rfl rfl (by decide +kernel) ⟨Nat.le_of_ble_eq_true rfl, Nat.le_of_ble_eq_true rfl⟩) ⟨_, 1, _, _, _, rfl, ap_r (A := oC cJ o g' :: wx') hy0⟩ (PLs.rt (P := oC cJ o g' :: wx')) rfl rfl (Nat.le_of_ble_eq_true rfl) ⟨hk, hn⟩ dL_law_467 rfl ?_
  refine v_istore C0 (lv' := [(6, .int r), (5, .int TH), (4, .int (nI i)), (3, .ref o), (2, .ref (bd 0)), (1, .ref (ad 0)), (0, .ref b)]) (pc' := 472) (by decide) rfl dL_law_470 rfl ?_
  refine v_aload_n C0 (pc' := 473) 4 rfl rfl dL_law_472 rfl ?_
  refine v_callVi0 C0 (av := []) (rest := []) (ws' := oC cJ o g' :: (wx' ++ wy')) (pc' := 476) hK1 hA (hw.th l D) (cwV 0 C0.2.2.2.2 gL_law_X1_thrown rfl rfl rfl (by decide +kernel) ⟨Nat.le_of_ble_eq_true rfl, Nat.le_of_ble_eq_true rfl⟩) ⟨_, 1, _, _, _, rfl, ap_r (A := oC cJ o g' :: wx') hy1⟩ (PLs.rt (P := oC cJ o g' :: wx')) rfl rfl (Nat.le_of_ble_eq_true rfl) ⟨hk, hn⟩ dL_law_473 rfl ?_
  refine v_iload C0 (pc' := 478) 1 rfl dL_law_476 rfl ?_
  refine v_icmp_eq C0 483 (pc' := 481) dL_law_478 (by decide) rfl (fun _ => ?_) (fun z => absurd rfl z)
  refine v_iload C0 (pc' := 485) 1 rfl dL_law_483 rfl ?_
  refine v_if_ne C0 500 (pc' := 488) dL_law_485 (by decide) rfl (fun z => ?_) (fun z => ?_)
  · refine v_goto C0 1492 dL_law_500 (by decide) ?_
    exact v_sub (lv' := [(4, .int (nI i)), (3, .ref o), (2, .ref (bd 0)), (1, .ref (ad 0)), (0, .ref b)]) [2, 3, 4, 5, 6] rfl (kk wx' wy' TH g' hw)
  · have eg := hg z
    refine v_aload_n C0 (pc' := 489) 3 rfl rfl dL_law_488 rfl ?_
    refine v_iconst C0 (pc' := 490) 0 (by decide) dL_law_489 rfl ?_
    refine v_lald C0 hK (pc' := 491) 0 1 rfl rfl vin01 dL_law_490 rfl ?_
    refine v_iload C0 (pc' := 493) 0 rfl dL_law_491 rfl ?_
    refine v_i2l C0 (pc' := 494) dL_law_493 rfl ?_
    refine v_lcmp C0 (pc' := 495) dL_law_494 rfl ?_
    refine v_if_eq C0 500 (pc' := 498) dL_law_495 (by decide) rfl (fun _ => ?_) (fun z2 => absurd (by rw [eg]; exact lg_self _) z2)
    refine v_goto C0 1492 dL_law_500 (by decide) ?_
    exact v_sub (lv' := [(4, .int (nI i)), (3, .ref o), (2, .ref (bd 0)), (1, .ref (ad 0)), (0, .ref b)]) [2, 3, 4, 5, 6] rfl (kk wx' wy' TH g' hw)
set_option maxHeartbeats 2000000 in
set_option maxRecDepth 100000 in
theorem law_tree {p : Program} {l : Launch} {e : Env} {s : State} {m : MethodId} {args : Array Value} {below : List Frame} {meth : Method} {c : Code} {D : va_G} {A : Nat → Prop} {k n : Nat} {Q : State → Prop} {cI cJ : ClassId} {ad bd : Nat → Nat} {b L o i : Nat} {xs : Nat → Int32} {wx wy : va_W} {t0 : Int32} {g : Nat → Int64} (h0 : LH p l m c s args D A cI cJ b L xs) (h : WP cI ad bd wx wy t0) (hi : i + 5 < L) (hk : k + 1 ≤ 1059) (hn : n + 6 ≤ 9105) (kk : ∀ (wx' wy' : va_W) (t' : Int32) (g' : Nat → Int64), WP cI ad bd wx' wy' t' → V p l e room_1 s m args below meth c D A 7 (k + 1) (n + 6) Q (oC cJ o g' :: (wx' ++ wy')) [(4, .int (nI i)), (3, .ref o), (2, .ref (bd 0)), (1, .ref (ad 0)), (0, .ref b)] 1492 []) : V p l e room_1 s m args below meth c D A 7 k n Q (oC cJ o g :: (wx ++ wy)) [(4, .int (nI i)), (3, .ref o), (2, .ref (bd 0)), (1, .ref (ad 0)), (0, .ref b)] 503 [] := by
  obtain ⟨C0, hst, hK, hA, hEN, hX, hbl, hbA, hL⟩ := h0
  have hK1 : va_K D vwCl (TI cI) s := hK.sub [0] rfl
  obtain ⟨fy, hy0⟩ := h.y0
  obtain ⟨wx', wy', r, hw, hy, hx⟩ := q_tree l D h (bb (xs (i + 1))) (bb01 _)
  obtain ⟨fy1, hy1⟩ := hw.y0
  refine v_aload_n C0 (pc' := 504) 3 rfl rfl dL_law_503 rfl ?_
  refine v_scr C0 hX hbl hbA (i := i) (a := 1) (pc' := 510) (by omega) hL (by decide) 4 0 rfl rfl dL_law_504 dL_law_505 dL_law_507 dL_law_508 dL_law_509 rfl ?_
  refine v_nz C0 517 518 dL_law_510 (by decide) dL_law_513 dL_law_514 (by decide) dL_law_517 rfl ?_
  obtain ⟨fx, hx0⟩ := h.x0
  refine v_callVi0 C0 (av := [.int (bb (xs (i + 1)))]) (rest := []) (ws' := oC cJ o g :: (wx' ++ wy)) (pc' := 521) hK1 hA hx (cwV 1 C0.2.2.2.2 gL_law_X0_tree rfl rfl rfl (by decide +kernel) ⟨Nat.le_of_ble_eq_true rfl, Nat.le_of_ble_eq_true rfl⟩) ⟨1, 0, _, _, _, rfl, gx1 (ap_l hx0)⟩ (PLs.mid (P := [oC cJ o g])) rfl rfl (Nat.le_of_ble_eq_true rfl) ⟨Nat.le_trans (Nat.le_succ _) hk, Nat.le_trans (Nat.le_add_right _ 6) hn⟩ dL_law_518 rfl ?_
  refine v_aload_n C0 (pc' := 522) 2 rfl rfl dL_law_521 rfl ?_
  refine v_scr C0 hX hbl hbA (i := i) (a := 1) (pc' := 528) (by omega) hL (by decide) 4 0 rfl rfl dL_law_522 dL_law_523 dL_law_525 dL_law_526 dL_law_527 rfl ?_
  refine v_nz C0 535 536 dL_law_528 (by decide) dL_law_531 dL_law_532 (by decide) dL_law_535 rfl ?_
  refine v_callVi0 C0 (av := [.int (bb (xs (i + 1)))]) (rest := [.int r]) (ws' := oC cJ o g :: (wx' ++ wy')) (pc' := 539) hK1 hA hy (cwV 1 C0.2.2.2.2 gL_law_X1_tree rfl rfl rfl (by decide +kernel) ⟨Nat.le_of_ble_eq_true rfl, Nat.le_of_ble_eq_true rfl⟩) ⟨_, 1, _, _, _, rfl, ap_r (A := oC cJ o g :: wx') hy0⟩ (PLs.rt (P := oC cJ o g :: wx')) rfl rfl (Nat.le_of_ble_eq_true rfl) ⟨Nat.le_trans (Nat.le_succ _) hk, Nat.le_trans (Nat.le_add_right _ 6) hn⟩ dL_law_536 rfl ?_
  refine v_icmp_eq C0 1492 (pc' := 542) dL_law_539 (by decide) rfl (fun _ => ?_) (fun z => absurd rfl z)
  refine v_widen (k2 := k + 1) (n2 := n + 6) (Nat.le_succ _) (Nat.le_add_right _ 6) ?_
  exact kk wx' wy' 0 g hw
