/-! THE LAW'S TURNS, by their kinds -/
def LH (p : Program) (l : Launch) (m : MethodId) (c : Code) (s : State) (args : Array Value) (D : va_G) (A : Nat → Prop) (cI : ClassId) (b L : Nat) (xs : Nat → Int32) : Prop := CallFix p m c cL_law 19 s args wsL_law RL ∧ l.stackTraces = false ∧ va_K D vwCl (TI cI) s ∧ (∀ q, s.heap.size ≤ q → A q) ∧ EN A s ∧ va_X b L xs s s.heap ∧ b < s.heap.size ∧ ¬ A b ∧ L ≤ 260
section VG
variable {p : Program} {l : Launch} {e : Env} {R : Room} {s : State} {m : MethodId} {args : Array Value} {below : List Frame} {meth : Method} {c : Code} {D : va_G} {A : Nat → Prop} {nL k n : Nat} {Q : State → Prop}
variable {cc : ByteArray} {Ts : List Cond} {own : String} {ws : va_W} {lv : List (Nat × Value)} {pc : Nat} {st : List Value}
theorem v_if_gtN (C0 : CallFix p m c cc nL s args Ts own) {x : Nat} {off : Int} (tgt : Nat) {pc' : Nat} (hx : x < 2 ^ 31) (hdg : decode cc pc = .ok (.ifCond .gt off, 3)) (ht : (pc : Int) + off = (tgt : Int)) (hn : pc + 3 = pc') (kt : ¬ x = 0 → V p l e R s m args below meth c D A nL k n Q ws lv tgt (st)) (kf : x = 0 → V p l e R s m args below meth c D A nL k n Q ws lv pc' (st)) : V p l e R s m args below meth c D A nL k n Q ws lv pc (.int (nI x) :: st) := v_if_gt C0 tgt hdg ht hn (fun z => kt (fun y => by rw [y] at z; exact absurd z (by decide))) (fun z => kf ((nI_le0 hx).mp (Int32.not_lt.mp z)))
end VG
set_option maxHeartbeats 4000000 in
set_option maxRecDepth 100000 in
theorem law_untag {p : Program} {l : Launch} {e : Env} {s : State} {m : MethodId} {args : Array Value} {below : List Frame} {meth : Method} {c : Code} {D : va_G} {A : Nat → Prop} {k n : Nat} {Q : State → Prop} {cI : ClassId} {ad : Nat → Nat} {b na ua ta fa ca ba L : Nat} {xs : Nat → Int32} {xu xt xf xc xb xn : Nat → Nat} {wx : va_W} (h0 : LH p l m c s args D A cI b L xs) (h : LIs xu xt xf xc xb xn) (hw : WQ cI ad xu xt xf xc xb xn wx) {i y a w la : Nat} (hy : y ≤ 119304647) (ha : a < 36) (hwo : w < 36) (hla1 : 1 ≤ la) (hla : la < 16) (hk : k + 1 ≤ 765924) (hnn : n + 6 ≤ 6803927) (kk : ∀ (xu' xt' xf' xc' xb' xn' : Nat → Nat) (wx' : va_W), LIs xu' xt' xf' xc' xb' xn' → WQ cI ad xu' xt' xf' xc' xb' xn' wx' → V p l e room_1 s m args below meth c D A 19 (k + 1) (n + 6) Q ([(ba, .inl (cI, 36, .inl (nA xb'))), (ca, .inl (cI, 36, .inl (nA xc'))), (fa, .inl (cI, 36, .inl (nA xf'))), (ta, .inl (cI, 36, .inl (nA xt'))), (ua, .inl (cI, 36, .inl (nA xu'))), (na, .inl (cI, 2, .inl (nA xn')))] ++ wx') [(8, .int (nI 1)), (9, .int (nI i)), (12, .int (nI y)), (0, .ref b), (1, .ref (ad 0)), (2, .ref na), (3, .ref ua), (4, .ref ta), (5, .ref fa), (6, .ref ca), (7, .ref ba)] 893 []) : V p l e room_1 s m args below meth c D A 19 k n Q ([(ba, .inl (cI, 36, .inl (nA xb))), (ca, .inl (cI, 36, .inl (nA xc))), (fa, .inl (cI, 36, .inl (nA xf))), (ta, .inl (cI, 36, .inl (nA xt))), (ua, .inl (cI, 36, .inl (nA xu))), (na, .inl (cI, 2, .inl (nA xn)))] ++ wx) [(15, .int (nI la)), (14, .int (nI w)), (13, .int (nI a)), (12, .int (nI y)), (9, .int (nI i)), (8, .int (nI 1)), (0, .ref b), (1, .ref (ad 0)), (2, .ref na), (3, .ref ua), (4, .ref ta), (5, .ref fa), (6, .ref ca), (7, .ref ba)] 197 [] := by
  obtain ⟨C0, hst, hK, hA, hEN, hX, hbl, hbA, hL⟩ := id h0
  obtain ⟨hu, ht, hf, hc, hb, hn, hn1, hG, hS, hct⟩ := id h
  have hn31 : ∀ k, xn k < 2 ^ 31 := fun k => Nat.lt_of_le_of_lt (hn k) (by decide)
  suffices J_z : ∀ z : Nat, z ≤ 15 → V p l e room_1 s m args below meth c D A 19 k n Q ([(ba, .inl (cI, 36, .inl (nA xb))), (ca, .inl (cI, 36, .inl (nA xc))), (fa, .inl (cI, 36, .inl (nA xf))), (ta, .inl (cI, 36, .inl (nA xt))), (ua, .inl (cI, 36, .inl (nA xu))), (na, .inl (cI, 2, .inl (nA xn)))] ++ wx) [(15, .int (nI la)), (14, .int (nI w)), (13, .int (nI a)), (12, .int (nI y)), (9, .int (nI i)), (8, .int (nI 1)), (0, .ref b), (1, .ref (ad 0)), (2, .ref na), (3, .ref ua), (4, .ref ta), (5, .ref fa), (6, .ref ca), (7, .ref ba)] 211 [.int (nI z)] by
    refine v_iload C0 (pc' := 199) 3 rfl dL_law_197 rfl ?_
    refine v_bipush C0 (pc' := 201) (nI 7) (by decide +kernel) dL_law_199 rfl ?_
    refine v_iremN C0 (pc' := 202) (by omega) (by decide) (by decide) dL_law_201 rfl ?_
    refine v_if_neN C0 209 (pc' := 205) (by omega) dL_law_202 (by decide) rfl (fun h1 => ?_) (fun h1 => ?_)
    · refine v_iload C0 (pc' := 211) 0 rfl dL_law_209 rfl ?_
      exact J_z la (by omega)
    · refine v_iconst C0 (pc' := 206) (nI 0) (by decide +kernel) dL_law_205 rfl ?_
      refine v_goto C0 211 dL_law_206 (by decide) ?_
      exact J_z 0 (by omega)
  intro z h_z
  refine v_istore C0 (lv' := [(16, .int (nI z)), (15, .int (nI la)), (14, .int (nI w)), (13, .int (nI a)), (12, .int (nI y)), (9, .int (nI i)), (8, .int (nI 1)), (0, .ref b), (1, .ref (ad 0)), (2, .ref na), (3, .ref ua), (4, .ref ta), (5, .ref fa), (6, .ref ca), (7, .ref ba)]) (pc' := 213) (by decide) rfl dL_law_211 rfl ?_
  by_cases h2 : xt a / 2 ^ z % 2 = 0
  · refine v_aload C0 (pc' := 215) 11 rfl dL_law_213 rfl ?_
    refine v_iload C0 (pc' := 217) 3 rfl dL_law_215 rfl ?_
    refine v_ialdN C0 hK (pc' := 218) 3 0 rfl rfl (by omega) (by decide) dL_law_217 rfl ?_
    refine v_iload C0 (pc' := 220) 0 rfl dL_law_218 rfl ?_
    refine v_ishrN C0 (pc' := 221) (by have := ht a; omega) (by omega) dL_law_220 rfl ?_
    refine v_iconst C0 (pc' := 222) (nI 1) (by decide +kernel) dL_law_221 rfl ?_
    refine v_iand1 C0 (pc' := 223) dL_law_222 rfl ?_
    refine v_if_neN C0 230 (pc' := 226) (by have := ht a; omega) dL_law_223 (by decide) rfl (fun h3 => ?_) (fun h3 => ?_)
    · exact absurd h2 h3
    · refine v_iconst C0 (pc' := 227) (nI 1) (by decide +kernel) dL_law_226 rfl ?_
      refine v_goto C0 231 dL_law_227 (by decide) ?_
      refine v_istore C0 (lv' := [(17, .int (nI 1)), (16, .int (nI z)), (15, .int (nI la)), (14, .int (nI w)), (13, .int (nI a)), (12, .int (nI y)), (9, .int (nI i)), (8, .int (nI 1)), (0, .ref b), (1, .ref (ad 0)), (2, .ref na), (3, .ref ua), (4, .ref ta), (5, .ref fa), (6, .ref ca), (7, .ref ba)]) (pc' := 233) (by decide) rfl dL_law_231 rfl ?_
      refine v_aload_n C0 (pc' := 234) 9 rfl rfl dL_law_233 rfl ?_
      refine v_iconst C0 (pc' := 235) (nI 0) (by decide +kernel) dL_law_234 rfl ?_
      refine v_iload C0 (pc' := 237) 4 rfl dL_law_235 rfl ?_
      refine v_bipush C0 (pc' := 239) (nI 6) (by decide +kernel) dL_law_237 rfl ?_
      refine v_idivN C0 (pc' := 240) (by omega) (by decide) (by decide) dL_law_239 rfl ?_
      refine v_iload C0 (pc' := 242) 4 rfl dL_law_240 rfl ?_
      refine v_bipush C0 (pc' := 244) (nI 6) (by decide +kernel) dL_law_242 rfl ?_
      refine v_iremN C0 (pc' := 245) (by omega) (by decide) (by decide) dL_law_244 rfl ?_
      refine v_iload C0 (pc' := 247) 1 rfl dL_law_245 rfl ?_
      obtain ⟨hl1, w1, hw1, c1⟩ := (e_untag l D hst h hw (k := a) (x := z) ha h_z).1 h2
      refine v_callSE C0 (av := [.ref (ad 0), .int (nI 0), .int (nI (a / 6)), .int (nI (a % 6)), .int (nI z)]) (rest := []) (ws' := [(ba, .inl (cI, 36, .inl (nA xb))), (ca, .inl (cI, 36, .inl (nA xc))), (fa, .inl (cI, 36, .inl (nA xf))), (ta, .inl (cI, 36, .inl (nA xt))), (ua, .inl (cI, 36, .inl (nA xu))), (na, .inl (cI, 2, .inl (nA xn)))] ++ w1) (pc' := 250) hK hA hEN c1 (vx_cwSW 5 C0.2.2.2.2 gL_law_L_does rfl rfl rfl (by decide +kernel) ⟨Nat.le_of_ble_eq_true rfl, Nat.le_of_ble_eq_true rfl⟩) (PLs.rt (P := [(ba, .inl (cI, 36, .inl (nA xb))), (ca, .inl (cI, 36, .inl (nA xc))), (fa, .inl (cI, 36, .inl (nA xf))), (ta, .inl (cI, 36, .inl (nA xt))), (ua, .inl (cI, 36, .inl (nA xu))), (na, .inl (cI, 2, .inl (nA xn)))])) rfl rfl (Nat.le_of_ble_eq_true rfl) ⟨(by show k + 1 ≤ 765924; omega), (by show n + 6 ≤ 6803927; omega)⟩ dL_law_247 rfl ?_
      refine v_iload C0 (pc' := 252) 0 rfl dL_law_250 rfl ?_
      refine v_if_eqN C0 262 (pc' := 255) (by omega) dL_law_252 (by decide) rfl (fun h4 => ?_) (fun h4 => ?_)
      · exact absurd h4 (by decide)
      · refine v_aload_n C0 (pc' := 256) 11 rfl rfl dL_law_255 rfl ?_
        refine v_iload C0 (pc' := 258) 4 rfl dL_law_256 rfl ?_
        refine v_ialdN C0 hK (pc' := 259) 4 0 rfl rfl (by omega) (by decide) dL_law_258 rfl ?_
        refine v_goto C0 264 dL_law_259 (by decide) ?_
        refine v_icmp_ne C0 271 (pc' := 267) dL_law_264 (by decide) rfl (fun h5 => absurd rfl h5) (fun _ => ?_)
        refine v_iconst C0 (pc' := 268) (nI 1) (by decide +kernel) dL_law_267 rfl ?_
        refine v_goto C0 272 dL_law_268 (by decide) ?_
        refine v_istore C0 (lv' := [(8, .int (nI 1)), (17, .int (nI 1)), (16, .int (nI z)), (15, .int (nI la)), (14, .int (nI w)), (13, .int (nI a)), (12, .int (nI y)), (9, .int (nI i)), (0, .ref b), (1, .ref (ad 0)), (2, .ref na), (3, .ref ua), (4, .ref ta), (5, .ref fa), (6, .ref ca), (7, .ref ba)]) (pc' := 274) (by decide) rfl dL_law_272 rfl ?_
        refine v_aload_n C0 (pc' := 275) 11 rfl rfl dL_law_274 rfl ?_
        refine v_iload C0 (pc' := 277) 5 rfl dL_law_275 rfl ?_
        refine v_iload C0 (pc' := 279) 1 rfl dL_law_277 rfl ?_
        refine v_if_eqN C0 287 (pc' := 282) (by omega) dL_law_279 (by decide) rfl (fun h6 => ?_) (fun h6 => ?_)
        · exact absurd h6 (by decide)
        · refine v_iload C0 (pc' := 284) 2 rfl dL_law_282 rfl ?_
          refine v_goto C0 291 dL_law_284 (by decide) ?_
          refine v_iastN C0 hK (ws' := [(ba, .inl (cI, 36, .inl (nA xb))), (ca, .inl (cI, 36, .inl (nA xc))), (fa, .inl (cI, 36, .inl (nA xf))), (ta, .inl (cI, 36, .inl (nA xt))), (ua, .inl (cI, 36, .inl (nA (updN xu a z)))), (na, .inl (cI, 2, .inl (nA xn)))] ++ w1) (pc' := 292) 4 0 rfl rfl rfl (by omega) (by decide) dL_law_291 rfl ?_
          refine v_goto C0 893 dL_law_292 (by decide) ?_
          exact v_sub (lv' := [(8, .int (nI 1)), (9, .int (nI i)), (12, .int (nI y)), (0, .ref b), (1, .ref (ad 0)), (2, .ref na), (3, .ref ua), (4, .ref ta), (5, .ref fa), (6, .ref ca), (7, .ref ba)]) [0, 7, 6, 8, 9, 10, 11, 12, 13, 14, 15] rfl (kk (updN xu a z) xt xf xc xb xn w1 hl1 hw1)
  · refine v_aload C0 (pc' := 215) 11 rfl dL_law_213 rfl ?_
    refine v_iload C0 (pc' := 217) 3 rfl dL_law_215 rfl ?_
    refine v_ialdN C0 hK (pc' := 218) 3 0 rfl rfl (by omega) (by decide) dL_law_217 rfl ?_
    refine v_iload C0 (pc' := 220) 0 rfl dL_law_218 rfl ?_
    refine v_ishrN C0 (pc' := 221) (by have := ht a; omega) (by omega) dL_law_220 rfl ?_
    refine v_iconst C0 (pc' := 222) (nI 1) (by decide +kernel) dL_law_221 rfl ?_
    refine v_iand1 C0 (pc' := 223) dL_law_222 rfl ?_
    refine v_if_neN C0 230 (pc' := 226) (by have := ht a; omega) dL_law_223 (by decide) rfl (fun h7 => ?_) (fun h7 => ?_)
    · refine v_iconst C0 (pc' := 231) (nI 0) (by decide +kernel) dL_law_230 rfl ?_
      refine v_istore C0 (lv' := [(17, .int (nI 0)), (16, .int (nI z)), (15, .int (nI la)), (14, .int (nI w)), (13, .int (nI a)), (12, .int (nI y)), (9, .int (nI i)), (8, .int (nI 1)), (0, .ref b), (1, .ref (ad 0)), (2, .ref na), (3, .ref ua), (4, .ref ta), (5, .ref fa), (6, .ref ca), (7, .ref ba)]) (pc' := 233) (by decide) rfl dL_law_231 rfl ?_
      refine v_aload_n C0 (pc' := 234) 9 rfl rfl dL_law_233 rfl ?_
      refine v_iconst C0 (pc' := 235) (nI 0) (by decide +kernel) dL_law_234 rfl ?_
      refine v_iload C0 (pc' := 237) 4 rfl dL_law_235 rfl ?_
      refine v_bipush C0 (pc' := 239) (nI 6) (by decide +kernel) dL_law_237 rfl ?_
      refine v_idivN C0 (pc' := 240) (by omega) (by decide) (by decide) dL_law_239 rfl ?_
      refine v_iload C0 (pc' := 242) 4 rfl dL_law_240 rfl ?_
      refine v_bipush C0 (pc' := 244) (nI 6) (by decide +kernel) dL_law_242 rfl ?_
      refine v_iremN C0 (pc' := 245) (by omega) (by decide) (by decide) dL_law_244 rfl ?_
      refine v_iload C0 (pc' := 247) 1 rfl dL_law_245 rfl ?_
      have c1 := (e_untag l D hst h hw (k := a) (x := z) ha h_z).2 h2
      refine v_callSE C0 (av := [.ref (ad 0), .int (nI 0), .int (nI (a / 6)), .int (nI (a % 6)), .int (nI z)]) (rest := []) (ws' := [(ba, .inl (cI, 36, .inl (nA xb))), (ca, .inl (cI, 36, .inl (nA xc))), (fa, .inl (cI, 36, .inl (nA xf))), (ta, .inl (cI, 36, .inl (nA xt))), (ua, .inl (cI, 36, .inl (nA xu))), (na, .inl (cI, 2, .inl (nA xn)))] ++ wx) (pc' := 250) hK hA hEN c1 (vx_cwSW 5 C0.2.2.2.2 gL_law_L_does rfl rfl rfl (by decide +kernel) ⟨Nat.le_of_ble_eq_true rfl, Nat.le_of_ble_eq_true rfl⟩) (PLs.rt (P := [(ba, .inl (cI, 36, .inl (nA xb))), (ca, .inl (cI, 36, .inl (nA xc))), (fa, .inl (cI, 36, .inl (nA xf))), (ta, .inl (cI, 36, .inl (nA xt))), (ua, .inl (cI, 36, .inl (nA xu))), (na, .inl (cI, 2, .inl (nA xn)))])) rfl rfl (Nat.le_of_ble_eq_true rfl) ⟨(by show k + 1 ≤ 765924; omega), (by show n + 6 ≤ 6803927; omega)⟩ dL_law_247 rfl ?_
      refine v_iload C0 (pc' := 252) 0 rfl dL_law_250 rfl ?_
      refine v_if_eqN C0 262 (pc' := 255) (by omega) dL_law_252 (by decide) rfl (fun h8 => ?_) (fun h8 => ?_)
      · refine v_bipush C0 (pc' := 264) (-13) (by decide) dL_law_262 rfl ?_
        refine v_icmp_ne C0 271 (pc' := 267) dL_law_264 (by decide) rfl (fun h9 => ?_) (fun h9 => ?_)
        · exact absurd (by decide) h9
        · refine v_iconst C0 (pc' := 268) (nI 1) (by decide +kernel) dL_law_267 rfl ?_
          refine v_goto C0 272 dL_law_268 (by decide) ?_
          refine v_istore C0 (lv' := [(8, .int (nI 1)), (17, .int (nI 0)), (16, .int (nI z)), (15, .int (nI la)), (14, .int (nI w)), (13, .int (nI a)), (12, .int (nI y)), (9, .int (nI i)), (0, .ref b), (1, .ref (ad 0)), (2, .ref na), (3, .ref ua), (4, .ref ta), (5, .ref fa), (6, .ref ca), (7, .ref ba)]) (pc' := 274) (by decide) rfl dL_law_272 rfl ?_
          refine v_aload_n C0 (pc' := 275) 11 rfl rfl dL_law_274 rfl ?_
          refine v_iload C0 (pc' := 277) 5 rfl dL_law_275 rfl ?_
          refine v_iload C0 (pc' := 279) 1 rfl dL_law_277 rfl ?_
          refine v_if_eqN C0 287 (pc' := 282) (by omega) dL_law_279 (by decide) rfl (fun h10 => ?_) (fun h10 => ?_)
          · refine v_aload_n C0 (pc' := 288) 11 rfl rfl dL_law_287 rfl ?_
            refine v_iload C0 (pc' := 290) 5 rfl dL_law_288 rfl ?_
            refine v_ialdN C0 hK (pc' := 291) 4 0 rfl rfl (by omega) (by decide) dL_law_290 rfl ?_
            refine v_iastN C0 hK (ws' := [(ba, .inl (cI, 36, .inl (nA xb))), (ca, .inl (cI, 36, .inl (nA xc))), (fa, .inl (cI, 36, .inl (nA xf))), (ta, .inl (cI, 36, .inl (nA xt))), (ua, .inl (cI, 36, .inl (nA (updN xu a (xu a))))), (na, .inl (cI, 2, .inl (nA xn)))] ++ wx) (pc' := 292) 4 0 rfl rfl rfl (by omega) (by decide) dL_law_291 rfl ?_
            refine v_world (ws' := [(ba, .inl (cI, 36, .inl (nA xb))), (ca, .inl (cI, 36, .inl (nA xc))), (fa, .inl (cI, 36, .inl (nA xf))), (ta, .inl (cI, 36, .inl (nA xt))), (ua, .inl (cI, 36, .inl (nA xu))), (na, .inl (cI, 2, .inl (nA xn)))] ++ wx) (by rw [updN_self]) ?_
            refine v_goto C0 893 dL_law_292 (by decide) ?_
            exact v_sub (lv' := [(8, .int (nI 1)), (9, .int (nI i)), (12, .int (nI y)), (0, .ref b), (1, .ref (ad 0)), (2, .ref na), (3, .ref ua), (4, .ref ta), (5, .ref fa), (6, .ref ca), (7, .ref ba)]) [0, 7, 6, 8, 9, 10, 11, 12, 13, 14, 15] rfl (kk xu xt xf xc xb xn wx h hw)
          · exact absurd (by decide) h10
      · exact absurd (by decide) h8
    · exact absurd h7 h2
set_option maxHeartbeats 4000000 in
set_option maxRecDepth 100000 in
theorem law_tag {p : Program} {l : Launch} {e : Env} {s : State} {m : MethodId} {args : Array Value} {below : List Frame} {meth : Method} {c : Code} {D : va_G} {A : Nat → Prop} {k n : Nat} {Q : State → Prop} {cI : ClassId} {ad : Nat → Nat} {b na ua ta fa ca ba L : Nat} {xs : Nat → Int32} {xu xt xf xc xb xn : Nat → Nat} {wx : va_W} (h0 : LH p l m c s args D A cI b L xs) (h : LIs xu xt xf xc xb xn) (hw : WQ cI ad xu xt xf xc xb xn wx) {i y a w la : Nat} (hy : y ≤ 119304647) (ha : a < 36) (hwo : w < 36) (hla1 : 1 ≤ la) (hla : la < 16) (hk : k + 1 ≤ 765924) (hnn : n + 6 ≤ 6803927) (kk : ∀ (xu' xt' xf' xc' xb' xn' : Nat → Nat) (wx' : va_W), LIs xu' xt' xf' xc' xb' xn' → WQ cI ad xu' xt' xf' xc' xb' xn' wx' → V p l e room_1 s m args below meth c D A 19 (k + 1) (n + 6) Q ([(ba, .inl (cI, 36, .inl (nA xb'))), (ca, .inl (cI, 36, .inl (nA xc'))), (fa, .inl (cI, 36, .inl (nA xf'))), (ta, .inl (cI, 36, .inl (nA xt'))), (ua, .inl (cI, 36, .inl (nA xu'))), (na, .inl (cI, 2, .inl (nA xn')))] ++ wx') [(8, .int (nI 1)), (9, .int (nI i)), (12, .int (nI y)), (0, .ref b), (1, .ref (ad 0)), (2, .ref na), (3, .ref ua), (4, .ref ta), (5, .ref fa), (6, .ref ca), (7, .ref ba)] 893 []) : V p l e room_1 s m args below meth c D A 19 k n Q ([(ba, .inl (cI, 36, .inl (nA xb))), (ca, .inl (cI, 36, .inl (nA xc))), (fa, .inl (cI, 36, .inl (nA xf))), (ta, .inl (cI, 36, .inl (nA xt))), (ua, .inl (cI, 36, .inl (nA xu))), (na, .inl (cI, 2, .inl (nA xn)))] ++ wx) [(15, .int (nI la)), (14, .int (nI w)), (13, .int (nI a)), (12, .int (nI y)), (9, .int (nI i)), (8, .int (nI 1)), (0, .ref b), (1, .ref (ad 0)), (2, .ref na), (3, .ref ua), (4, .ref ta), (5, .ref fa), (6, .ref ca), (7, .ref ba)] 302 [] := by
  obtain ⟨C0, hst, hK, hA, hEN, hX, hbl, hbA, hL⟩ := id h0
  obtain ⟨hu, ht, hf, hc, hb, hn, hn1, hG, hS, hct⟩ := id h
  have hn31 : ∀ k, xn k < 2 ^ 31 := fun k => Nat.lt_of_le_of_lt (hn k) (by decide)
  refine v_iload C0 (pc' := 304) 3 rfl dL_law_302 rfl ?_
  refine v_iconst C0 (pc' := 305) (nI 5) (by decide +kernel) dL_law_304 rfl ?_
  refine v_iremN C0 (pc' := 306) (by omega) (by decide) (by decide) dL_law_305 rfl ?_
  refine v_if_leN C0 313 (pc' := 309) (by omega) dL_law_306 (by decide) rfl (fun h1 => ?_) (fun h1 => ?_)
  · refine v_iconst C0 (pc' := 314) (nI 0) (by decide +kernel) dL_law_313 rfl ?_
    refine v_istore C0 (lv' := [(16, .int (nI 0)), (15, .int (nI la)), (14, .int (nI w)), (13, .int (nI a)), (12, .int (nI y)), (9, .int (nI i)), (8, .int (nI 1)), (0, .ref b), (1, .ref (ad 0)), (2, .ref na), (3, .ref ua), (4, .ref ta), (5, .ref fa), (6, .ref ca), (7, .ref ba)]) (pc' := 316) (by decide) rfl dL_law_314 rfl ?_
    refine v_aload C0 (pc' := 318) 11 rfl dL_law_316 rfl ?_
    refine v_iload C0 (pc' := 320) 3 rfl dL_law_318 rfl ?_
    refine v_ialdN C0 hK (pc' := 321) 3 0 rfl rfl (by omega) (by decide) dL_law_320 rfl ?_
    refine v_iload C0 (pc' := 323) 1 rfl dL_law_321 rfl ?_
    refine v_ishrN C0 (pc' := 324) (by have := ht a; omega) (by omega) dL_law_323 rfl ?_
    refine v_iconst C0 (pc' := 325) (nI 1) (by decide +kernel) dL_law_324 rfl ?_
    refine v_iand1 C0 (pc' := 326) dL_law_325 rfl ?_
    refine v_istore C0 (lv' := [(17, .int (nI (((xt a) / 2 ^ la) % 2))), (16, .int (nI 0)), (15, .int (nI la)), (14, .int (nI w)), (13, .int (nI a)), (12, .int (nI y)), (9, .int (nI i)), (8, .int (nI 1)), (0, .ref b), (1, .ref (ad 0)), (2, .ref na), (3, .ref ua), (4, .ref ta), (5, .ref fa), (6, .ref ca), (7, .ref ba)]) (pc' := 328) (by decide) rfl dL_law_326 rfl ?_
    refine v_iload C0 (pc' := 330) 1 rfl dL_law_328 rfl ?_
    refine v_if_eqN C0 342 (pc' := 333) (by omega) dL_law_330 (by decide) rfl (fun h2 => ?_) (fun h2 => ?_)
    · refine v_iconst C0 (pc' := 343) (nI 1) (by decide +kernel) dL_law_342 rfl ?_
      refine v_goto C0 347 dL_law_343 (by decide) ?_
      refine v_istore C0 (lv' := [(18, .int (nI 1)), (17, .int (nI (((xt a) / 2 ^ la) % 2))), (16, .int (nI 0)), (15, .int (nI la)), (14, .int (nI w)), (13, .int (nI a)), (12, .int (nI y)), (9, .int (nI i)), (8, .int (nI 1)), (0, .ref b), (1, .ref (ad 0)), (2, .ref na), (3, .ref ua), (4, .ref ta), (5, .ref fa), (6, .ref ca), (7, .ref ba)]) (pc' := 349) (by decide) rfl dL_law_347 rfl ?_
      refine v_aload_n C0 (pc' := 350) 10 rfl rfl dL_law_349 rfl ?_
      refine v_iload C0 (pc' := 352) 5 rfl dL_law_350 rfl ?_
      refine v_bipush C0 (pc' := 354) (nI 6) (by decide +kernel) dL_law_352 rfl ?_
      refine v_idivN C0 (pc' := 355) (by omega) (by decide) (by decide) dL_law_354 rfl ?_
      refine v_iload C0 (pc' := 357) 5 rfl dL_law_355 rfl ?_
      refine v_bipush C0 (pc' := 359) (nI 6) (by decide +kernel) dL_law_357 rfl ?_
      refine v_iremN C0 (pc' := 360) (by omega) (by decide) (by decide) dL_law_359 rfl ?_
      refine v_iload C0 (pc' := 362) 3 rfl dL_law_360 rfl ?_
      refine v_iload C0 (pc' := 364) 2 rfl dL_law_362 rfl ?_
      obtain ⟨hl1, w1, hw1, c1⟩ := e_tag0 l D h hw (k := a) (x := la) ha hla1 hla
      refine v_callSE C0 (av := [.ref (ad 0), .int (nI (a / 6)), .int (nI (a % 6)), .int (nI la), .int (nI 0)]) (rest := []) (ws' := [(ba, .inl (cI, 36, .inl (nA xb))), (ca, .inl (cI, 36, .inl (nA xc))), (fa, .inl (cI, 36, .inl (nA xf))), (ta, .inl (cI, 36, .inl (nA xt))), (ua, .inl (cI, 36, .inl (nA xu))), (na, .inl (cI, 2, .inl (nA xn)))] ++ w1) (pc' := 367) hK hA hEN c1 (vx_cwSW 5 C0.2.2.2.2 gL_law_L_tags rfl rfl rfl (by decide +kernel) ⟨Nat.le_of_ble_eq_true rfl, Nat.le_of_ble_eq_true rfl⟩) (PLs.rt (P := [(ba, .inl (cI, 36, .inl (nA xb))), (ca, .inl (cI, 36, .inl (nA xc))), (fa, .inl (cI, 36, .inl (nA xf))), (ta, .inl (cI, 36, .inl (nA xt))), (ua, .inl (cI, 36, .inl (nA xu))), (na, .inl (cI, 2, .inl (nA xn)))])) rfl rfl (Nat.le_of_ble_eq_true rfl) ⟨(by show k + 1 ≤ 765924; omega), (by show n + 6 ≤ 6803927; omega)⟩ dL_law_364 rfl ?_
      refine v_iload C0 (pc' := 369) 0 rfl dL_law_367 rfl ?_
      refine v_if_eqN C0 377 (pc' := 372) (by omega) dL_law_369 (by decide) rfl (fun h3 => ?_) (fun h3 => ?_)
      · exact absurd h3 (by decide)
      · refine v_iload C0 (pc' := 374) 1 rfl dL_law_372 rfl ?_
        refine v_goto C0 379 dL_law_374 (by decide) ?_
        refine v_icmp_ne C0 386 (pc' := 382) dL_law_379 (by decide) rfl (fun h4 => absurd rfl h4) (fun _ => ?_)
        refine v_iconst C0 (pc' := 383) (nI 1) (by decide +kernel) dL_law_382 rfl ?_
        refine v_goto C0 387 dL_law_383 (by decide) ?_
        refine v_istore C0 (lv' := [(8, .int (nI 1)), (18, .int (nI 1)), (17, .int (nI (((xt a) / 2 ^ la) % 2))), (16, .int (nI 0)), (15, .int (nI la)), (14, .int (nI w)), (13, .int (nI a)), (12, .int (nI y)), (9, .int (nI i)), (0, .ref b), (1, .ref (ad 0)), (2, .ref na), (3, .ref ua), (4, .ref ta), (5, .ref fa), (6, .ref ca), (7, .ref ba)]) (pc' := 389) (by decide) rfl dL_law_387 rfl ?_
        refine v_aload C0 (pc' := 391) 13 rfl dL_law_389 rfl ?_
        refine v_iload C0 (pc' := 393) 6 rfl dL_law_391 rfl ?_
        refine v_iload C0 (pc' := 395) 1 rfl dL_law_393 rfl ?_
        refine v_if_neN C0 406 (pc' := 398) (by omega) dL_law_395 (by decide) rfl (fun h5 => ?_) (fun h5 => ?_)
        · refine v_iload C0 (pc' := 408) 3 rfl dL_law_406 rfl ?_
          refine v_if_eqN C0 424 (pc' := 411) (by omega) dL_law_408 (by decide) rfl (fun h6 => ?_) (fun h6 => ?_)
          · refine v_aload C0 (pc' := 426) 13 rfl dL_law_424 rfl ?_
            refine v_iload C0 (pc' := 428) 6 rfl dL_law_426 rfl ?_
            refine v_ialdN C0 hK (pc' := 429) 3 0 rfl rfl (by omega) (by decide) dL_law_428 rfl ?_
            refine v_iconst C0 (pc' := 430) (nI 1) (by decide +kernel) dL_law_429 rfl ?_
            refine v_iload C0 (pc' := 432) 4 rfl dL_law_430 rfl ?_
            refine v_ishlN C0 (pc' := 433) (by omega) dL_law_432 rfl ?_
            refine v_iconst C0 (pc' := 434) (-1) (by decide) dL_law_433 rfl ?_
            refine v_ixorM C0 (pc' := 435) dL_law_434 rfl ?_
            refine v_iandN C0 (pc' := 436) dL_law_435 rfl ?_
            refine v_iastN C0 hK (ws' := [(ba, .inl (cI, 36, .inl (nA xb))), (ca, .inl (cI, 36, .inl (nA xc))), (fa, .inl (cI, 36, .inl (nA xf))), (ta, .inl (cI, 36, .inl (nA (updN xt a ((xt a) &&& ((2 ^ la) ^^^ 4294967295)))))), (ua, .inl (cI, 36, .inl (nA xu))), (na, .inl (cI, 2, .inl (nA xn)))] ++ w1) (pc' := 437) 3 0 rfl rfl rfl (by omega) (by decide) dL_law_436 rfl ?_
            refine v_goto C0 893 dL_law_437 (by decide) ?_
            exact v_sub (lv' := [(8, .int (nI 1)), (9, .int (nI i)), (12, .int (nI y)), (0, .ref b), (1, .ref (ad 0)), (2, .ref na), (3, .ref ua), (4, .ref ta), (5, .ref fa), (6, .ref ca), (7, .ref ba)]) [0, 8, 7, 9, 10, 11, 12, 13, 14, 15, 16] rfl (kk xu (updN xt a ((xt a) &&& ((2 ^ la) ^^^ 4294967295))) xf xc xb xn w1 hl1 hw1)
          · exact absurd (by decide) h6
        · exact absurd h5 (by decide)
    · exact absurd (by decide) h2
  · refine v_iconst C0 (pc' := 310) (nI 1) (by decide +kernel) dL_law_309 rfl ?_
    refine v_goto C0 314 dL_law_310 (by decide) ?_
    refine v_istore C0 (lv' := [(16, .int (nI 1)), (15, .int (nI la)), (14, .int (nI w)), (13, .int (nI a)), (12, .int (nI y)), (9, .int (nI i)), (8, .int (nI 1)), (0, .ref b), (1, .ref (ad 0)), (2, .ref na), (3, .ref ua), (4, .ref ta), (5, .ref fa), (6, .ref ca), (7, .ref ba)]) (pc' := 316) (by decide) rfl dL_law_314 rfl ?_
    refine v_aload C0 (pc' := 318) 11 rfl dL_law_316 rfl ?_
    refine v_iload C0 (pc' := 320) 3 rfl dL_law_318 rfl ?_
    refine v_ialdN C0 hK (pc' := 321) 3 0 rfl rfl (by omega) (by decide) dL_law_320 rfl ?_
    refine v_iload C0 (pc' := 323) 1 rfl dL_law_321 rfl ?_
    refine v_ishrN C0 (pc' := 324) (by have := ht a; omega) (by omega) dL_law_323 rfl ?_
    refine v_iconst C0 (pc' := 325) (nI 1) (by decide +kernel) dL_law_324 rfl ?_
    refine v_iand1 C0 (pc' := 326) dL_law_325 rfl ?_
    refine v_istore C0 (lv' := [(17, .int (nI (((xt a) / 2 ^ la) % 2))), (16, .int (nI 1)), (15, .int (nI la)), (14, .int (nI w)), (13, .int (nI a)), (12, .int (nI y)), (9, .int (nI i)), (8, .int (nI 1)), (0, .ref b), (1, .ref (ad 0)), (2, .ref na), (3, .ref ua), (4, .ref ta), (5, .ref fa), (6, .ref ca), (7, .ref ba)]) (pc' := 328) (by decide) rfl dL_law_326 rfl ?_
    refine v_iload C0 (pc' := 330) 1 rfl dL_law_328 rfl ?_
    refine v_if_eqN C0 342 (pc' := 333) (by omega) dL_law_330 (by decide) rfl (fun h7 => ?_) (fun h7 => ?_)
    · exact absurd h7 (by decide)
    · refine v_aload_n C0 (pc' := 334) 11 rfl rfl dL_law_333 rfl ?_
      refine v_iload C0 (pc' := 336) 4 rfl dL_law_334 rfl ?_
      refine v_ialdN C0 hK (pc' := 337) 4 0 rfl rfl (by omega) (by decide) dL_law_336 rfl ?_
      refine v_iload C0 (pc' := 339) 2 rfl dL_law_337 rfl ?_
      refine v_icmp_eqN C0 346 (pc' := 342) (by have := hu a; omega) (by omega) dL_law_339 (by decide) rfl (fun h8 => ?_) (fun h8 => ?_)
      · refine v_iconst C0 (pc' := 347) (nI 0) (by decide +kernel) dL_law_346 rfl ?_
        refine v_istore C0 (lv' := [(18, .int (nI 0)), (17, .int (nI (((xt a) / 2 ^ la) % 2))), (16, .int (nI 1)), (15, .int (nI la)), (14, .int (nI w)), (13, .int (nI a)), (12, .int (nI y)), (9, .int (nI i)), (8, .int (nI 1)), (0, .ref b), (1, .ref (ad 0)), (2, .ref na), (3, .ref ua), (4, .ref ta), (5, .ref fa), (6, .ref ca), (7, .ref ba)]) (pc' := 349) (by decide) rfl dL_law_347 rfl ?_
        refine v_aload_n C0 (pc' := 350) 10 rfl rfl dL_law_349 rfl ?_
        refine v_iload C0 (pc' := 352) 5 rfl dL_law_350 rfl ?_
        refine v_bipush C0 (pc' := 354) (nI 6) (by decide +kernel) dL_law_352 rfl ?_
        refine v_idivN C0 (pc' := 355) (by omega) (by decide) (by decide) dL_law_354 rfl ?_
        refine v_iload C0 (pc' := 357) 5 rfl dL_law_355 rfl ?_
        refine v_bipush C0 (pc' := 359) (nI 6) (by decide +kernel) dL_law_357 rfl ?_
        refine v_iremN C0 (pc' := 360) (by omega) (by decide) (by decide) dL_law_359 rfl ?_
        refine v_iload C0 (pc' := 362) 3 rfl dL_law_360 rfl ?_
        refine v_iload C0 (pc' := 364) 2 rfl dL_law_362 rfl ?_
        have c1 := (e_tag1 l D hst h hw (k := a) (x := la) ha hla1 hla).2 h8
        refine v_callSE C0 (av := [.ref (ad 0), .int (nI (a / 6)), .int (nI (a % 6)), .int (nI la), .int (nI 1)]) (rest := []) (ws' := [(ba, .inl (cI, 36, .inl (nA xb))), (ca, .inl (cI, 36, .inl (nA xc))), (fa, .inl (cI, 36, .inl (nA xf))), (ta, .inl (cI, 36, .inl (nA xt))), (ua, .inl (cI, 36, .inl (nA xu))), (na, .inl (cI, 2, .inl (nA xn)))] ++ wx) (pc' := 367) hK hA hEN c1 (vx_cwSW 5 C0.2.2.2.2 gL_law_L_tags rfl rfl rfl (by decide +kernel) ⟨Nat.le_of_ble_eq_true rfl, Nat.le_of_ble_eq_true rfl⟩) (PLs.rt (P := [(ba, .inl (cI, 36, .inl (nA xb))), (ca, .inl (cI, 36, .inl (nA xc))), (fa, .inl (cI, 36, .inl (nA xf))), (ta, .inl (cI, 36, .inl (nA xt))), (ua, .inl (cI, 36, .inl (nA xu))), (na, .inl (cI, 2, .inl (nA xn)))])) rfl rfl (Nat.le_of_ble_eq_true rfl) ⟨(by show k + 1 ≤ 765924; omega), (by show n + 6 ≤ 6803927; omega)⟩ dL_law_364 rfl ?_
        refine v_iload C0 (pc' := 369) 0 rfl dL_law_367 rfl ?_
        refine v_if_eqN C0 377 (pc' := 372) (by omega) dL_law_369 (by decide) rfl (fun h9 => ?_) (fun h9 => ?_)
        · refine v_bipush C0 (pc' := 379) (-13) (by decide) dL_law_377 rfl ?_
          refine v_icmp_ne C0 386 (pc' := 382) dL_law_379 (by decide) rfl (fun h10 => ?_) (fun h10 => ?_)
          · exact absurd (by decide) h10
          · refine v_iconst C0 (pc' := 383) (nI 1) (by decide +kernel) dL_law_382 rfl ?_
            refine v_goto C0 387 dL_law_383 (by decide) ?_
            refine v_istore C0 (lv' := [(8, .int (nI 1)), (18, .int (nI 0)), (17, .int (nI (((xt a) / 2 ^ la) % 2))), (16, .int (nI 1)), (15, .int (nI la)), (14, .int (nI w)), (13, .int (nI a)), (12, .int (nI y)), (9, .int (nI i)), (0, .ref b), (1, .ref (ad 0)), (2, .ref na), (3, .ref ua), (4, .ref ta), (5, .ref fa), (6, .ref ca), (7, .ref ba)]) (pc' := 389) (by decide) rfl dL_law_387 rfl ?_
            refine v_aload C0 (pc' := 391) 13 rfl dL_law_389 rfl ?_
            refine v_iload C0 (pc' := 393) 6 rfl dL_law_391 rfl ?_
            refine v_iload C0 (pc' := 395) 1 rfl dL_law_393 rfl ?_
            refine v_if_neN C0 406 (pc' := 398) (by omega) dL_law_395 (by decide) rfl (fun h11 => ?_) (fun h11 => ?_)
            · exact absurd (by decide) h11
            · refine v_aload C0 (pc' := 400) 13 rfl dL_law_398 rfl ?_
              refine v_iload C0 (pc' := 402) 6 rfl dL_law_400 rfl ?_
              refine v_ialdN C0 hK (pc' := 403) 3 0 rfl rfl (by omega) (by decide) dL_law_402 rfl ?_
              refine v_goto C0 436 dL_law_403 (by decide) ?_
              refine v_iastN C0 hK (ws' := [(ba, .inl (cI, 36, .inl (nA xb))), (ca, .inl (cI, 36, .inl (nA xc))), (fa, .inl (cI, 36, .inl (nA xf))), (ta, .inl (cI, 36, .inl (nA (updN xt a (xt a))))), (ua, .inl (cI, 36, .inl (nA xu))), (na, .inl (cI, 2, .inl (nA xn)))] ++ wx) (pc' := 437) 3 0 rfl rfl rfl (by omega) (by decide) dL_law_436 rfl ?_
              refine v_world (ws' := [(ba, .inl (cI, 36, .inl (nA xb))), (ca, .inl (cI, 36, .inl (nA xc))), (fa, .inl (cI, 36, .inl (nA xf))), (ta, .inl (cI, 36, .inl (nA xt))), (ua, .inl (cI, 36, .inl (nA xu))), (na, .inl (cI, 2, .inl (nA xn)))] ++ wx) (by rw [updN_self]) ?_
              refine v_goto C0 893 dL_law_437 (by decide) ?_
              exact v_sub (lv' := [(8, .int (nI 1)), (9, .int (nI i)), (12, .int (nI y)), (0, .ref b), (1, .ref (ad 0)), (2, .ref na), (3, .ref ua), (4, .ref ta), (5, .ref fa), (6, .ref ca), (7, .ref ba)]) [0, 8, 7, 9, 10, 11, 12, 13, 14, 15, 16] rfl (kk xu xt xf xc xb xn wx h hw)
        · exact absurd (by decide) h9
      · refine v_iconst C0 (pc' := 343) (nI 1) (by decide +kernel) dL_law_342 rfl ?_
        refine v_goto C0 347 dL_law_343 (by decide) ?_
        refine v_istore C0 (lv' := [(18, .int (nI 1)), (17, .int (nI (((xt a) / 2 ^ la) % 2))), (16, .int (nI 1)), (15, .int (nI la)), (14, .int (nI w)), (13, .int (nI a)), (12, .int (nI y)), (9, .int (nI i)), (8, .int (nI 1)), (0, .ref b), (1, .ref (ad 0)), (2, .ref na), (3, .ref ua), (4, .ref ta), (5, .ref fa), (6, .ref ca), (7, .ref ba)]) (pc' := 349) (by decide) rfl dL_law_347 rfl ?_
        refine v_aload_n C0 (pc' := 350) 10 rfl rfl dL_law_349 rfl ?_
        refine v_iload C0 (pc' := 352) 5 rfl dL_law_350 rfl ?_
        refine v_bipush C0 (pc' := 354) (nI 6) (by decide +kernel) dL_law_352 rfl ?_
        refine v_idivN C0 (pc' := 355) (by omega) (by decide) (by decide) dL_law_354 rfl ?_
        refine v_iload C0 (pc' := 357) 5 rfl dL_law_355 rfl ?_
        refine v_bipush C0 (pc' := 359) (nI 6) (by decide +kernel) dL_law_357 rfl ?_
        refine v_iremN C0 (pc' := 360) (by omega) (by decide) (by decide) dL_law_359 rfl ?_
        refine v_iload C0 (pc' := 362) 3 rfl dL_law_360 rfl ?_
        refine v_iload C0 (pc' := 364) 2 rfl dL_law_362 rfl ?_
        obtain ⟨hl1, w1, hw1, c1⟩ := (e_tag1 l D hst h hw (k := a) (x := la) ha hla1 hla).1 h8
        refine v_callSE C0 (av := [.ref (ad 0), .int (nI (a / 6)), .int (nI (a % 6)), .int (nI la), .int (nI 1)]) (rest := []) (ws' := [(ba, .inl (cI, 36, .inl (nA xb))), (ca, .inl (cI, 36, .inl (nA xc))), (fa, .inl (cI, 36, .inl (nA xf))), (ta, .inl (cI, 36, .inl (nA xt))), (ua, .inl (cI, 36, .inl (nA xu))), (na, .inl (cI, 2, .inl (nA xn)))] ++ w1) (pc' := 367) hK hA hEN c1 (vx_cwSW 5 C0.2.2.2.2 gL_law_L_tags rfl rfl rfl (by decide +kernel) ⟨Nat.le_of_ble_eq_true rfl, Nat.le_of_ble_eq_true rfl⟩) (PLs.rt (P := [(ba, .inl (cI, 36, .inl (nA xb))), (ca, .inl (cI, 36, .inl (nA xc))), (fa, .inl (cI, 36, .inl (nA xf))), (ta, .inl (cI, 36, .inl (nA xt))), (ua, .inl (cI, 36, .inl (nA xu))), (na, .inl (cI, 2, .inl (nA xn)))])) rfl rfl (Nat.le_of_ble_eq_true rfl) ⟨(by show k + 1 ≤ 765924; omega), (by show n + 6 ≤ 6803927; omega)⟩ dL_law_364 rfl ?_
        refine v_iload C0 (pc' := 369) 0 rfl dL_law_367 rfl ?_
        refine v_if_eqN C0 377 (pc' := 372) (by omega) dL_law_369 (by decide) rfl (fun h12 => ?_) (fun h12 => ?_)
        · exact absurd h12 (by decide)
        · refine v_iload C0 (pc' := 374) 1 rfl dL_law_372 rfl ?_
          refine v_goto C0 379 dL_law_374 (by decide) ?_
          refine v_icmp_ne C0 386 (pc' := 382) dL_law_379 (by decide) rfl (fun h13 => absurd rfl h13) (fun _ => ?_)
          refine v_iconst C0 (pc' := 383) (nI 1) (by decide +kernel) dL_law_382 rfl ?_
          refine v_goto C0 387 dL_law_383 (by decide) ?_
          refine v_istore C0 (lv' := [(8, .int (nI 1)), (18, .int (nI 1)), (17, .int (nI (((xt a) / 2 ^ la) % 2))), (16, .int (nI 1)), (15, .int (nI la)), (14, .int (nI w)), (13, .int (nI a)), (12, .int (nI y)), (9, .int (nI i)), (0, .ref b), (1, .ref (ad 0)), (2, .ref na), (3, .ref ua), (4, .ref ta), (5, .ref fa), (6, .ref ca), (7, .ref ba)]) (pc' := 389) (by decide) rfl dL_law_387 rfl ?_
          refine v_aload C0 (pc' := 391) 13 rfl dL_law_389 rfl ?_
          refine v_iload C0 (pc' := 393) 6 rfl dL_law_391 rfl ?_
          refine v_iload C0 (pc' := 395) 1 rfl dL_law_393 rfl ?_
          refine v_if_neN C0 406 (pc' := 398) (by omega) dL_law_395 (by decide) rfl (fun h14 => ?_) (fun h14 => ?_)
          · refine v_iload C0 (pc' := 408) 3 rfl dL_law_406 rfl ?_
            refine v_if_eqN C0 424 (pc' := 411) (by omega) dL_law_408 (by decide) rfl (fun h15 => ?_) (fun h15 => ?_)
            · exact absurd h15 (by decide)
            · refine v_aload C0 (pc' := 413) 13 rfl dL_law_411 rfl ?_
              refine v_iload C0 (pc' := 415) 6 rfl dL_law_413 rfl ?_
              refine v_ialdN C0 hK (pc' := 416) 3 0 rfl rfl (by omega) (by decide) dL_law_415 rfl ?_
              refine v_iconst C0 (pc' := 417) (nI 1) (by decide +kernel) dL_law_416 rfl ?_
              refine v_iload C0 (pc' := 419) 4 rfl dL_law_417 rfl ?_
              refine v_ishlN C0 (pc' := 420) (by omega) dL_law_419 rfl ?_
              refine v_iorN C0 (pc' := 421) dL_law_420 rfl ?_
              refine v_goto C0 436 dL_law_421 (by decide) ?_
              refine v_iastN C0 hK (ws' := [(ba, .inl (cI, 36, .inl (nA xb))), (ca, .inl (cI, 36, .inl (nA xc))), (fa, .inl (cI, 36, .inl (nA xf))), (ta, .inl (cI, 36, .inl (nA (updN xt a ((xt a) ||| (2 ^ la)))))), (ua, .inl (cI, 36, .inl (nA xu))), (na, .inl (cI, 2, .inl (nA xn)))] ++ w1) (pc' := 437) 3 0 rfl rfl rfl (by omega) (by decide) dL_law_436 rfl ?_
              refine v_goto C0 893 dL_law_437 (by decide) ?_
              exact v_sub (lv' := [(8, .int (nI 1)), (9, .int (nI i)), (12, .int (nI y)), (0, .ref b), (1, .ref (ad 0)), (2, .ref na), (3, .ref ua), (4, .ref ta), (5, .ref fa), (6, .ref ca), (7, .ref ba)]) [0, 8, 7, 9, 10, 11, 12, 13, 14, 15, 16] rfl (kk xu (updN xt a ((xt a) ||| (2 ^ la))) xf xc xb xn w1 hl1 hw1)
          · exact absurd h14 (by decide)
set_option maxHeartbeats 4000000 in
set_option maxRecDepth 100000 in
theorem law_cable {p : Program} {l : Launch} {e : Env} {s : State} {m : MethodId} {args : Array Value} {below : List Frame} {meth : Method} {c : Code} {D : va_G} {A : Nat → Prop} {k n : Nat} {Q : State → Prop} {cI : ClassId} {ad : Nat → Nat} {b na ua ta fa ca ba L : Nat} {xs : Nat → Int32} {xu xt xf xc xb xn : Nat → Nat} {wx : va_W} (h0 : LH p l m c s args D A cI b L xs) (h : LIs xu xt xf xc xb xn) (hw : WQ cI ad xu xt xf xc xb xn wx) {i y a w la : Nat} (hy : y ≤ 119304647) (ha : a < 36) (hwo : w < 36) (hla1 : 1 ≤ la) (hla : la < 16) (hk : k + 1 ≤ 765924) (hnn : n + 6 ≤ 6803927) (kk : ∀ (xu' xt' xf' xc' xb' xn' : Nat → Nat) (wx' : va_W), LIs xu' xt' xf' xc' xb' xn' → WQ cI ad xu' xt' xf' xc' xb' xn' wx' → V p l e room_1 s m args below meth c D A 19 (k + 1) (n + 6) Q ([(ba, .inl (cI, 36, .inl (nA xb'))), (ca, .inl (cI, 36, .inl (nA xc'))), (fa, .inl (cI, 36, .inl (nA xf'))), (ta, .inl (cI, 36, .inl (nA xt'))), (ua, .inl (cI, 36, .inl (nA xu'))), (na, .inl (cI, 2, .inl (nA xn')))] ++ wx') [(8, .int (nI 1)), (9, .int (nI i)), (12, .int (nI y)), (0, .ref b), (1, .ref (ad 0)), (2, .ref na), (3, .ref ua), (4, .ref ta), (5, .ref fa), (6, .ref ca), (7, .ref ba)] 893 []) : V p l e room_1 s m args below meth c D A 19 k n Q ([(ba, .inl (cI, 36, .inl (nA xb))), (ca, .inl (cI, 36, .inl (nA xc))), (fa, .inl (cI, 36, .inl (nA xf))), (ta, .inl (cI, 36, .inl (nA xt))), (ua, .inl (cI, 36, .inl (nA xu))), (na, .inl (cI, 2, .inl (nA xn)))] ++ wx) [(15, .int (nI la)), (14, .int (nI w)), (13, .int (nI a)), (12, .int (nI y)), (9, .int (nI i)), (8, .int (nI 1)), (0, .ref b), (1, .ref (ad 0)), (2, .ref na), (3, .ref ua), (4, .ref ta), (5, .ref fa), (6, .ref ca), (7, .ref ba)] 447 [] := by
  obtain ⟨C0, hst, hK, hA, hEN, hX, hbl, hbA, hL⟩ := id h0
  obtain ⟨hu, ht, hf, hc, hb, hn, hn1, hG, hS, hct⟩ := id h
  have hn31 : ∀ k, xn k < 2 ^ 31 := fun k => Nat.lt_of_le_of_lt (hn k) (by decide)
  suffices J_q : ∀ q : Nat, 1 ≤ q ∧ q ≤ 20 → V p l e room_1 s m args below meth c D A 19 k n Q ([(ba, .inl (cI, 36, .inl (nA xb))), (ca, .inl (cI, 36, .inl (nA xc))), (fa, .inl (cI, 36, .inl (nA xf))), (ta, .inl (cI, 36, .inl (nA xt))), (ua, .inl (cI, 36, .inl (nA xu))), (na, .inl (cI, 2, .inl (nA xn)))] ++ wx) [(15, .int (nI la)), (14, .int (nI w)), (13, .int (nI a)), (12, .int (nI y)), (9, .int (nI i)), (8, .int (nI 1)), (0, .ref b), (1, .ref (ad 0)), (2, .ref na), (3, .ref ua), (4, .ref ta), (5, .ref fa), (6, .ref ca), (7, .ref ba)] 469 [.int (nI q)] by
    refine v_iconst C0 (pc' := 448) (nI 1) (by decide +kernel) dL_law_447 rfl ?_
    refine v_iload C0 (pc' := 450) 3 rfl dL_law_448 rfl ?_
    refine v_sipush C0 (pc' := 453) (nI 1296) (by decide +kernel) dL_law_450 rfl ?_
    refine v_idivN C0 (pc' := 454) (by omega) (by decide) (by decide) dL_law_453 rfl ?_
    refine v_iload C0 (pc' := 456) 3 rfl dL_law_454 rfl ?_
    refine v_iconst C0 (pc' := 457) (nI 2) (by decide +kernel) dL_law_456 rfl ?_
    refine v_iremN C0 (pc' := 458) (by omega) (by decide) (by decide) dL_law_457 rfl ?_
    refine v_if_neN C0 466 (pc' := 461) (by omega) dL_law_458 (by decide) rfl (fun h1 => ?_) (fun h1 => ?_)
    · refine v_iconst C0 (pc' := 467) (nI 3) (by decide +kernel) dL_law_466 rfl ?_
      refine v_iremN C0 (pc' := 468) (by omega) (by decide) (by decide) dL_law_467 rfl ?_
      refine v_iaddN C0 (pc' := 469) dL_law_468 rfl ?_
      exact J_q (1 + ((y / 1296) % 3)) (by omega)
    · refine v_bipush C0 (pc' := 463) (nI 20) (by decide +kernel) dL_law_461 rfl ?_
      refine v_goto C0 467 dL_law_463 (by decide) ?_
      refine v_iremN C0 (pc' := 468) (by omega) (by decide) (by decide) dL_law_467 rfl ?_
      refine v_iaddN C0 (pc' := 469) dL_law_468 rfl ?_
      exact J_q (1 + ((y / 1296) % 20)) (by omega)
  intro q h_q
  refine v_istore C0 (lv' := [(16, .int (nI q)), (15, .int (nI la)), (14, .int (nI w)), (13, .int (nI a)), (12, .int (nI y)), (9, .int (nI i)), (8, .int (nI 1)), (0, .ref b), (1, .ref (ad 0)), (2, .ref na), (3, .ref ua), (4, .ref ta), (5, .ref fa), (6, .ref ca), (7, .ref ba)]) (pc' := 471) (by decide) rfl dL_law_469 rfl ?_
  refine v_iload C0 (pc' := 473) 3 rfl dL_law_471 rfl ?_
  refine v_bipush C0 (pc' := 475) (nI 6) (by decide +kernel) dL_law_473 rfl ?_
  refine v_idivN C0 (pc' := 476) (by omega) (by decide) (by decide) dL_law_475 rfl ?_
  refine v_iload C0 (pc' := 478) 2 rfl dL_law_476 rfl ?_
  refine v_bipush C0 (pc' := 480) (nI 6) (by decide +kernel) dL_law_478 rfl ?_
  refine v_idivN C0 (pc' := 481) (by omega) (by decide) (by decide) dL_law_480 rfl ?_
  refine v_icmp_neN C0 489 (pc' := 484) (by omega) (by omega) dL_law_481 (by decide) rfl (fun h2 => ?_) (fun h2 => ?_)
  · refine v_aload C0 (pc' := 491) 12 rfl dL_law_489 rfl ?_
    refine v_iload C0 (pc' := 493) 3 rfl dL_law_491 rfl ?_
    refine v_ialdN C0 hK (pc' := 494) 2 0 rfl rfl (by omega) (by decide) dL_law_493 rfl ?_
    refine v_if_gtN C0 505 (pc' := 497) (by have := hf a; omega) dL_law_494 (by decide) rfl (fun h3 => ?_) (fun h3 => ?_)
    · refine v_bipush C0 (pc' := 507) (-13) (by decide) dL_law_505 rfl ?_
      refine v_goto C0 515 dL_law_507 (by decide) ?_
      refine v_istore C0 (lv' := [(17, .int (-13)), (16, .int (nI q)), (15, .int (nI la)), (14, .int (nI w)), (13, .int (nI a)), (12, .int (nI y)), (9, .int (nI i)), (8, .int (nI 1)), (0, .ref b), (1, .ref (ad 0)), (2, .ref na), (3, .ref ua), (4, .ref ta), (5, .ref fa), (6, .ref ca), (7, .ref ba)]) (pc' := 517) (by decide) rfl dL_law_515 rfl ?_
      refine v_iload C0 (pc' := 519) 0 rfl dL_law_517 rfl ?_
      refine v_if_le C0 561 (pc' := 522) dL_law_519 (by decide) rfl (fun h4 => ?_) (fun h4 => ?_)
      · refine v_aload_n C0 (pc' := 562) 9 rfl rfl dL_law_561 rfl ?_
        refine v_iload C0 (pc' := 564) 4 rfl dL_law_562 rfl ?_
        refine v_bipush C0 (pc' := 566) (nI 6) (by decide +kernel) dL_law_564 rfl ?_
        refine v_idivN C0 (pc' := 567) (by omega) (by decide) (by decide) dL_law_566 rfl ?_
        refine v_iload C0 (pc' := 569) 4 rfl dL_law_567 rfl ?_
        refine v_bipush C0 (pc' := 571) (nI 6) (by decide +kernel) dL_law_569 rfl ?_
        refine v_iremN C0 (pc' := 572) (by omega) (by decide) (by decide) dL_law_571 rfl ?_
        refine v_iload C0 (pc' := 574) 3 rfl dL_law_572 rfl ?_
        refine v_bipush C0 (pc' := 576) (nI 6) (by decide +kernel) dL_law_574 rfl ?_
        refine v_idivN C0 (pc' := 577) (by omega) (by decide) (by decide) dL_law_576 rfl ?_
        refine v_iload C0 (pc' := 579) 3 rfl dL_law_577 rfl ?_
        refine v_bipush C0 (pc' := 581) (nI 6) (by decide +kernel) dL_law_579 rfl ?_
        refine v_iremN C0 (pc' := 582) (by omega) (by decide) (by decide) dL_law_581 rfl ?_
        refine v_iload C0 (pc' := 584) 1 rfl dL_law_582 rfl ?_
        have c1 := (e_cable l D hst h hw (k := a) (j := w) (x := q) ha hwo h_q.1 h_q.2).2.1 h2 (fun z => h3 z.1)
        refine v_callSE C0 (av := [.ref (ad 0), .int (nI (a / 6)), .int (nI (a % 6)), .int (nI (w / 6)), .int (nI (w % 6)), .int (nI q)]) (rest := []) (ws' := [(ba, .inl (cI, 36, .inl (nA xb))), (ca, .inl (cI, 36, .inl (nA xc))), (fa, .inl (cI, 36, .inl (nA xf))), (ta, .inl (cI, 36, .inl (nA xt))), (ua, .inl (cI, 36, .inl (nA xu))), (na, .inl (cI, 2, .inl (nA xn)))] ++ wx) (pc' := 587) hK hA hEN c1 (vx_cwSW 6 C0.2.2.2.2 gL_law_L_cables rfl rfl rfl (by decide +kernel) ⟨Nat.le_of_ble_eq_true rfl, Nat.le_of_ble_eq_true rfl⟩) (PLs.rt (P := [(ba, .inl (cI, 36, .inl (nA xb))), (ca, .inl (cI, 36, .inl (nA xc))), (fa, .inl (cI, 36, .inl (nA xf))), (ta, .inl (cI, 36, .inl (nA xt))), (ua, .inl (cI, 36, .inl (nA xu))), (na, .inl (cI, 2, .inl (nA xn)))])) rfl rfl (Nat.le_of_ble_eq_true rfl) ⟨(by show k + 1 ≤ 765924; omega), (by show n + 6 ≤ 6803927; omega)⟩ dL_law_584 rfl ?_
        refine v_iload C0 (pc' := 589) 0 rfl dL_law_587 rfl ?_
        refine v_icmp_ne C0 596 (pc' := 592) dL_law_589 (by decide) rfl (fun h5 => ?_) (fun h5 => ?_)
        · exact absurd (by decide) h5
        · refine v_iconst C0 (pc' := 593) (nI 1) (by decide +kernel) dL_law_592 rfl ?_
          refine v_goto C0 597 dL_law_593 (by decide) ?_
          refine v_istore C0 (lv' := [(8, .int (nI 1)), (17, .int (-13)), (16, .int (nI q)), (15, .int (nI la)), (14, .int (nI w)), (13, .int (nI a)), (12, .int (nI y)), (9, .int (nI i)), (0, .ref b), (1, .ref (ad 0)), (2, .ref na), (3, .ref ua), (4, .ref ta), (5, .ref fa), (6, .ref ca), (7, .ref ba)]) (pc' := 599) (by decide) rfl dL_law_597 rfl ?_
          refine v_goto C0 893 dL_law_599 (by decide) ?_
          exact v_sub (lv' := [(8, .int (nI 1)), (9, .int (nI i)), (12, .int (nI y)), (0, .ref b), (1, .ref (ad 0)), (2, .ref na), (3, .ref ua), (4, .ref ta), (5, .ref fa), (6, .ref ca), (7, .ref ba)]) [0, 7, 6, 8, 9, 10, 11, 12, 13, 14, 15] rfl (kk xu xt xf xc xb xn wx h hw)
      · exact absurd (by decide) h4
    · refine v_aload C0 (pc' := 499) 12 rfl dL_law_497 rfl ?_
      refine v_iload C0 (pc' := 501) 2 rfl dL_law_499 rfl ?_
      refine v_ialdN C0 hK (pc' := 502) 2 0 rfl rfl (by omega) (by decide) dL_law_501 rfl ?_
      refine v_if_leN C0 510 (pc' := 505) (by have := hf w; omega) dL_law_502 (by decide) rfl (fun h6 => ?_) (fun h6 => ?_)
      · refine v_aload_n C0 (pc' := 511) 9 rfl rfl dL_law_510 rfl ?_
        refine v_iconst C0 (pc' := 512) (nI 0) (by decide +kernel) dL_law_511 rfl ?_
        refine v_ialdN C0 hK (pc' := 513) 5 0 rfl rfl (by omega) (by decide) dL_law_512 rfl ?_
        refine v_iconst C0 (pc' := 514) (nI 1) (by decide +kernel) dL_law_513 rfl ?_
        refine v_iaddN C0 (pc' := 515) dL_law_514 rfl ?_
        refine v_istore C0 (lv' := [(17, .int (nI ((xn 0) + 1))), (16, .int (nI q)), (15, .int (nI la)), (14, .int (nI w)), (13, .int (nI a)), (12, .int (nI y)), (9, .int (nI i)), (8, .int (nI 1)), (0, .ref b), (1, .ref (ad 0)), (2, .ref na), (3, .ref ua), (4, .ref ta), (5, .ref fa), (6, .ref ca), (7, .ref ba)]) (pc' := 517) (by decide) rfl dL_law_515 rfl ?_
        obtain ⟨hl1, hn0, w1, hw1, c1⟩ := (e_cable l D hst h hw (k := a) (j := w) (x := q) ha hwo h_q.1 h_q.2).2.2 h2 h3 h6
        refine v_iload C0 (pc' := 519) 0 rfl dL_law_517 rfl ?_
        refine v_if_leN C0 561 (pc' := 522) (by have := hn31 0; omega) dL_law_519 (by decide) rfl (fun h7 => ?_) (fun h7 => ?_)
        · exact absurd h7 (by omega)
        · refine v_aload C0 (pc' := 524) 13 rfl dL_law_522 rfl ?_
          refine v_iload C0 (pc' := 526) 4 rfl dL_law_524 rfl ?_
          refine v_iload C0 (pc' := 528) 3 rfl dL_law_526 rfl ?_
          refine v_iconst C0 (pc' := 529) (nI 1) (by decide +kernel) dL_law_528 rfl ?_
          refine v_iaddN C0 (pc' := 530) dL_law_529 rfl ?_
          refine v_iastN C0 hK (ws' := [(ba, .inl (cI, 36, .inl (nA xb))), (ca, .inl (cI, 36, .inl (nA xc))), (fa, .inl (cI, 36, .inl (nA (updN xf a (w + 1))))), (ta, .inl (cI, 36, .inl (nA xt))), (ua, .inl (cI, 36, .inl (nA xu))), (na, .inl (cI, 2, .inl (nA xn)))] ++ wx) (pc' := 531) 2 0 rfl rfl rfl (by omega) (by decide) dL_law_530 rfl ?_
          refine v_aload C0 (pc' := 533) 13 rfl dL_law_531 rfl ?_
          refine v_iload C0 (pc' := 535) 3 rfl dL_law_533 rfl ?_
          refine v_iload C0 (pc' := 537) 4 rfl dL_law_535 rfl ?_
          refine v_iconst C0 (pc' := 538) (nI 1) (by decide +kernel) dL_law_537 rfl ?_
          refine v_iaddN C0 (pc' := 539) dL_law_538 rfl ?_
          refine v_iastN C0 hK (ws' := [(ba, .inl (cI, 36, .inl (nA xb))), (ca, .inl (cI, 36, .inl (nA xc))), (fa, .inl (cI, 36, .inl (nA (updN (updN xf a (w + 1)) w (a + 1))))), (ta, .inl (cI, 36, .inl (nA xt))), (ua, .inl (cI, 36, .inl (nA xu))), (na, .inl (cI, 2, .inl (nA xn)))] ++ wx) (pc' := 540) 2 0 rfl rfl rfl (by omega) (by decide) dL_law_539 rfl ?_
          refine v_aload C0 (pc' := 542) 14 rfl dL_law_540 rfl ?_
          refine v_iload C0 (pc' := 544) 4 rfl dL_law_542 rfl ?_
          refine v_iload C0 (pc' := 546) 1 rfl dL_law_544 rfl ?_
          refine v_iastN C0 hK (ws' := [(ba, .inl (cI, 36, .inl (nA xb))), (ca, .inl (cI, 36, .inl (nA (updN xc a q)))), (fa, .inl (cI, 36, .inl (nA (updN (updN xf a (w + 1)) w (a + 1))))), (ta, .inl (cI, 36, .inl (nA xt))), (ua, .inl (cI, 36, .inl (nA xu))), (na, .inl (cI, 2, .inl (nA xn)))] ++ wx) (pc' := 547) 1 0 rfl rfl rfl (by omega) (by decide) dL_law_546 rfl ?_
          refine v_aload C0 (pc' := 549) 14 rfl dL_law_547 rfl ?_
          refine v_iload C0 (pc' := 551) 3 rfl dL_law_549 rfl ?_
          refine v_iload C0 (pc' := 553) 1 rfl dL_law_551 rfl ?_
          refine v_iastN C0 hK (ws' := [(ba, .inl (cI, 36, .inl (nA xb))), (ca, .inl (cI, 36, .inl (nA (updN (updN xc a q) w q)))), (fa, .inl (cI, 36, .inl (nA (updN (updN xf a (w + 1)) w (a + 1))))), (ta, .inl (cI, 36, .inl (nA xt))), (ua, .inl (cI, 36, .inl (nA xu))), (na, .inl (cI, 2, .inl (nA xn)))] ++ wx) (pc' := 554) 1 0 rfl rfl rfl (by omega) (by decide) dL_law_553 rfl ?_
          refine v_aload_n C0 (pc' := 555) 10 rfl rfl dL_law_554 rfl ?_
          refine v_iconst C0 (pc' := 556) (nI 0) (by decide +kernel) dL_law_555 rfl ?_
          refine v_dup2 C0 (pc' := 557) rfl rfl dL_law_556 rfl ?_
          refine v_ialdN C0 hK (pc' := 558) 5 0 rfl rfl (by omega) (by decide) dL_law_557 rfl ?_
          refine v_iconst C0 (pc' := 559) (nI 1) (by decide +kernel) dL_law_558 rfl ?_
          refine v_iaddN C0 (pc' := 560) dL_law_559 rfl ?_
          refine v_iastN C0 hK (ws' := [(ba, .inl (cI, 36, .inl (nA xb))), (ca, .inl (cI, 36, .inl (nA (updN (updN xc a q) w q)))), (fa, .inl (cI, 36, .inl (nA (updN (updN xf a (w + 1)) w (a + 1))))), (ta, .inl (cI, 36, .inl (nA xt))), (ua, .inl (cI, 36, .inl (nA xu))), (na, .inl (cI, 2, .inl (nA (updN xn 0 ((xn 0) + 1)))))] ++ wx) (pc' := 561) 5 0 rfl rfl rfl (by omega) (by decide) dL_law_560 rfl ?_
          refine v_aload_n C0 (pc' := 562) 9 rfl rfl dL_law_561 rfl ?_
          refine v_iload C0 (pc' := 564) 4 rfl dL_law_562 rfl ?_
          refine v_bipush C0 (pc' := 566) (nI 6) (by decide +kernel) dL_law_564 rfl ?_
          refine v_idivN C0 (pc' := 567) (by omega) (by decide) (by decide) dL_law_566 rfl ?_
          refine v_iload C0 (pc' := 569) 4 rfl dL_law_567 rfl ?_
          refine v_bipush C0 (pc' := 571) (nI 6) (by decide +kernel) dL_law_569 rfl ?_
          refine v_iremN C0 (pc' := 572) (by omega) (by decide) (by decide) dL_law_571 rfl ?_
          refine v_iload C0 (pc' := 574) 3 rfl dL_law_572 rfl ?_
          refine v_bipush C0 (pc' := 576) (nI 6) (by decide +kernel) dL_law_574 rfl ?_
          refine v_idivN C0 (pc' := 577) (by omega) (by decide) (by decide) dL_law_576 rfl ?_
          refine v_iload C0 (pc' := 579) 3 rfl dL_law_577 rfl ?_
          refine v_bipush C0 (pc' := 581) (nI 6) (by decide +kernel) dL_law_579 rfl ?_
          refine v_iremN C0 (pc' := 582) (by omega) (by decide) (by decide) dL_law_581 rfl ?_
          refine v_iload C0 (pc' := 584) 1 rfl dL_law_582 rfl ?_
          refine v_callSE C0 (av := [.ref (ad 0), .int (nI (a / 6)), .int (nI (a % 6)), .int (nI (w / 6)), .int (nI (w % 6)), .int (nI q)]) (rest := []) (ws' := [(ba, .inl (cI, 36, .inl (nA xb))), (ca, .inl (cI, 36, .inl (nA (updN (updN xc a q) w q)))), (fa, .inl (cI, 36, .inl (nA (updN (updN xf a (w + 1)) w (a + 1))))), (ta, .inl (cI, 36, .inl (nA xt))), (ua, .inl (cI, 36, .inl (nA xu))), (na, .inl (cI, 2, .inl (nA (updN xn 0 ((xn 0) + 1)))))] ++ w1) (pc' := 587) hK hA hEN c1 (vx_cwSW 6 C0.2.2.2.2 gL_law_L_cables rfl rfl rfl (by decide +kernel) ⟨Nat.le_of_ble_eq_true rfl, Nat.le_of_ble_eq_true rfl⟩) (PLs.rt (P := [(ba, .inl (cI, 36, .inl (nA xb))), (ca, .inl (cI, 36, .inl (nA (updN (updN xc a q) w q)))), (fa, .inl (cI, 36, .inl (nA (updN (updN xf a (w + 1)) w (a + 1))))), (ta, .inl (cI, 36, .inl (nA xt))), (ua, .inl (cI, 36, .inl (nA xu))), (na, .inl (cI, 2, .inl (nA (updN xn 0 ((xn 0) + 1)))))])) rfl rfl (Nat.le_of_ble_eq_true rfl) ⟨(by show k + 1 ≤ 765924; omega), (by show n + 6 ≤ 6803927; omega)⟩ dL_law_584 rfl ?_
          refine v_iload C0 (pc' := 589) 0 rfl dL_law_587 rfl ?_
          refine v_icmp_ne C0 596 (pc' := 592) dL_law_589 (by decide) rfl (fun h8 => absurd rfl h8) (fun _ => ?_)
          refine v_iconst C0 (pc' := 593) (nI 1) (by decide +kernel) dL_law_592 rfl ?_
          refine v_goto C0 597 dL_law_593 (by decide) ?_
          refine v_istore C0 (lv' := [(8, .int (nI 1)), (17, .int (nI ((xn 0) + 1))), (16, .int (nI q)), (15, .int (nI la)), (14, .int (nI w)), (13, .int (nI a)), (12, .int (nI y)), (9, .int (nI i)), (0, .ref b), (1, .ref (ad 0)), (2, .ref na), (3, .ref ua), (4, .ref ta), (5, .ref fa), (6, .ref ca), (7, .ref ba)]) (pc' := 599) (by decide) rfl dL_law_597 rfl ?_
          refine v_goto C0 893 dL_law_599 (by decide) ?_
          exact v_sub (lv' := [(8, .int (nI 1)), (9, .int (nI i)), (12, .int (nI y)), (0, .ref b), (1, .ref (ad 0)), (2, .ref na), (3, .ref ua), (4, .ref ta), (5, .ref fa), (6, .ref ca), (7, .ref ba)]) [0, 7, 6, 8, 9, 10, 11, 12, 13, 14, 15] rfl (kk xu xt (updN (updN xf a (w + 1)) w (a + 1)) (updN (updN xc a q) w q) xb (updN xn 0 ((xn 0) + 1)) w1 hl1 hw1)
      · refine v_bipush C0 (pc' := 507) (-13) (by decide) dL_law_505 rfl ?_
        refine v_goto C0 515 dL_law_507 (by decide) ?_
        refine v_istore C0 (lv' := [(17, .int (-13)), (16, .int (nI q)), (15, .int (nI la)), (14, .int (nI w)), (13, .int (nI a)), (12, .int (nI y)), (9, .int (nI i)), (8, .int (nI 1)), (0, .ref b), (1, .ref (ad 0)), (2, .ref na), (3, .ref ua), (4, .ref ta), (5, .ref fa), (6, .ref ca), (7, .ref ba)]) (pc' := 517) (by decide) rfl dL_law_515 rfl ?_
        refine v_iload C0 (pc' := 519) 0 rfl dL_law_517 rfl ?_
        refine v_if_le C0 561 (pc' := 522) dL_law_519 (by decide) rfl (fun h9 => ?_) (fun h9 => ?_)
        · refine v_aload_n C0 (pc' := 562) 9 rfl rfl dL_law_561 rfl ?_
          refine v_iload C0 (pc' := 564) 4 rfl dL_law_562 rfl ?_
          refine v_bipush C0 (pc' := 566) (nI 6) (by decide +kernel) dL_law_564 rfl ?_
          refine v_idivN C0 (pc' := 567) (by omega) (by decide) (by decide) dL_law_566 rfl ?_
          refine v_iload C0 (pc' := 569) 4 rfl dL_law_567 rfl ?_
          refine v_bipush C0 (pc' := 571) (nI 6) (by decide +kernel) dL_law_569 rfl ?_
          refine v_iremN C0 (pc' := 572) (by omega) (by decide) (by decide) dL_law_571 rfl ?_
          refine v_iload C0 (pc' := 574) 3 rfl dL_law_572 rfl ?_
          refine v_bipush C0 (pc' := 576) (nI 6) (by decide +kernel) dL_law_574 rfl ?_
          refine v_idivN C0 (pc' := 577) (by omega) (by decide) (by decide) dL_law_576 rfl ?_
          refine v_iload C0 (pc' := 579) 3 rfl dL_law_577 rfl ?_
          refine v_bipush C0 (pc' := 581) (nI 6) (by decide +kernel) dL_law_579 rfl ?_
          refine v_iremN C0 (pc' := 582) (by omega) (by decide) (by decide) dL_law_581 rfl ?_
          refine v_iload C0 (pc' := 584) 1 rfl dL_law_582 rfl ?_
          have c1 := (e_cable l D hst h hw (k := a) (j := w) (x := q) ha hwo h_q.1 h_q.2).2.1 h2 (fun z => h6 z.2)
          refine v_callSE C0 (av := [.ref (ad 0), .int (nI (a / 6)), .int (nI (a % 6)), .int (nI (w / 6)), .int (nI (w % 6)), .int (nI q)]) (rest := []) (ws' := [(ba, .inl (cI, 36, .inl (nA xb))), (ca, .inl (cI, 36, .inl (nA xc))), (fa, .inl (cI, 36, .inl (nA xf))), (ta, .inl (cI, 36, .inl (nA xt))), (ua, .inl (cI, 36, .inl (nA xu))), (na, .inl (cI, 2, .inl (nA xn)))] ++ wx) (pc' := 587) hK hA hEN c1 (vx_cwSW 6 C0.2.2.2.2 gL_law_L_cables rfl rfl rfl (by decide +kernel) ⟨Nat.le_of_ble_eq_true rfl, Nat.le_of_ble_eq_true rfl⟩) (PLs.rt (P := [(ba, .inl (cI, 36, .inl (nA xb))), (ca, .inl (cI, 36, .inl (nA xc))), (fa, .inl (cI, 36, .inl (nA xf))), (ta, .inl (cI, 36, .inl (nA xt))), (ua, .inl (cI, 36, .inl (nA xu))), (na, .inl (cI, 2, .inl (nA xn)))])) rfl rfl (Nat.le_of_ble_eq_true rfl) ⟨(by show k + 1 ≤ 765924; omega), (by show n + 6 ≤ 6803927; omega)⟩ dL_law_584 rfl ?_
          refine v_iload C0 (pc' := 589) 0 rfl dL_law_587 rfl ?_
          refine v_icmp_ne C0 596 (pc' := 592) dL_law_589 (by decide) rfl (fun h10 => ?_) (fun h10 => ?_)
          · exact absurd (by decide) h10
          · refine v_iconst C0 (pc' := 593) (nI 1) (by decide +kernel) dL_law_592 rfl ?_
            refine v_goto C0 597 dL_law_593 (by decide) ?_
            refine v_istore C0 (lv' := [(8, .int (nI 1)), (17, .int (-13)), (16, .int (nI q)), (15, .int (nI la)), (14, .int (nI w)), (13, .int (nI a)), (12, .int (nI y)), (9, .int (nI i)), (0, .ref b), (1, .ref (ad 0)), (2, .ref na), (3, .ref ua), (4, .ref ta), (5, .ref fa), (6, .ref ca), (7, .ref ba)]) (pc' := 599) (by decide) rfl dL_law_597 rfl ?_
            refine v_goto C0 893 dL_law_599 (by decide) ?_
            exact v_sub (lv' := [(8, .int (nI 1)), (9, .int (nI i)), (12, .int (nI y)), (0, .ref b), (1, .ref (ad 0)), (2, .ref na), (3, .ref ua), (4, .ref ta), (5, .ref fa), (6, .ref ca), (7, .ref ba)]) [0, 7, 6, 8, 9, 10, 11, 12, 13, 14, 15] rfl (kk xu xt xf xc xb xn wx h hw)
        · exact absurd (by decide) h9
  · refine v_bipush C0 (pc' := 486) (-12) (by decide) dL_law_484 rfl ?_
    refine v_goto C0 515 dL_law_486 (by decide) ?_
    refine v_istore C0 (lv' := [(17, .int (-12)), (16, .int (nI q)), (15, .int (nI la)), (14, .int (nI w)), (13, .int (nI a)), (12, .int (nI y)), (9, .int (nI i)), (8, .int (nI 1)), (0, .ref b), (1, .ref (ad 0)), (2, .ref na), (3, .ref ua), (4, .ref ta), (5, .ref fa), (6, .ref ca), (7, .ref ba)]) (pc' := 517) (by decide) rfl dL_law_515 rfl ?_
    refine v_iload C0 (pc' := 519) 0 rfl dL_law_517 rfl ?_
    refine v_if_le C0 561 (pc' := 522) dL_law_519 (by decide) rfl (fun h11 => ?_) (fun h11 => ?_)
    · refine v_aload_n C0 (pc' := 562) 9 rfl rfl dL_law_561 rfl ?_
      refine v_iload C0 (pc' := 564) 4 rfl dL_law_562 rfl ?_
      refine v_bipush C0 (pc' := 566) (nI 6) (by decide +kernel) dL_law_564 rfl ?_
      refine v_idivN C0 (pc' := 567) (by omega) (by decide) (by decide) dL_law_566 rfl ?_
      refine v_iload C0 (pc' := 569) 4 rfl dL_law_567 rfl ?_
      refine v_bipush C0 (pc' := 571) (nI 6) (by decide +kernel) dL_law_569 rfl ?_
      refine v_iremN C0 (pc' := 572) (by omega) (by decide) (by decide) dL_law_571 rfl ?_
      refine v_iload C0 (pc' := 574) 3 rfl dL_law_572 rfl ?_
      refine v_bipush C0 (pc' := 576) (nI 6) (by decide +kernel) dL_law_574 rfl ?_
      refine v_idivN C0 (pc' := 577) (by omega) (by decide) (by decide) dL_law_576 rfl ?_
      refine v_iload C0 (pc' := 579) 3 rfl dL_law_577 rfl ?_
      refine v_bipush C0 (pc' := 581) (nI 6) (by decide +kernel) dL_law_579 rfl ?_
      refine v_iremN C0 (pc' := 582) (by omega) (by decide) (by decide) dL_law_581 rfl ?_
      refine v_iload C0 (pc' := 584) 1 rfl dL_law_582 rfl ?_
      have c1 := (e_cable l D hst h hw (k := a) (j := w) (x := q) ha hwo h_q.1 h_q.2).1 h2
      refine v_callSE C0 (av := [.ref (ad 0), .int (nI (a / 6)), .int (nI (a % 6)), .int (nI (w / 6)), .int (nI (w % 6)), .int (nI q)]) (rest := []) (ws' := [(ba, .inl (cI, 36, .inl (nA xb))), (ca, .inl (cI, 36, .inl (nA xc))), (fa, .inl (cI, 36, .inl (nA xf))), (ta, .inl (cI, 36, .inl (nA xt))), (ua, .inl (cI, 36, .inl (nA xu))), (na, .inl (cI, 2, .inl (nA xn)))] ++ wx) (pc' := 587) hK hA hEN c1 (vx_cwSW 6 C0.2.2.2.2 gL_law_L_cables rfl rfl rfl (by decide +kernel) ⟨Nat.le_of_ble_eq_true rfl, Nat.le_of_ble_eq_true rfl⟩) (PLs.rt (P := [(ba, .inl (cI, 36, .inl (nA xb))), (ca, .inl (cI, 36, .inl (nA xc))), (fa, .inl (cI, 36, .inl (nA xf))), (ta, .inl (cI, 36, .inl (nA xt))), (ua, .inl (cI, 36, .inl (nA xu))), (na, .inl (cI, 2, .inl (nA xn)))])) rfl rfl (Nat.le_of_ble_eq_true rfl) ⟨(by show k + 1 ≤ 765924; omega), (by show n + 6 ≤ 6803927; omega)⟩ dL_law_584 rfl ?_
      refine v_iload C0 (pc' := 589) 0 rfl dL_law_587 rfl ?_
      refine v_icmp_ne C0 596 (pc' := 592) dL_law_589 (by decide) rfl (fun h12 => ?_) (fun h12 => ?_)
      · exact absurd (by decide) h12
      · refine v_iconst C0 (pc' := 593) (nI 1) (by decide +kernel) dL_law_592 rfl ?_
        refine v_goto C0 597 dL_law_593 (by decide) ?_
        refine v_istore C0 (lv' := [(8, .int (nI 1)), (17, .int (-12)), (16, .int (nI q)), (15, .int (nI la)), (14, .int (nI w)), (13, .int (nI a)), (12, .int (nI y)), (9, .int (nI i)), (0, .ref b), (1, .ref (ad 0)), (2, .ref na), (3, .ref ua), (4, .ref ta), (5, .ref fa), (6, .ref ca), (7, .ref ba)]) (pc' := 599) (by decide) rfl dL_law_597 rfl ?_
        refine v_goto C0 893 dL_law_599 (by decide) ?_
        exact v_sub (lv' := [(8, .int (nI 1)), (9, .int (nI i)), (12, .int (nI y)), (0, .ref b), (1, .ref (ad 0)), (2, .ref na), (3, .ref ua), (4, .ref ta), (5, .ref fa), (6, .ref ca), (7, .ref ba)]) [0, 7, 6, 8, 9, 10, 11, 12, 13, 14, 15] rfl (kk xu xt xf xc xb xn wx h hw)
    · exact absurd (by decide) h11
set_option maxHeartbeats 4000000 in
set_option maxRecDepth 100000 in
theorem law_pull {p : Program} {l : Launch} {e : Env} {s : State} {m : MethodId} {args : Array Value} {below : List Frame} {meth : Method} {c : Code} {D : va_G} {A : Nat → Prop} {k n : Nat} {Q : State → Prop} {cI : ClassId} {ad : Nat → Nat} {b na ua ta fa ca ba L : Nat} {xs : Nat → Int32} {xu xt xf xc xb xn : Nat → Nat} {wx : va_W} (h0 : LH p l m c s args D A cI b L xs) (h : LIs xu xt xf xc xb xn) (hw : WQ cI ad xu xt xf xc xb xn wx) {i y a w la : Nat} (hy : y ≤ 119304647) (ha : a < 36) (hwo : w < 36) (hla1 : 1 ≤ la) (hla : la < 16) (hk : k + 1 ≤ 765924) (hnn : n + 6 ≤ 6803927) (kk : ∀ (xu' xt' xf' xc' xb' xn' : Nat → Nat) (wx' : va_W), LIs xu' xt' xf' xc' xb' xn' → WQ cI ad xu' xt' xf' xc' xb' xn' wx' → V p l e room_1 s m args below meth c D A 19 (k + 1) (n + 6) Q ([(ba, .inl (cI, 36, .inl (nA xb'))), (ca, .inl (cI, 36, .inl (nA xc'))), (fa, .inl (cI, 36, .inl (nA xf'))), (ta, .inl (cI, 36, .inl (nA xt'))), (ua, .inl (cI, 36, .inl (nA xu'))), (na, .inl (cI, 2, .inl (nA xn')))] ++ wx') [(8, .int (nI 1)), (9, .int (nI i)), (12, .int (nI y)), (0, .ref b), (1, .ref (ad 0)), (2, .ref na), (3, .ref ua), (4, .ref ta), (5, .ref fa), (6, .ref ca), (7, .ref ba)] 893 []) : V p l e room_1 s m args below meth c D A 19 k n Q ([(ba, .inl (cI, 36, .inl (nA xb))), (ca, .inl (cI, 36, .inl (nA xc))), (fa, .inl (cI, 36, .inl (nA xf))), (ta, .inl (cI, 36, .inl (nA xt))), (ua, .inl (cI, 36, .inl (nA xu))), (na, .inl (cI, 2, .inl (nA xn)))] ++ wx) [(15, .int (nI la)), (14, .int (nI w)), (13, .int (nI a)), (12, .int (nI y)), (9, .int (nI i)), (8, .int (nI 1)), (0, .ref b), (1, .ref (ad 0)), (2, .ref na), (3, .ref ua), (4, .ref ta), (5, .ref fa), (6, .ref ca), (7, .ref ba)] 609 [] := by
  obtain ⟨C0, hst, hK, hA, hEN, hX, hbl, hbA, hL⟩ := id h0
  obtain ⟨hu, ht, hf, hc, hb, hn, hn1, hG, hS, hct⟩ := id h
  have hn31 : ∀ k, xn k < 2 ^ 31 := fun k => Nat.lt_of_le_of_lt (hn k) (by decide)
  refine v_iconst C0 (pc' := 610) (nI 0) (by decide +kernel) dL_law_609 rfl ?_
  refine v_istore C0 (lv' := [(16, .int (nI 0)), (15, .int (nI la)), (14, .int (nI w)), (13, .int (nI a)), (12, .int (nI y)), (9, .int (nI i)), (8, .int (nI 1)), (0, .ref b), (1, .ref (ad 0)), (2, .ref na), (3, .ref ua), (4, .ref ta), (5, .ref fa), (6, .ref ca), (7, .ref ba)]) (pc' := 612) (by decide) rfl dL_law_610 rfl ?_
  suffices J_p : ∀ a' : Nat, a' < 36 → V p l e room_1 s m args below meth c D A 19 k n Q ([(ba, .inl (cI, 36, .inl (nA xb))), (ca, .inl (cI, 36, .inl (nA xc))), (fa, .inl (cI, 36, .inl (nA xf))), (ta, .inl (cI, 36, .inl (nA xt))), (ua, .inl (cI, 36, .inl (nA xu))), (na, .inl (cI, 2, .inl (nA xn)))] ++ wx) [(13, .int (nI a')), (15, .int (nI la)), (14, .int (nI w)), (12, .int (nI y)), (9, .int (nI i)), (8, .int (nI 1)), (0, .ref b), (1, .ref (ad 0)), (2, .ref na), (3, .ref ua), (4, .ref ta), (5, .ref fa), (6, .ref ca), (7, .ref ba)] 649 [] by
    suffices LP : ∀ (j1 i1 a1 : Nat), i1 + j1 = 36 → a1 < 36 → V p l e room_1 s m args below meth c D A 19 k n Q ([(ba, .inl (cI, 36, .inl (nA xb))), (ca, .inl (cI, 36, .inl (nA xc))), (fa, .inl (cI, 36, .inl (nA xf))), (ta, .inl (cI, 36, .inl (nA xt))), (ua, .inl (cI, 36, .inl (nA xu))), (na, .inl (cI, 2, .inl (nA xn)))] ++ wx) [(16, .int (nI i1)), (13, .int (nI a1)), (15, .int (nI la)), (14, .int (nI w)), (12, .int (nI y)), (9, .int (nI i)), (8, .int (nI 1)), (0, .ref b), (1, .ref (ad 0)), (2, .ref na), (3, .ref ua), (4, .ref ta), (5, .ref fa), (6, .ref ca), (7, .ref ba)] 612 [] by
      exact v_sub (lv' := [(16, .int (nI 0)), (13, .int (nI a)), (15, .int (nI la)), (14, .int (nI w)), (12, .int (nI y)), (9, .int (nI i)), (8, .int (nI 1)), (0, .ref b), (1, .ref (ad 0)), (2, .ref na), (3, .ref ua), (4, .ref ta), (5, .ref fa), (6, .ref ca), (7, .ref ba)]) [0, 3, 1, 2, 4, 5, 6, 7, 8, 9, 10, 11, 12, 13, 14] rfl (LP 36 0 a (Nat.zero_add _) ha)
    intro j1
    induction j1 with
    | zero =>
      intro i1 a1 hi1 ha1
      refine v_iload C0 (pc' := 614) 0 rfl dL_law_612 rfl ?_
      refine v_bipush C0 (pc' := 616) (nI 36) (by decide +kernel) dL_law_614 rfl ?_
      refine v_icmp_geN C0 649 (pc' := 619) (by omega) (by omega) dL_law_616 (by decide) rfl (fun h1 => ?_) (fun h1 => ?_)
      · exact v_sub (lv' := [(13, .int (nI a1)), (15, .int (nI la)), (14, .int (nI w)), (12, .int (nI y)), (9, .int (nI i)), (8, .int (nI 1)), (0, .ref b), (1, .ref (ad 0)), (2, .ref na), (3, .ref ua), (4, .ref ta), (5, .ref fa), (6, .ref ca), (7, .ref ba)]) [1, 2, 3, 4, 5, 6, 7, 8, 9, 10, 11, 12, 13, 14] rfl (J_p a1 (by omega))
      · exact absurd (by omega) h1
    | succ j1 ih =>
      intro i1 a1 hi1 ha1
      refine v_iload C0 (pc' := 614) 0 rfl dL_law_612 rfl ?_
      refine v_bipush C0 (pc' := 616) (nI 36) (by decide +kernel) dL_law_614 rfl ?_
      refine v_icmp_geN C0 649 (pc' := 619) (by omega) (by omega) dL_law_616 (by decide) rfl (fun h2 => ?_) (fun h2 => ?_)
      · exact absurd h2 (by omega)
      · refine v_iload C0 (pc' := 621) 4 rfl dL_law_619 rfl ?_
        refine v_iconst C0 (pc' := 622) (nI 4) (by decide +kernel) dL_law_621 rfl ?_
        refine v_iremN C0 (pc' := 623) (by omega) (by decide) (by decide) dL_law_622 rfl ?_
        refine v_if_leN C0 649 (pc' := 626) (by omega) dL_law_623 (by decide) rfl (fun h3 => ?_) (fun h3 => ?_)
        · exact v_sub (lv' := [(13, .int (nI a1)), (15, .int (nI la)), (14, .int (nI w)), (12, .int (nI y)), (9, .int (nI i)), (8, .int (nI 1)), (0, .ref b), (1, .ref (ad 0)), (2, .ref na), (3, .ref ua), (4, .ref ta), (5, .ref fa), (6, .ref ca), (7, .ref ba)]) [1, 2, 3, 4, 5, 6, 7, 8, 9, 10, 11, 12, 13, 14] rfl (J_p a1 (by omega))
        · refine v_aload C0 (pc' := 628) 12 rfl dL_law_626 rfl ?_
          refine v_iload C0 (pc' := 630) 1 rfl dL_law_628 rfl ?_
          refine v_ialdN C0 hK (pc' := 631) 2 0 rfl rfl (by omega) (by decide) dL_law_630 rfl ?_
          refine v_if_neN C0 649 (pc' := 634) (by have := hf a1; omega) dL_law_631 (by decide) rfl (fun h4 => ?_) (fun h4 => ?_)
          · exact v_sub (lv' := [(13, .int (nI a1)), (15, .int (nI la)), (14, .int (nI w)), (12, .int (nI y)), (9, .int (nI i)), (8, .int (nI 1)), (0, .ref b), (1, .ref (ad 0)), (2, .ref na), (3, .ref ua), (4, .ref ta), (5, .ref fa), (6, .ref ca), (7, .ref ba)]) [1, 2, 3, 4, 5, 6, 7, 8, 9, 10, 11, 12, 13, 14] rfl (J_p a1 (by omega))
          · refine v_iload C0 (pc' := 636) 1 rfl dL_law_634 rfl ?_
            refine v_iconst C0 (pc' := 637) (nI 1) (by decide +kernel) dL_law_636 rfl ?_
            refine v_iaddN C0 (pc' := 638) dL_law_637 rfl ?_
            refine v_bipush C0 (pc' := 640) (nI 36) (by decide +kernel) dL_law_638 rfl ?_
            refine v_iremN C0 (pc' := 641) (by omega) (by decide) (by decide) dL_law_640 rfl ?_
            refine v_istore C0 (lv' := [(13, .int (nI ((a1 + 1) % 36))), (16, .int (nI i1)), (15, .int (nI la)), (14, .int (nI w)), (12, .int (nI y)), (9, .int (nI i)), (8, .int (nI 1)), (0, .ref b), (1, .ref (ad 0)), (2, .ref na), (3, .ref ua), (4, .ref ta), (5, .ref fa), (6, .ref ca), (7, .ref ba)]) (pc' := 643) (by decide) rfl dL_law_641 rfl ?_
            refine v_iincN C0 (lv' := [(16, .int (nI (i1 + 1))), (13, .int (nI ((a1 + 1) % 36))), (15, .int (nI la)), (14, .int (nI w)), (12, .int (nI y)), (9, .int (nI i)), (8, .int (nI 1)), (0, .ref b), (1, .ref (ad 0)), (2, .ref na), (3, .ref ua), (4, .ref ta), (5, .ref fa), (6, .ref ca), (7, .ref ba)]) (y := 1) (pc' := 646) 1 rfl (by decide) rfl dL_law_643 rfl ?_
            refine v_goto C0 612 dL_law_646 (by decide) ?_
            exact v_sub (lv' := [(16, .int (nI (i1 + 1))), (13, .int (nI ((a1 + 1) % 36))), (15, .int (nI la)), (14, .int (nI w)), (12, .int (nI y)), (9, .int (nI i)), (8, .int (nI 1)), (0, .ref b), (1, .ref (ad 0)), (2, .ref na), (3, .ref ua), (4, .ref ta), (5, .ref fa), (6, .ref ca), (7, .ref ba)]) [0, 1, 2, 3, 4, 5, 6, 7, 8, 9, 10, 11, 12, 13, 14] rfl (ih (i1 + 1) ((a1 + 1) % 36) (by omega) (by omega))
  intro a' ha'
  by_cases h5 : xf a' = 0
  · refine v_aload_n C0 (pc' := 650) 7 rfl rfl dL_law_649 rfl ?_
    refine v_iconst C0 (pc' := 651) (nI 1) (by decide +kernel) dL_law_650 rfl ?_
    refine v_iload C0 (pc' := 653) 0 rfl dL_law_651 rfl ?_
    refine v_bipush C0 (pc' := 655) (nI 6) (by decide +kernel) dL_law_653 rfl ?_
    refine v_idivN C0 (pc' := 656) (by omega) (by decide) (by decide) dL_law_655 rfl ?_
    refine v_iload C0 (pc' := 658) 0 rfl dL_law_656 rfl ?_
    refine v_bipush C0 (pc' := 660) (nI 6) (by decide +kernel) dL_law_658 rfl ?_
    refine v_iremN C0 (pc' := 661) (by omega) (by decide) (by decide) dL_law_660 rfl ?_
    refine v_iconst C0 (pc' := 662) (nI 0) (by decide +kernel) dL_law_661 rfl ?_
    have c1 := (e_pull l D hst h hw (k := a') ha').1 h5
    refine v_callSE C0 (av := [.ref (ad 0), .int (nI 1), .int (nI (a' / 6)), .int (nI (a' % 6)), .int (nI 0)]) (rest := []) (ws' := [(ba, .inl (cI, 36, .inl (nA xb))), (ca, .inl (cI, 36, .inl (nA xc))), (fa, .inl (cI, 36, .inl (nA xf))), (ta, .inl (cI, 36, .inl (nA xt))), (ua, .inl (cI, 36, .inl (nA xu))), (na, .inl (cI, 2, .inl (nA xn)))] ++ wx) (pc' := 665) hK hA hEN c1 (vx_cwSW 5 C0.2.2.2.2 gL_law_L_does rfl rfl rfl (by decide +kernel) ⟨Nat.le_of_ble_eq_true rfl, Nat.le_of_ble_eq_true rfl⟩) (PLs.rt (P := [(ba, .inl (cI, 36, .inl (nA xb))), (ca, .inl (cI, 36, .inl (nA xc))), (fa, .inl (cI, 36, .inl (nA xf))), (ta, .inl (cI, 36, .inl (nA xt))), (ua, .inl (cI, 36, .inl (nA xu))), (na, .inl (cI, 2, .inl (nA xn)))])) rfl rfl (Nat.le_of_ble_eq_true rfl) ⟨(by show k + 1 ≤ 765924; omega), (by show n + 6 ≤ 6803927; omega)⟩ dL_law_662 rfl ?_
    refine v_aload C0 (pc' := 667) 11 rfl dL_law_665 rfl ?_
    refine v_iload C0 (pc' := 669) 0 rfl dL_law_667 rfl ?_
    refine v_ialdN C0 hK (pc' := 670) 2 0 rfl rfl (by omega) (by decide) dL_law_669 rfl ?_
    refine v_if_neN C0 678 (pc' := 673) (by have := hf a'; omega) dL_law_670 (by decide) rfl (fun h6 => ?_) (fun h6 => ?_)
    · exact absurd h5 h6
    · refine v_bipush C0 (pc' := 675) (-14) (by decide) dL_law_673 rfl ?_
      refine v_goto C0 683 dL_law_675 (by decide) ?_
      refine v_icmp_ne C0 690 (pc' := 686) dL_law_683 (by decide) rfl (fun h7 => ?_) (fun h7 => ?_)
      · exact absurd (by decide) h7
      · refine v_iconst C0 (pc' := 687) (nI 1) (by decide +kernel) dL_law_686 rfl ?_
        refine v_goto C0 691 dL_law_687 (by decide) ?_
        refine v_istore C0 (lv' := [(8, .int (nI 1)), (13, .int (nI a')), (15, .int (nI la)), (14, .int (nI w)), (12, .int (nI y)), (9, .int (nI i)), (0, .ref b), (1, .ref (ad 0)), (2, .ref na), (3, .ref ua), (4, .ref ta), (5, .ref fa), (6, .ref ca), (7, .ref ba)]) (pc' := 693) (by decide) rfl dL_law_691 rfl ?_
        refine v_aload C0 (pc' := 695) 11 rfl dL_law_693 rfl ?_
        refine v_iload C0 (pc' := 697) 1 rfl dL_law_695 rfl ?_
        refine v_ialdN C0 hK (pc' := 698) 2 0 rfl rfl (by omega) (by decide) dL_law_697 rfl ?_
        refine v_if_leN C0 893 (pc' := 701) (by have := hf a'; omega) dL_law_698 (by decide) rfl (fun h8 => ?_) (fun h8 => ?_)
        · exact v_sub (lv' := [(8, .int (nI 1)), (9, .int (nI i)), (12, .int (nI y)), (0, .ref b), (1, .ref (ad 0)), (2, .ref na), (3, .ref ua), (4, .ref ta), (5, .ref fa), (6, .ref ca), (7, .ref ba)]) [0, 5, 4, 6, 7, 8, 9, 10, 11, 12, 13] rfl (kk xu xt xf xc xb xn wx h hw)
        · exact absurd h5 h8
  · refine v_aload_n C0 (pc' := 650) 7 rfl rfl dL_law_649 rfl ?_
    refine v_iconst C0 (pc' := 651) (nI 1) (by decide +kernel) dL_law_650 rfl ?_
    refine v_iload C0 (pc' := 653) 0 rfl dL_law_651 rfl ?_
    refine v_bipush C0 (pc' := 655) (nI 6) (by decide +kernel) dL_law_653 rfl ?_
    refine v_idivN C0 (pc' := 656) (by omega) (by decide) (by decide) dL_law_655 rfl ?_
    refine v_iload C0 (pc' := 658) 0 rfl dL_law_656 rfl ?_
    refine v_bipush C0 (pc' := 660) (nI 6) (by decide +kernel) dL_law_658 rfl ?_
    refine v_iremN C0 (pc' := 661) (by omega) (by decide) (by decide) dL_law_660 rfl ?_
    refine v_iconst C0 (pc' := 662) (nI 0) (by decide +kernel) dL_law_661 rfl ?_
    obtain ⟨hl1, hn0, w1, hw1, c1⟩ := (e_pull l D hst h hw (k := a') ha').2 h5
    refine v_callSE C0 (av := [.ref (ad 0), .int (nI 1), .int (nI (a' / 6)), .int (nI (a' % 6)), .int (nI 0)]) (rest := []) (ws' := [(ba, .inl (cI, 36, .inl (nA xb))), (ca, .inl (cI, 36, .inl (nA xc))), (fa, .inl (cI, 36, .inl (nA xf))), (ta, .inl (cI, 36, .inl (nA xt))), (ua, .inl (cI, 36, .inl (nA xu))), (na, .inl (cI, 2, .inl (nA xn)))] ++ w1) (pc' := 665) hK hA hEN c1 (vx_cwSW 5 C0.2.2.2.2 gL_law_L_does rfl rfl rfl (by decide +kernel) ⟨Nat.le_of_ble_eq_true rfl, Nat.le_of_ble_eq_true rfl⟩) (PLs.rt (P := [(ba, .inl (cI, 36, .inl (nA xb))), (ca, .inl (cI, 36, .inl (nA xc))), (fa, .inl (cI, 36, .inl (nA xf))), (ta, .inl (cI, 36, .inl (nA xt))), (ua, .inl (cI, 36, .inl (nA xu))), (na, .inl (cI, 2, .inl (nA xn)))])) rfl rfl (Nat.le_of_ble_eq_true rfl) ⟨(by show k + 1 ≤ 765924; omega), (by show n + 6 ≤ 6803927; omega)⟩ dL_law_662 rfl ?_
    refine v_aload C0 (pc' := 667) 11 rfl dL_law_665 rfl ?_
    refine v_iload C0 (pc' := 669) 0 rfl dL_law_667 rfl ?_
    refine v_ialdN C0 hK (pc' := 670) 2 0 rfl rfl (by omega) (by decide) dL_law_669 rfl ?_
    refine v_if_neN C0 678 (pc' := 673) (by have := hf a'; omega) dL_law_670 (by decide) rfl (fun h9 => ?_) (fun h9 => ?_)
    · refine v_aload C0 (pc' := 680) 12 rfl dL_law_678 rfl ?_
      refine v_iload C0 (pc' := 682) 0 rfl dL_law_680 rfl ?_
      refine v_ialdN C0 hK (pc' := 683) 1 0 rfl rfl (by omega) (by decide) dL_law_682 rfl ?_
      refine v_icmp_ne C0 690 (pc' := 686) dL_law_683 (by decide) rfl (fun h10 => absurd rfl h10) (fun _ => ?_)
      refine v_iconst C0 (pc' := 687) (nI 1) (by decide +kernel) dL_law_686 rfl ?_
      refine v_goto C0 691 dL_law_687 (by decide) ?_
      refine v_istore C0 (lv' := [(8, .int (nI 1)), (13, .int (nI a')), (15, .int (nI la)), (14, .int (nI w)), (12, .int (nI y)), (9, .int (nI i)), (0, .ref b), (1, .ref (ad 0)), (2, .ref na), (3, .ref ua), (4, .ref ta), (5, .ref fa), (6, .ref ca), (7, .ref ba)]) (pc' := 693) (by decide) rfl dL_law_691 rfl ?_
      refine v_aload C0 (pc' := 695) 11 rfl dL_law_693 rfl ?_
      refine v_iload C0 (pc' := 697) 1 rfl dL_law_695 rfl ?_
      refine v_ialdN C0 hK (pc' := 698) 2 0 rfl rfl (by omega) (by decide) dL_law_697 rfl ?_
      refine v_if_leN C0 893 (pc' := 701) (by have := hf a'; omega) dL_law_698 (by decide) rfl (fun h11 => ?_) (fun h11 => ?_)
      · exact absurd h11 h5
      · refine v_aload C0 (pc' := 703) 11 rfl dL_law_701 rfl ?_
        refine v_aload C0 (pc' := 705) 11 rfl dL_law_703 rfl ?_
        refine v_iload C0 (pc' := 707) 1 rfl dL_law_705 rfl ?_
        refine v_ialdN C0 hK (pc' := 708) 2 0 rfl rfl (by omega) (by decide) dL_law_707 rfl ?_
        refine v_iconst C0 (pc' := 709) (nI 1) (by decide +kernel) dL_law_708 rfl ?_
        refine v_isubN C0 (pc' := 710) (by have := hf a'; omega) dL_law_709 rfl ?_
        refine v_iconst C0 (pc' := 711) (nI 0) (by decide +kernel) dL_law_710 rfl ?_
        refine v_iastN C0 hK (ws' := [(ba, .inl (cI, 36, .inl (nA xb))), (ca, .inl (cI, 36, .inl (nA xc))), (fa, .inl (cI, 36, .inl (nA (updN xf ((xf a') - 1) 0)))), (ta, .inl (cI, 36, .inl (nA xt))), (ua, .inl (cI, 36, .inl (nA xu))), (na, .inl (cI, 2, .inl (nA xn)))] ++ w1) (pc' := 712) 2 0 rfl rfl rfl (by have := hf a'; omega) (by decide) dL_law_711 rfl ?_
        refine v_aload C0 (pc' := 714) 11 rfl dL_law_712 rfl ?_
        refine v_iload C0 (pc' := 716) 1 rfl dL_law_714 rfl ?_
        refine v_iconst C0 (pc' := 717) (nI 0) (by decide +kernel) dL_law_716 rfl ?_
        refine v_iastN C0 hK (ws' := [(ba, .inl (cI, 36, .inl (nA xb))), (ca, .inl (cI, 36, .inl (nA xc))), (fa, .inl (cI, 36, .inl (nA (updN (updN xf ((xf a') - 1) 0) a' 0)))), (ta, .inl (cI, 36, .inl (nA xt))), (ua, .inl (cI, 36, .inl (nA xu))), (na, .inl (cI, 2, .inl (nA xn)))] ++ w1) (pc' := 718) 2 0 rfl rfl rfl (by omega) (by decide) dL_law_717 rfl ?_
        refine v_aload_n C0 (pc' := 719) 8 rfl rfl dL_law_718 rfl ?_
        refine v_iconst C0 (pc' := 720) (nI 0) (by decide +kernel) dL_law_719 rfl ?_
        refine v_dup2 C0 (pc' := 721) rfl rfl dL_law_720 rfl ?_
        refine v_ialdN C0 hK (pc' := 722) 5 0 rfl rfl (by omega) (by decide) dL_law_721 rfl ?_
        refine v_iconst C0 (pc' := 723) (nI 1) (by decide +kernel) dL_law_722 rfl ?_
        refine v_isubN C0 (pc' := 724) (by have := hn31 0; omega) dL_law_723 rfl ?_
        refine v_iastN C0 hK (ws' := [(ba, .inl (cI, 36, .inl (nA xb))), (ca, .inl (cI, 36, .inl (nA xc))), (fa, .inl (cI, 36, .inl (nA (updN (updN xf ((xf a') - 1) 0) a' 0)))), (ta, .inl (cI, 36, .inl (nA xt))), (ua, .inl (cI, 36, .inl (nA xu))), (na, .inl (cI, 2, .inl (nA (updN xn 0 ((xn 0) - 1)))))] ++ w1) (pc' := 725) 5 0 rfl rfl rfl (by omega) (by decide) dL_law_724 rfl ?_
        refine v_goto C0 893 dL_law_725 (by decide) ?_
        exact v_sub (lv' := [(8, .int (nI 1)), (9, .int (nI i)), (12, .int (nI y)), (0, .ref b), (1, .ref (ad 0)), (2, .ref na), (3, .ref ua), (4, .ref ta), (5, .ref fa), (6, .ref ca), (7, .ref ba)]) [0, 5, 4, 6, 7, 8, 9, 10, 11, 12, 13] rfl (kk xu xt (updN (updN xf ((xf a') - 1) 0) a' 0) xc xb (updN xn 0 ((xn 0) - 1)) w1 hl1 hw1)
    · exact absurd h9 h5
set_option maxHeartbeats 4000000 in
set_option maxRecDepth 100000 in
theorem law_tree {p : Program} {l : Launch} {e : Env} {s : State} {m : MethodId} {args : Array Value} {below : List Frame} {meth : Method} {c : Code} {D : va_G} {A : Nat → Prop} {k n : Nat} {Q : State → Prop} {cI : ClassId} {ad : Nat → Nat} {b na ua ta fa ca ba L : Nat} {xs : Nat → Int32} {xu xt xf xc xb xn : Nat → Nat} {wx : va_W} (h0 : LH p l m c s args D A cI b L xs) (h : LIs xu xt xf xc xb xn) (hw : WQ cI ad xu xt xf xc xb xn wx) {i y a w la : Nat} (hy : y ≤ 119304647) (ha : a < 36) (hwo : w < 36) (hla1 : 1 ≤ la) (hla : la < 16) (hk : k + 1 ≤ 765924) (hnn : n + 6 ≤ 6803927) (kk : ∀ (xu' xt' xf' xc' xb' xn' : Nat → Nat) (wx' : va_W), LIs xu' xt' xf' xc' xb' xn' → WQ cI ad xu' xt' xf' xc' xb' xn' wx' → V p l e room_1 s m args below meth c D A 19 (k + 1) (n + 6) Q ([(ba, .inl (cI, 36, .inl (nA xb'))), (ca, .inl (cI, 36, .inl (nA xc'))), (fa, .inl (cI, 36, .inl (nA xf'))), (ta, .inl (cI, 36, .inl (nA xt'))), (ua, .inl (cI, 36, .inl (nA xu'))), (na, .inl (cI, 2, .inl (nA xn')))] ++ wx') [(8, .int (nI 1)), (9, .int (nI i)), (12, .int (nI y)), (0, .ref b), (1, .ref (ad 0)), (2, .ref na), (3, .ref ua), (4, .ref ta), (5, .ref fa), (6, .ref ca), (7, .ref ba)] 893 []) : V p l e room_1 s m args below meth c D A 19 k n Q ([(ba, .inl (cI, 36, .inl (nA xb))), (ca, .inl (cI, 36, .inl (nA xc))), (fa, .inl (cI, 36, .inl (nA xf))), (ta, .inl (cI, 36, .inl (nA xt))), (ua, .inl (cI, 36, .inl (nA xu))), (na, .inl (cI, 2, .inl (nA xn)))] ++ wx) [(15, .int (nI la)), (14, .int (nI w)), (13, .int (nI a)), (12, .int (nI y)), (9, .int (nI i)), (8, .int (nI 1)), (0, .ref b), (1, .ref (ad 0)), (2, .ref na), (3, .ref ua), (4, .ref ta), (5, .ref fa), (6, .ref ca), (7, .ref ba)] 735 [] := by
  obtain ⟨C0, hst, hK, hA, hEN, hX, hbl, hbA, hL⟩ := id h0
  obtain ⟨hu, ht, hf, hc, hb, hn, hn1, hG, hS, hct⟩ := id h
  have hn31 : ∀ k, xn k < 2 ^ 31 := fun k => Nat.lt_of_le_of_lt (hn k) (by decide)
  refine v_aload_n C0 (pc' := 736) 7 rfl rfl dL_law_735 rfl ?_
  refine v_iload C0 (pc' := 738) 3 rfl dL_law_736 rfl ?_
  refine v_iconst C0 (pc' := 739) (nI 2) (by decide +kernel) dL_law_738 rfl ?_
  refine v_iremN C0 (pc' := 740) (by omega) (by decide) (by decide) dL_law_739 rfl ?_
  refine v_iconst C0 (pc' := 741) (nI 1) (by decide +kernel) dL_law_740 rfl ?_
  refine v_icmp_neN C0 748 (pc' := 744) (by omega) (by omega) dL_law_741 (by decide) rfl (fun h1 => ?_) (fun h1 => ?_)
  · refine v_iconst C0 (pc' := 749) (nI 0) (by decide +kernel) dL_law_748 rfl ?_
    refine v_eqn (y := y % 2) (by omega) ?_
    obtain ⟨hl1, w1, hw1, c1⟩ := e_tree l D h hw (b := y % 2) (by omega)
    obtain ⟨f1, x1⟩ := (hw).x0
    refine v_callVi0 C0 (av := [.int (nI (y % 2))]) (rest := []) (ws' := [(ba, .inl (cI, 36, .inl (nA xb))), (ca, .inl (cI, 36, .inl (nA xc))), (fa, .inl (cI, 36, .inl (nA xf))), (ta, .inl (cI, 36, .inl (nA xt))), (ua, .inl (cI, 36, .inl (nA xu))), (na, .inl (cI, 2, .inl (nA xn)))] ++ w1) (pc' := 752) hK hA c1 (cwV 1 C0.2.2.2.2 gL_law_X0_tree rfl rfl rfl (by decide +kernel) ⟨Nat.le_of_ble_eq_true rfl, Nat.le_of_ble_eq_true rfl⟩) ⟨_, 0, _, _, _, rfl, ap_r (A := [(ba, .inl (cI, 36, .inl (nA xb))), (ca, .inl (cI, 36, .inl (nA xc))), (fa, .inl (cI, 36, .inl (nA xf))), (ta, .inl (cI, 36, .inl (nA xt))), (ua, .inl (cI, 36, .inl (nA xu))), (na, .inl (cI, 2, .inl (nA xn)))]) x1⟩ (PLs.rt (P := [(ba, .inl (cI, 36, .inl (nA xb))), (ca, .inl (cI, 36, .inl (nA xc))), (fa, .inl (cI, 36, .inl (nA xf))), (ta, .inl (cI, 36, .inl (nA xt))), (ua, .inl (cI, 36, .inl (nA xu))), (na, .inl (cI, 2, .inl (nA xn)))])) rfl rfl (Nat.le_of_ble_eq_true rfl) ⟨(by show k ≤ 765924; omega), (by show n ≤ 6803927; omega)⟩ dL_law_749 rfl ?_
    refine v_aload_n C0 (pc' := 753) 8 rfl rfl dL_law_752 rfl ?_
    refine v_iconst C0 (pc' := 754) (nI 1) (by decide +kernel) dL_law_753 rfl ?_
    refine v_ialdN C0 hK (pc' := 755) 5 0 rfl rfl (by omega) (by decide) dL_law_754 rfl ?_
    refine v_iconst C0 (pc' := 756) (nI 1) (by decide +kernel) dL_law_755 rfl ?_
    refine v_icmp_neN C0 763 (pc' := 759) (by have := hn31 1; omega) (by omega) dL_law_756 (by decide) rfl (fun h2 => ?_) (fun h2 => ?_)
    · refine v_iconst C0 (pc' := 764) (nI 0) (by decide +kernel) dL_law_763 rfl ?_
      refine v_icmp_neN C0 771 (pc' := 767) (by have := hn31 1; omega) (by omega) dL_law_764 (by decide) rfl (fun h3 => ?_) (fun h3 => ?_)
      · exact absurd (by omega) h3
      · refine v_iconst C0 (pc' := 768) (nI 1) (by decide +kernel) dL_law_767 rfl ?_
        refine v_goto C0 772 dL_law_768 (by decide) ?_
        refine v_istore C0 (lv' := [(8, .int (nI 1)), (15, .int (nI la)), (14, .int (nI w)), (13, .int (nI a)), (12, .int (nI y)), (9, .int (nI i)), (0, .ref b), (1, .ref (ad 0)), (2, .ref na), (3, .ref ua), (4, .ref ta), (5, .ref fa), (6, .ref ca), (7, .ref ba)]) (pc' := 774) (by decide) rfl dL_law_772 rfl ?_
        refine v_aload_n C0 (pc' := 775) 8 rfl rfl dL_law_774 rfl ?_
        refine v_iconst C0 (pc' := 776) (nI 1) (by decide +kernel) dL_law_775 rfl ?_
        refine v_iload C0 (pc' := 778) 4 rfl dL_law_776 rfl ?_
        refine v_iconst C0 (pc' := 779) (nI 2) (by decide +kernel) dL_law_778 rfl ?_
        refine v_iremN C0 (pc' := 780) (by omega) (by decide) (by decide) dL_law_779 rfl ?_
        refine v_iastN C0 hK (ws' := [(ba, .inl (cI, 36, .inl (nA xb))), (ca, .inl (cI, 36, .inl (nA xc))), (fa, .inl (cI, 36, .inl (nA xf))), (ta, .inl (cI, 36, .inl (nA xt))), (ua, .inl (cI, 36, .inl (nA xu))), (na, .inl (cI, 2, .inl (nA (updN xn 1 (y % 2)))))] ++ w1) (pc' := 781) 5 0 rfl rfl rfl (by omega) (by decide) dL_law_780 rfl ?_
        refine v_goto C0 893 dL_law_781 (by decide) ?_
        refine v_widen (k2 := k + 1) (n2 := n + 6) (by omega) (by omega) ?_
        exact v_sub (lv' := [(8, .int (nI 1)), (9, .int (nI i)), (12, .int (nI y)), (0, .ref b), (1, .ref (ad 0)), (2, .ref na), (3, .ref ua), (4, .ref ta), (5, .ref fa), (6, .ref ca), (7, .ref ba)]) [0, 5, 4, 6, 7, 8, 9, 10, 11, 12, 13] rfl (kk xu xt xf xc xb (updN xn 1 (y % 2)) w1 hl1 hw1)
    · refine v_iconst C0 (pc' := 760) (nI 1) (by decide +kernel) dL_law_759 rfl ?_
      refine v_goto C0 764 dL_law_760 (by decide) ?_
      refine v_icmp_neN C0 771 (pc' := 767) (by have := hn31 1; omega) (by omega) dL_law_764 (by decide) rfl (fun h4 => ?_) (fun h4 => ?_)
      · exact absurd (by omega) h4
      · refine v_iconst C0 (pc' := 768) (nI 1) (by decide +kernel) dL_law_767 rfl ?_
        refine v_goto C0 772 dL_law_768 (by decide) ?_
        refine v_istore C0 (lv' := [(8, .int (nI 1)), (15, .int (nI la)), (14, .int (nI w)), (13, .int (nI a)), (12, .int (nI y)), (9, .int (nI i)), (0, .ref b), (1, .ref (ad 0)), (2, .ref na), (3, .ref ua), (4, .ref ta), (5, .ref fa), (6, .ref ca), (7, .ref ba)]) (pc' := 774) (by decide) rfl dL_law_772 rfl ?_
        refine v_aload_n C0 (pc' := 775) 8 rfl rfl dL_law_774 rfl ?_
        refine v_iconst C0 (pc' := 776) (nI 1) (by decide +kernel) dL_law_775 rfl ?_
        refine v_iload C0 (pc' := 778) 4 rfl dL_law_776 rfl ?_
        refine v_iconst C0 (pc' := 779) (nI 2) (by decide +kernel) dL_law_778 rfl ?_
        refine v_iremN C0 (pc' := 780) (by omega) (by decide) (by decide) dL_law_779 rfl ?_
        refine v_iastN C0 hK (ws' := [(ba, .inl (cI, 36, .inl (nA xb))), (ca, .inl (cI, 36, .inl (nA xc))), (fa, .inl (cI, 36, .inl (nA xf))), (ta, .inl (cI, 36, .inl (nA xt))), (ua, .inl (cI, 36, .inl (nA xu))), (na, .inl (cI, 2, .inl (nA (updN xn 1 (y % 2)))))] ++ w1) (pc' := 781) 5 0 rfl rfl rfl (by omega) (by decide) dL_law_780 rfl ?_
        refine v_goto C0 893 dL_law_781 (by decide) ?_
        refine v_widen (k2 := k + 1) (n2 := n + 6) (by omega) (by omega) ?_
        exact v_sub (lv' := [(8, .int (nI 1)), (9, .int (nI i)), (12, .int (nI y)), (0, .ref b), (1, .ref (ad 0)), (2, .ref na), (3, .ref ua), (4, .ref ta), (5, .ref fa), (6, .ref ca), (7, .ref ba)]) [0, 5, 4, 6, 7, 8, 9, 10, 11, 12, 13] rfl (kk xu xt xf xc xb (updN xn 1 (y % 2)) w1 hl1 hw1)
  · refine v_iconst C0 (pc' := 745) (nI 1) (by decide +kernel) dL_law_744 rfl ?_
    refine v_goto C0 749 dL_law_745 (by decide) ?_
    refine v_eqn (y := y % 2) (by omega) ?_
    obtain ⟨hl1, w1, hw1, c1⟩ := e_tree l D h hw (b := y % 2) (by omega)
    obtain ⟨f2, x2⟩ := (hw).x0
    refine v_callVi0 C0 (av := [.int (nI (y % 2))]) (rest := []) (ws' := [(ba, .inl (cI, 36, .inl (nA xb))), (ca, .inl (cI, 36, .inl (nA xc))), (fa, .inl (cI, 36, .inl (nA xf))), (ta, .inl (cI, 36, .inl (nA xt))), (ua, .inl (cI, 36, .inl (nA xu))), (na, .inl (cI, 2, .inl (nA xn)))] ++ w1) (pc' := 752) hK hA c1 (cwV 1 C0.2.2.2.2 gL_law_X0_tree rfl rfl rfl (by decide +kernel) ⟨Nat.le_of_ble_eq_true rfl, Nat.le_of_ble_eq_true rfl⟩) ⟨_, 0, _, _, _, rfl, ap_r (A := [(ba, .inl (cI, 36, .inl (nA xb))), (ca, .inl (cI, 36, .inl (nA xc))), (fa, .inl (cI, 36, .inl (nA xf))), (ta, .inl (cI, 36, .inl (nA xt))), (ua, .inl (cI, 36, .inl (nA xu))), (na, .inl (cI, 2, .inl (nA xn)))]) x2⟩ (PLs.rt (P := [(ba, .inl (cI, 36, .inl (nA xb))), (ca, .inl (cI, 36, .inl (nA xc))), (fa, .inl (cI, 36, .inl (nA xf))), (ta, .inl (cI, 36, .inl (nA xt))), (ua, .inl (cI, 36, .inl (nA xu))), (na, .inl (cI, 2, .inl (nA xn)))])) rfl rfl (Nat.le_of_ble_eq_true rfl) ⟨(by show k ≤ 765924; omega), (by show n ≤ 6803927; omega)⟩ dL_law_749 rfl ?_
    refine v_aload_n C0 (pc' := 753) 8 rfl rfl dL_law_752 rfl ?_
    refine v_iconst C0 (pc' := 754) (nI 1) (by decide +kernel) dL_law_753 rfl ?_
    refine v_ialdN C0 hK (pc' := 755) 5 0 rfl rfl (by omega) (by decide) dL_law_754 rfl ?_
    refine v_iconst C0 (pc' := 756) (nI 1) (by decide +kernel) dL_law_755 rfl ?_
    refine v_icmp_neN C0 763 (pc' := 759) (by have := hn31 1; omega) (by omega) dL_law_756 (by decide) rfl (fun h5 => ?_) (fun h5 => ?_)
    · refine v_iconst C0 (pc' := 764) (nI 0) (by decide +kernel) dL_law_763 rfl ?_
      refine v_icmp_neN C0 771 (pc' := 767) (by have := hn31 1; omega) (by omega) dL_law_764 (by decide) rfl (fun h6 => ?_) (fun h6 => ?_)
      · exact absurd (by omega) h6
      · refine v_iconst C0 (pc' := 768) (nI 1) (by decide +kernel) dL_law_767 rfl ?_
        refine v_goto C0 772 dL_law_768 (by decide) ?_
        refine v_istore C0 (lv' := [(8, .int (nI 1)), (15, .int (nI la)), (14, .int (nI w)), (13, .int (nI a)), (12, .int (nI y)), (9, .int (nI i)), (0, .ref b), (1, .ref (ad 0)), (2, .ref na), (3, .ref ua), (4, .ref ta), (5, .ref fa), (6, .ref ca), (7, .ref ba)]) (pc' := 774) (by decide) rfl dL_law_772 rfl ?_
        refine v_aload_n C0 (pc' := 775) 8 rfl rfl dL_law_774 rfl ?_
        refine v_iconst C0 (pc' := 776) (nI 1) (by decide +kernel) dL_law_775 rfl ?_
        refine v_iload C0 (pc' := 778) 4 rfl dL_law_776 rfl ?_
        refine v_iconst C0 (pc' := 779) (nI 2) (by decide +kernel) dL_law_778 rfl ?_
        refine v_iremN C0 (pc' := 780) (by omega) (by decide) (by decide) dL_law_779 rfl ?_
        refine v_iastN C0 hK (ws' := [(ba, .inl (cI, 36, .inl (nA xb))), (ca, .inl (cI, 36, .inl (nA xc))), (fa, .inl (cI, 36, .inl (nA xf))), (ta, .inl (cI, 36, .inl (nA xt))), (ua, .inl (cI, 36, .inl (nA xu))), (na, .inl (cI, 2, .inl (nA (updN xn 1 (y % 2)))))] ++ w1) (pc' := 781) 5 0 rfl rfl rfl (by omega) (by decide) dL_law_780 rfl ?_
        refine v_goto C0 893 dL_law_781 (by decide) ?_
        refine v_widen (k2 := k + 1) (n2 := n + 6) (by omega) (by omega) ?_
        exact v_sub (lv' := [(8, .int (nI 1)), (9, .int (nI i)), (12, .int (nI y)), (0, .ref b), (1, .ref (ad 0)), (2, .ref na), (3, .ref ua), (4, .ref ta), (5, .ref fa), (6, .ref ca), (7, .ref ba)]) [0, 5, 4, 6, 7, 8, 9, 10, 11, 12, 13] rfl (kk xu xt xf xc xb (updN xn 1 (y % 2)) w1 hl1 hw1)
    · refine v_iconst C0 (pc' := 760) (nI 1) (by decide +kernel) dL_law_759 rfl ?_
      refine v_goto C0 764 dL_law_760 (by decide) ?_
      refine v_icmp_neN C0 771 (pc' := 767) (by have := hn31 1; omega) (by omega) dL_law_764 (by decide) rfl (fun h7 => ?_) (fun h7 => ?_)
      · exact absurd (by omega) h7
      · refine v_iconst C0 (pc' := 768) (nI 1) (by decide +kernel) dL_law_767 rfl ?_
        refine v_goto C0 772 dL_law_768 (by decide) ?_
        refine v_istore C0 (lv' := [(8, .int (nI 1)), (15, .int (nI la)), (14, .int (nI w)), (13, .int (nI a)), (12, .int (nI y)), (9, .int (nI i)), (0, .ref b), (1, .ref (ad 0)), (2, .ref na), (3, .ref ua), (4, .ref ta), (5, .ref fa), (6, .ref ca), (7, .ref ba)]) (pc' := 774) (by decide) rfl dL_law_772 rfl ?_
        refine v_aload_n C0 (pc' := 775) 8 rfl rfl dL_law_774 rfl ?_
        refine v_iconst C0 (pc' := 776) (nI 1) (by decide +kernel) dL_law_775 rfl ?_
        refine v_iload C0 (pc' := 778) 4 rfl dL_law_776 rfl ?_
        refine v_iconst C0 (pc' := 779) (nI 2) (by decide +kernel) dL_law_778 rfl ?_
        refine v_iremN C0 (pc' := 780) (by omega) (by decide) (by decide) dL_law_779 rfl ?_
        refine v_iastN C0 hK (ws' := [(ba, .inl (cI, 36, .inl (nA xb))), (ca, .inl (cI, 36, .inl (nA xc))), (fa, .inl (cI, 36, .inl (nA xf))), (ta, .inl (cI, 36, .inl (nA xt))), (ua, .inl (cI, 36, .inl (nA xu))), (na, .inl (cI, 2, .inl (nA (updN xn 1 (y % 2)))))] ++ w1) (pc' := 781) 5 0 rfl rfl rfl (by omega) (by decide) dL_law_780 rfl ?_
        refine v_goto C0 893 dL_law_781 (by decide) ?_
        refine v_widen (k2 := k + 1) (n2 := n + 6) (by omega) (by omega) ?_
        exact v_sub (lv' := [(8, .int (nI 1)), (9, .int (nI i)), (12, .int (nI y)), (0, .ref b), (1, .ref (ad 0)), (2, .ref na), (3, .ref ua), (4, .ref ta), (5, .ref fa), (6, .ref ca), (7, .ref ba)]) [0, 5, 4, 6, 7, 8, 9, 10, 11, 12, 13] rfl (kk xu xt xf xc xb (updN xn 1 (y % 2)) w1 hl1 hw1)
set_option maxHeartbeats 4000000 in
set_option maxRecDepth 100000 in
theorem law_note {p : Program} {l : Launch} {e : Env} {s : State} {m : MethodId} {args : Array Value} {below : List Frame} {meth : Method} {c : Code} {D : va_G} {A : Nat → Prop} {k n : Nat} {Q : State → Prop} {cI : ClassId} {ad : Nat → Nat} {b na ua ta fa ca ba L : Nat} {xs : Nat → Int32} {xu xt xf xc xb xn : Nat → Nat} {wx : va_W} (h0 : LH p l m c s args D A cI b L xs) (h : LIs xu xt xf xc xb xn) (hw : WQ cI ad xu xt xf xc xb xn wx) {i y a w la : Nat} (hy : y ≤ 119304647) (ha : a < 36) (hwo : w < 36) (hla1 : 1 ≤ la) (hla : la < 16) (hk : k + 1 ≤ 765924) (hnn : n + 6 ≤ 6803927) (kk : ∀ (xu' xt' xf' xc' xb' xn' : Nat → Nat) (wx' : va_W), LIs xu' xt' xf' xc' xb' xn' → WQ cI ad xu' xt' xf' xc' xb' xn' wx' → V p l e room_1 s m args below meth c D A 19 (k + 1) (n + 6) Q ([(ba, .inl (cI, 36, .inl (nA xb'))), (ca, .inl (cI, 36, .inl (nA xc'))), (fa, .inl (cI, 36, .inl (nA xf'))), (ta, .inl (cI, 36, .inl (nA xt'))), (ua, .inl (cI, 36, .inl (nA xu'))), (na, .inl (cI, 2, .inl (nA xn')))] ++ wx') [(8, .int (nI 1)), (9, .int (nI i)), (12, .int (nI y)), (0, .ref b), (1, .ref (ad 0)), (2, .ref na), (3, .ref ua), (4, .ref ta), (5, .ref fa), (6, .ref ca), (7, .ref ba)] 893 []) : V p l e room_1 s m args below meth c D A 19 k n Q ([(ba, .inl (cI, 36, .inl (nA xb))), (ca, .inl (cI, 36, .inl (nA xc))), (fa, .inl (cI, 36, .inl (nA xf))), (ta, .inl (cI, 36, .inl (nA xt))), (ua, .inl (cI, 36, .inl (nA xu))), (na, .inl (cI, 2, .inl (nA xn)))] ++ wx) [(15, .int (nI la)), (14, .int (nI w)), (13, .int (nI a)), (12, .int (nI y)), (9, .int (nI i)), (8, .int (nI 1)), (0, .ref b), (1, .ref (ad 0)), (2, .ref na), (3, .ref ua), (4, .ref ta), (5, .ref fa), (6, .ref ca), (7, .ref ba)] 784 [] := by
  obtain ⟨C0, hst, hK, hA, hEN, hX, hbl, hbA, hL⟩ := id h0
  obtain ⟨hu, ht, hf, hc, hb, hn, hn1, hG, hS, hct⟩ := id h
  have hn31 : ∀ k, xn k < 2 ^ 31 := fun k => Nat.lt_of_le_of_lt (hn k) (by decide)
  suffices J_z : ∀ z : Nat, z ≤ 36 → V p l e room_1 s m args below meth c D A 19 k n Q ([(ba, .inl (cI, 36, .inl (nA xb))), (ca, .inl (cI, 36, .inl (nA xc))), (fa, .inl (cI, 36, .inl (nA xf))), (ta, .inl (cI, 36, .inl (nA xt))), (ua, .inl (cI, 36, .inl (nA xu))), (na, .inl (cI, 2, .inl (nA xn)))] ++ wx) [(15, .int (nI la)), (14, .int (nI w)), (13, .int (nI a)), (12, .int (nI y)), (9, .int (nI i)), (8, .int (nI 1)), (0, .ref b), (1, .ref (ad 0)), (2, .ref na), (3, .ref ua), (4, .ref ta), (5, .ref fa), (6, .ref ca), (7, .ref ba)] 814 [.int (nI z)] by
    refine v_iload C0 (pc' := 786) 3 rfl dL_law_784 rfl ?_
    refine v_iconst C0 (pc' := 787) (nI 5) (by decide +kernel) dL_law_786 rfl ?_
    refine v_iremN C0 (pc' := 788) (by omega) (by decide) (by decide) dL_law_787 rfl ?_
    refine v_if_neN C0 795 (pc' := 791) (by omega) dL_law_788 (by decide) rfl (fun h1 => ?_) (fun h1 => ?_)
    · refine v_iload C0 (pc' := 797) 3 rfl dL_law_795 rfl ?_
      refine v_iconst C0 (pc' := 798) (nI 3) (by decide +kernel) dL_law_797 rfl ?_
      refine v_iremN C0 (pc' := 799) (by omega) (by decide) (by decide) dL_law_798 rfl ?_
      refine v_if_neN C0 810 (pc' := 802) (by omega) dL_law_799 (by decide) rfl (fun h2 => ?_) (fun h2 => ?_)
      · refine v_iload C0 (pc' := 812) 1 rfl dL_law_810 rfl ?_
        refine v_iconst C0 (pc' := 813) (nI 1) (by decide +kernel) dL_law_812 rfl ?_
        refine v_iaddN C0 (pc' := 814) dL_law_813 rfl ?_
        exact J_z (w + 1) (by omega)
      · refine v_aload C0 (pc' := 804) 11 rfl dL_law_802 rfl ?_
        refine v_iload C0 (pc' := 806) 2 rfl dL_law_804 rfl ?_
        refine v_ialdN C0 hK (pc' := 807) 2 0 rfl rfl (by omega) (by decide) dL_law_806 rfl ?_
        refine v_goto C0 814 dL_law_807 (by decide) ?_
        exact J_z (xf a) (by have := hf a; omega)
    · refine v_iconst C0 (pc' := 792) (nI 0) (by decide +kernel) dL_law_791 rfl ?_
      refine v_goto C0 814 dL_law_792 (by decide) ?_
      exact J_z 0 (by omega)
  intro z h_z
  refine v_istore C0 (lv' := [(16, .int (nI z)), (15, .int (nI la)), (14, .int (nI w)), (13, .int (nI a)), (12, .int (nI y)), (9, .int (nI i)), (8, .int (nI 1)), (0, .ref b), (1, .ref (ad 0)), (2, .ref na), (3, .ref ua), (4, .ref ta), (5, .ref fa), (6, .ref ca), (7, .ref ba)]) (pc' := 816) (by decide) rfl dL_law_814 rfl ?_
  by_cases h3 : z = 0
  · by_cases h4 : xb a = 0
    · refine v_aload_n C0 (pc' := 817) 8 rfl rfl dL_law_816 rfl ?_
      refine v_iload C0 (pc' := 819) 3 rfl dL_law_817 rfl ?_
      refine v_bipush C0 (pc' := 821) (nI 6) (by decide +kernel) dL_law_819 rfl ?_
      refine v_idivN C0 (pc' := 822) (by omega) (by decide) (by decide) dL_law_821 rfl ?_
      refine v_iload C0 (pc' := 824) 3 rfl dL_law_822 rfl ?_
      refine v_bipush C0 (pc' := 826) (nI 6) (by decide +kernel) dL_law_824 rfl ?_
      refine v_iremN C0 (pc' := 827) (by omega) (by decide) (by decide) dL_law_826 rfl ?_
      refine v_iload C0 (pc' := 829) 0 rfl dL_law_827 rfl ?_
      refine v_if_neN C0 836 (pc' := 832) (by omega) dL_law_829 (by decide) rfl (fun h5 => ?_) (fun h5 => ?_)
      · exact absurd h3 h5
      · refine v_iconst C0 (pc' := 833) (-1) (by decide) dL_law_832 rfl ?_
        refine v_goto C0 843 dL_law_833 (by decide) ?_
        refine v_iload C0 (pc' := 845) 0 rfl dL_law_843 rfl ?_
        refine v_if_neN C0 853 (pc' := 848) (by omega) dL_law_845 (by decide) rfl (fun h6 => ?_) (fun h6 => ?_)
        · exact absurd h3 h6
        · refine v_bipush C0 (pc' := 850) (nI 9) (by decide +kernel) dL_law_848 rfl ?_
          refine v_goto C0 860 dL_law_850 (by decide) ?_
          obtain ⟨hl1, w1, hw1, c1⟩ := e_note l D h hw (k := a) (x := z) ha h_z
          rw [if_pos h3, if_pos h3, if_pos h4] at c1
          obtain ⟨f1, x1⟩ := (hw).x0
          refine v_callVi0 C0 (av := [.int (nI (a / 6)), .int (nI (a % 6)), .int (-1), .int (nI 9)]) (rest := []) (ws' := [(ba, .inl (cI, 36, .inl (nA xb))), (ca, .inl (cI, 36, .inl (nA xc))), (fa, .inl (cI, 36, .inl (nA xf))), (ta, .inl (cI, 36, .inl (nA xt))), (ua, .inl (cI, 36, .inl (nA xu))), (na, .inl (cI, 2, .inl (nA xn)))] ++ w1) (pc' := 863) hK hA c1 (cwV 4 C0.2.2.2.2 gL_law_X0_note rfl rfl rfl (by decide +kernel) ⟨Nat.le_of_ble_eq_true rfl, Nat.le_of_ble_eq_true rfl⟩) ⟨_, 0, _, _, _, rfl, ap_r (A := [(ba, .inl (cI, 36, .inl (nA xb))), (ca, .inl (cI, 36, .inl (nA xc))), (fa, .inl (cI, 36, .inl (nA xf))), (ta, .inl (cI, 36, .inl (nA xt))), (ua, .inl (cI, 36, .inl (nA xu))), (na, .inl (cI, 2, .inl (nA xn)))]) x1⟩ (PLs.rt (P := [(ba, .inl (cI, 36, .inl (nA xb))), (ca, .inl (cI, 36, .inl (nA xc))), (fa, .inl (cI, 36, .inl (nA xf))), (ta, .inl (cI, 36, .inl (nA xt))), (ua, .inl (cI, 36, .inl (nA xu))), (na, .inl (cI, 2, .inl (nA xn)))])) rfl rfl (Nat.le_of_ble_eq_true rfl) ⟨(by show k ≤ 765924; omega), (by show n ≤ 6803927; omega)⟩ dL_law_860 rfl ?_
          refine v_eqi (show (0 : Int32) = nI 0 from rfl) ?_
          refine v_aload C0 (pc' := 865) 14 rfl dL_law_863 rfl ?_
          refine v_iload C0 (pc' := 867) 3 rfl dL_law_865 rfl ?_
          refine v_ialdN C0 hK (pc' := 868) 0 0 rfl rfl (by omega) (by decide) dL_law_867 rfl ?_
          refine v_if_leN C0 875 (pc' := 871) (by have := hb a; omega) dL_law_868 (by decide) rfl (fun h7 => ?_) (fun h7 => ?_)
          · refine v_iconst C0 (pc' := 876) (nI 0) (by decide +kernel) dL_law_875 rfl ?_
            refine v_icmp_neN C0 883 (pc' := 879) (by omega) (by omega) dL_law_876 (by decide) rfl (fun h8 => ?_) (fun h8 => ?_)
            · exact absurd (by decide) h8
            · refine v_iconst C0 (pc' := 880) (nI 1) (by decide +kernel) dL_law_879 rfl ?_
              refine v_goto C0 884 dL_law_880 (by decide) ?_
              refine v_istore C0 (lv' := [(8, .int (nI 1)), (16, .int (nI z)), (15, .int (nI la)), (14, .int (nI w)), (13, .int (nI a)), (12, .int (nI y)), (9, .int (nI i)), (0, .ref b), (1, .ref (ad 0)), (2, .ref na), (3, .ref ua), (4, .ref ta), (5, .ref fa), (6, .ref ca), (7, .ref ba)]) (pc' := 886) (by decide) rfl dL_law_884 rfl ?_
              refine v_aload C0 (pc' := 888) 14 rfl dL_law_886 rfl ?_
              refine v_iload C0 (pc' := 890) 4 rfl dL_law_888 rfl ?_
              refine v_iload C0 (pc' := 892) 1 rfl dL_law_890 rfl ?_
              refine v_iastN C0 hK (ws' := [(ba, .inl (cI, 36, .inl (nA (updN xb a z)))), (ca, .inl (cI, 36, .inl (nA xc))), (fa, .inl (cI, 36, .inl (nA xf))), (ta, .inl (cI, 36, .inl (nA xt))), (ua, .inl (cI, 36, .inl (nA xu))), (na, .inl (cI, 2, .inl (nA xn)))] ++ w1) (pc' := 893) 0 0 rfl rfl rfl (by omega) (by decide) dL_law_892 rfl ?_
              refine v_widen (k2 := k + 1) (n2 := n + 6) (by omega) (by omega) ?_
              exact v_sub (lv' := [(8, .int (nI 1)), (9, .int (nI i)), (12, .int (nI y)), (0, .ref b), (1, .ref (ad 0)), (2, .ref na), (3, .ref ua), (4, .ref ta), (5, .ref fa), (6, .ref ca), (7, .ref ba)]) [0, 6, 5, 7, 8, 9, 10, 11, 12, 13, 14] rfl (kk xu xt xf xc (updN xb a z) xn w1 hl1 hw1)
          · exact absurd h4 h7
    · refine v_aload_n C0 (pc' := 817) 8 rfl rfl dL_law_816 rfl ?_
      refine v_iload C0 (pc' := 819) 3 rfl dL_law_817 rfl ?_
      refine v_bipush C0 (pc' := 821) (nI 6) (by decide +kernel) dL_law_819 rfl ?_
      refine v_idivN C0 (pc' := 822) (by omega) (by decide) (by decide) dL_law_821 rfl ?_
      refine v_iload C0 (pc' := 824) 3 rfl dL_law_822 rfl ?_
      refine v_bipush C0 (pc' := 826) (nI 6) (by decide +kernel) dL_law_824 rfl ?_
      refine v_iremN C0 (pc' := 827) (by omega) (by decide) (by decide) dL_law_826 rfl ?_
      refine v_iload C0 (pc' := 829) 0 rfl dL_law_827 rfl ?_
      refine v_if_neN C0 836 (pc' := 832) (by omega) dL_law_829 (by decide) rfl (fun h9 => ?_) (fun h9 => ?_)
      · exact absurd h3 h9
      · refine v_iconst C0 (pc' := 833) (-1) (by decide) dL_law_832 rfl ?_
        refine v_goto C0 843 dL_law_833 (by decide) ?_
        refine v_iload C0 (pc' := 845) 0 rfl dL_law_843 rfl ?_
        refine v_if_neN C0 853 (pc' := 848) (by omega) dL_law_845 (by decide) rfl (fun h10 => ?_) (fun h10 => ?_)
        · exact absurd h3 h10
        · refine v_bipush C0 (pc' := 850) (nI 9) (by decide +kernel) dL_law_848 rfl ?_
          refine v_goto C0 860 dL_law_850 (by decide) ?_
          obtain ⟨hl1, w1, hw1, c1⟩ := e_note l D h hw (k := a) (x := z) ha h_z
          rw [if_pos h3, if_pos h3, if_neg h4] at c1
          obtain ⟨f2, x2⟩ := (hw).x0
          refine v_callVi0 C0 (av := [.int (nI (a / 6)), .int (nI (a % 6)), .int (-1), .int (nI 9)]) (rest := []) (ws' := [(ba, .inl (cI, 36, .inl (nA xb))), (ca, .inl (cI, 36, .inl (nA xc))), (fa, .inl (cI, 36, .inl (nA xf))), (ta, .inl (cI, 36, .inl (nA xt))), (ua, .inl (cI, 36, .inl (nA xu))), (na, .inl (cI, 2, .inl (nA xn)))] ++ w1) (pc' := 863) hK hA c1 (cwV 4 C0.2.2.2.2 gL_law_X0_note rfl rfl rfl (by decide +kernel) ⟨Nat.le_of_ble_eq_true rfl, Nat.le_of_ble_eq_true rfl⟩) ⟨_, 0, _, _, _, rfl, ap_r (A := [(ba, .inl (cI, 36, .inl (nA xb))), (ca, .inl (cI, 36, .inl (nA xc))), (fa, .inl (cI, 36, .inl (nA xf))), (ta, .inl (cI, 36, .inl (nA xt))), (ua, .inl (cI, 36, .inl (nA xu))), (na, .inl (cI, 2, .inl (nA xn)))]) x2⟩ (PLs.rt (P := [(ba, .inl (cI, 36, .inl (nA xb))), (ca, .inl (cI, 36, .inl (nA xc))), (fa, .inl (cI, 36, .inl (nA xf))), (ta, .inl (cI, 36, .inl (nA xt))), (ua, .inl (cI, 36, .inl (nA xu))), (na, .inl (cI, 2, .inl (nA xn)))])) rfl rfl (Nat.le_of_ble_eq_true rfl) ⟨(by show k ≤ 765924; omega), (by show n ≤ 6803927; omega)⟩ dL_law_860 rfl ?_
          refine v_eqi (show (1 : Int32) = nI 1 from rfl) ?_
          refine v_aload C0 (pc' := 865) 14 rfl dL_law_863 rfl ?_
          refine v_iload C0 (pc' := 867) 3 rfl dL_law_865 rfl ?_
          refine v_ialdN C0 hK (pc' := 868) 0 0 rfl rfl (by omega) (by decide) dL_law_867 rfl ?_
          refine v_if_leN C0 875 (pc' := 871) (by have := hb a; omega) dL_law_868 (by decide) rfl (fun h11 => ?_) (fun h11 => ?_)
          · exact absurd h11 h4
          · refine v_iconst C0 (pc' := 872) (nI 1) (by decide +kernel) dL_law_871 rfl ?_
            refine v_goto C0 876 dL_law_872 (by decide) ?_
            refine v_icmp_neN C0 883 (pc' := 879) (by omega) (by omega) dL_law_876 (by decide) rfl (fun h12 => ?_) (fun h12 => ?_)
            · exact absurd (by decide) h12
            · refine v_iconst C0 (pc' := 880) (nI 1) (by decide +kernel) dL_law_879 rfl ?_
              refine v_goto C0 884 dL_law_880 (by decide) ?_
              refine v_istore C0 (lv' := [(8, .int (nI 1)), (16, .int (nI z)), (15, .int (nI la)), (14, .int (nI w)), (13, .int (nI a)), (12, .int (nI y)), (9, .int (nI i)), (0, .ref b), (1, .ref (ad 0)), (2, .ref na), (3, .ref ua), (4, .ref ta), (5, .ref fa), (6, .ref ca), (7, .ref ba)]) (pc' := 886) (by decide) rfl dL_law_884 rfl ?_
              refine v_aload C0 (pc' := 888) 14 rfl dL_law_886 rfl ?_
              refine v_iload C0 (pc' := 890) 4 rfl dL_law_888 rfl ?_
              refine v_iload C0 (pc' := 892) 1 rfl dL_law_890 rfl ?_
              refine v_iastN C0 hK (ws' := [(ba, .inl (cI, 36, .inl (nA (updN xb a z)))), (ca, .inl (cI, 36, .inl (nA xc))), (fa, .inl (cI, 36, .inl (nA xf))), (ta, .inl (cI, 36, .inl (nA xt))), (ua, .inl (cI, 36, .inl (nA xu))), (na, .inl (cI, 2, .inl (nA xn)))] ++ w1) (pc' := 893) 0 0 rfl rfl rfl (by omega) (by decide) dL_law_892 rfl ?_
              refine v_widen (k2 := k + 1) (n2 := n + 6) (by omega) (by omega) ?_
              exact v_sub (lv' := [(8, .int (nI 1)), (9, .int (nI i)), (12, .int (nI y)), (0, .ref b), (1, .ref (ad 0)), (2, .ref na), (3, .ref ua), (4, .ref ta), (5, .ref fa), (6, .ref ca), (7, .ref ba)]) [0, 6, 5, 7, 8, 9, 10, 11, 12, 13, 14] rfl (kk xu xt xf xc (updN xb a z) xn w1 hl1 hw1)
  · by_cases h13 : xb a = 0
    · refine v_aload_n C0 (pc' := 817) 8 rfl rfl dL_law_816 rfl ?_
      refine v_iload C0 (pc' := 819) 3 rfl dL_law_817 rfl ?_
      refine v_bipush C0 (pc' := 821) (nI 6) (by decide +kernel) dL_law_819 rfl ?_
      refine v_idivN C0 (pc' := 822) (by omega) (by decide) (by decide) dL_law_821 rfl ?_
      refine v_iload C0 (pc' := 824) 3 rfl dL_law_822 rfl ?_
      refine v_bipush C0 (pc' := 826) (nI 6) (by decide +kernel) dL_law_824 rfl ?_
      refine v_iremN C0 (pc' := 827) (by omega) (by decide) (by decide) dL_law_826 rfl ?_
      refine v_iload C0 (pc' := 829) 0 rfl dL_law_827 rfl ?_
      refine v_if_neN C0 836 (pc' := 832) (by omega) dL_law_829 (by decide) rfl (fun h14 => ?_) (fun h14 => ?_)
      · refine v_iload C0 (pc' := 838) 0 rfl dL_law_836 rfl ?_
        refine v_iconst C0 (pc' := 839) (nI 1) (by decide +kernel) dL_law_838 rfl ?_
        refine v_isubN C0 (pc' := 840) (by omega) dL_law_839 rfl ?_
        refine v_bipush C0 (pc' := 842) (nI 6) (by decide +kernel) dL_law_840 rfl ?_
        refine v_idivN C0 (pc' := 843) (by omega) (by decide) (by decide) dL_law_842 rfl ?_
        refine v_iload C0 (pc' := 845) 0 rfl dL_law_843 rfl ?_
        refine v_if_neN C0 853 (pc' := 848) (by omega) dL_law_845 (by decide) rfl (fun h15 => ?_) (fun h15 => ?_)
        · refine v_iload C0 (pc' := 855) 0 rfl dL_law_853 rfl ?_
          refine v_iconst C0 (pc' := 856) (nI 1) (by decide +kernel) dL_law_855 rfl ?_
          refine v_isubN C0 (pc' := 857) (by omega) dL_law_856 rfl ?_
          refine v_bipush C0 (pc' := 859) (nI 6) (by decide +kernel) dL_law_857 rfl ?_
          refine v_iremN C0 (pc' := 860) (by omega) (by decide) (by decide) dL_law_859 rfl ?_
          obtain ⟨hl1, w1, hw1, c1⟩ := e_note l D h hw (k := a) (x := z) ha h_z
          rw [if_neg h3, if_neg h3, if_pos h13] at c1
          obtain ⟨f3, x3⟩ := (hw).x0
          refine v_callVi0 C0 (av := [.int (nI (a / 6)), .int (nI (a % 6)), .int (nI ((z - 1) / 6)), .int (nI ((z - 1) % 6))]) (rest := []) (ws' := [(ba, .inl (cI, 36, .inl (nA xb))), (ca, .inl (cI, 36, .inl (nA xc))), (fa, .inl (cI, 36, .inl (nA xf))), (ta, .inl (cI, 36, .inl (nA xt))), (ua, .inl (cI, 36, .inl (nA xu))), (na, .inl (cI, 2, .inl (nA xn)))] ++ w1) (pc' := 863) hK hA c1 (cwV 4 C0.2.2.2.2 gL_law_X0_note rfl rfl rfl (by decide +kernel) ⟨Nat.le_of_ble_eq_true rfl, Nat.le_of_ble_eq_true rfl⟩) ⟨_, 0, _, _, _, rfl, ap_r (A := [(ba, .inl (cI, 36, .inl (nA xb))), (ca, .inl (cI, 36, .inl (nA xc))), (fa, .inl (cI, 36, .inl (nA xf))), (ta, .inl (cI, 36, .inl (nA xt))), (ua, .inl (cI, 36, .inl (nA xu))), (na, .inl (cI, 2, .inl (nA xn)))]) x3⟩ (PLs.rt (P := [(ba, .inl (cI, 36, .inl (nA xb))), (ca, .inl (cI, 36, .inl (nA xc))), (fa, .inl (cI, 36, .inl (nA xf))), (ta, .inl (cI, 36, .inl (nA xt))), (ua, .inl (cI, 36, .inl (nA xu))), (na, .inl (cI, 2, .inl (nA xn)))])) rfl rfl (Nat.le_of_ble_eq_true rfl) ⟨(by show k ≤ 765924; omega), (by show n ≤ 6803927; omega)⟩ dL_law_860 rfl ?_
          refine v_eqi (show (0 : Int32) = nI 0 from rfl) ?_
          refine v_aload C0 (pc' := 865) 14 rfl dL_law_863 rfl ?_
          refine v_iload C0 (pc' := 867) 3 rfl dL_law_865 rfl ?_
          refine v_ialdN C0 hK (pc' := 868) 0 0 rfl rfl (by omega) (by decide) dL_law_867 rfl ?_
          refine v_if_leN C0 875 (pc' := 871) (by have := hb a; omega) dL_law_868 (by decide) rfl (fun h16 => ?_) (fun h16 => ?_)
          · refine v_iconst C0 (pc' := 876) (nI 0) (by decide +kernel) dL_law_875 rfl ?_
            refine v_icmp_neN C0 883 (pc' := 879) (by omega) (by omega) dL_law_876 (by decide) rfl (fun h17 => ?_) (fun h17 => ?_)
            · exact absurd (by decide) h17
            · refine v_iconst C0 (pc' := 880) (nI 1) (by decide +kernel) dL_law_879 rfl ?_
              refine v_goto C0 884 dL_law_880 (by decide) ?_
              refine v_istore C0 (lv' := [(8, .int (nI 1)), (16, .int (nI z)), (15, .int (nI la)), (14, .int (nI w)), (13, .int (nI a)), (12, .int (nI y)), (9, .int (nI i)), (0, .ref b), (1, .ref (ad 0)), (2, .ref na), (3, .ref ua), (4, .ref ta), (5, .ref fa), (6, .ref ca), (7, .ref ba)]) (pc' := 886) (by decide) rfl dL_law_884 rfl ?_
              refine v_aload C0 (pc' := 888) 14 rfl dL_law_886 rfl ?_
              refine v_iload C0 (pc' := 890) 4 rfl dL_law_888 rfl ?_
              refine v_iload C0 (pc' := 892) 1 rfl dL_law_890 rfl ?_
              refine v_iastN C0 hK (ws' := [(ba, .inl (cI, 36, .inl (nA (updN xb a z)))), (ca, .inl (cI, 36, .inl (nA xc))), (fa, .inl (cI, 36, .inl (nA xf))), (ta, .inl (cI, 36, .inl (nA xt))), (ua, .inl (cI, 36, .inl (nA xu))), (na, .inl (cI, 2, .inl (nA xn)))] ++ w1) (pc' := 893) 0 0 rfl rfl rfl (by omega) (by decide) dL_law_892 rfl ?_
              refine v_widen (k2 := k + 1) (n2 := n + 6) (by omega) (by omega) ?_
              exact v_sub (lv' := [(8, .int (nI 1)), (9, .int (nI i)), (12, .int (nI y)), (0, .ref b), (1, .ref (ad 0)), (2, .ref na), (3, .ref ua), (4, .ref ta), (5, .ref fa), (6, .ref ca), (7, .ref ba)]) [0, 6, 5, 7, 8, 9, 10, 11, 12, 13, 14] rfl (kk xu xt xf xc (updN xb a z) xn w1 hl1 hw1)
          · exact absurd h13 h16
        · exact absurd h15 h3
      · exact absurd h14 h3
    · refine v_aload_n C0 (pc' := 817) 8 rfl rfl dL_law_816 rfl ?_
      refine v_iload C0 (pc' := 819) 3 rfl dL_law_817 rfl ?_
      refine v_bipush C0 (pc' := 821) (nI 6) (by decide +kernel) dL_law_819 rfl ?_
      refine v_idivN C0 (pc' := 822) (by omega) (by decide) (by decide) dL_law_821 rfl ?_
      refine v_iload C0 (pc' := 824) 3 rfl dL_law_822 rfl ?_
      refine v_bipush C0 (pc' := 826) (nI 6) (by decide +kernel) dL_law_824 rfl ?_
      refine v_iremN C0 (pc' := 827) (by omega) (by decide) (by decide) dL_law_826 rfl ?_
      refine v_iload C0 (pc' := 829) 0 rfl dL_law_827 rfl ?_
      refine v_if_neN C0 836 (pc' := 832) (by omega) dL_law_829 (by decide) rfl (fun h18 => ?_) (fun h18 => ?_)
      · refine v_iload C0 (pc' := 838) 0 rfl dL_law_836 rfl ?_
        refine v_iconst C0 (pc' := 839) (nI 1) (by decide +kernel) dL_law_838 rfl ?_
        refine v_isubN C0 (pc' := 840) (by omega) dL_law_839 rfl ?_
        refine v_bipush C0 (pc' := 842) (nI 6) (by decide +kernel) dL_law_840 rfl ?_
        refine v_idivN C0 (pc' := 843) (by omega) (by decide) (by decide) dL_law_842 rfl ?_
        refine v_iload C0 (pc' := 845) 0 rfl dL_law_843 rfl ?_
        refine v_if_neN C0 853 (pc' := 848) (by omega) dL_law_845 (by decide) rfl (fun h19 => ?_) (fun h19 => ?_)
        · refine v_iload C0 (pc' := 855) 0 rfl dL_law_853 rfl ?_
          refine v_iconst C0 (pc' := 856) (nI 1) (by decide +kernel) dL_law_855 rfl ?_
          refine v_isubN C0 (pc' := 857) (by omega) dL_law_856 rfl ?_
          refine v_bipush C0 (pc' := 859) (nI 6) (by decide +kernel) dL_law_857 rfl ?_
          refine v_iremN C0 (pc' := 860) (by omega) (by decide) (by decide) dL_law_859 rfl ?_
          obtain ⟨hl1, w1, hw1, c1⟩ := e_note l D h hw (k := a) (x := z) ha h_z
          rw [if_neg h3, if_neg h3, if_neg h13] at c1
          obtain ⟨f4, x4⟩ := (hw).x0
          refine v_callVi0 C0 (av := [.int (nI (a / 6)), .int (nI (a % 6)), .int (nI ((z - 1) / 6)), .int (nI ((z - 1) % 6))]) (rest := []) (ws' := [(ba, .inl (cI, 36, .inl (nA xb))), (ca, .inl (cI, 36, .inl (nA xc))), (fa, .inl (cI, 36, .inl (nA xf))), (ta, .inl (cI, 36, .inl (nA xt))), (ua, .inl (cI, 36, .inl (nA xu))), (na, .inl (cI, 2, .inl (nA xn)))] ++ w1) (pc' := 863) hK hA c1 (cwV 4 C0.2.2.2.2 gL_law_X0_note rfl rfl rfl (by decide +kernel) ⟨Nat.le_of_ble_eq_true rfl, Nat.le_of_ble_eq_true rfl⟩) ⟨_, 0, _, _, _, rfl, ap_r (A := [(ba, .inl (cI, 36, .inl (nA xb))), (ca, .inl (cI, 36, .inl (nA xc))), (fa, .inl (cI, 36, .inl (nA xf))), (ta, .inl (cI, 36, .inl (nA xt))), (ua, .inl (cI, 36, .inl (nA xu))), (na, .inl (cI, 2, .inl (nA xn)))]) x4⟩ (PLs.rt (P := [(ba, .inl (cI, 36, .inl (nA xb))), (ca, .inl (cI, 36, .inl (nA xc))), (fa, .inl (cI, 36, .inl (nA xf))), (ta, .inl (cI, 36, .inl (nA xt))), (ua, .inl (cI, 36, .inl (nA xu))), (na, .inl (cI, 2, .inl (nA xn)))])) rfl rfl (Nat.le_of_ble_eq_true rfl) ⟨(by show k ≤ 765924; omega), (by show n ≤ 6803927; omega)⟩ dL_law_860 rfl ?_
          refine v_eqi (show (1 : Int32) = nI 1 from rfl) ?_
          refine v_aload C0 (pc' := 865) 14 rfl dL_law_863 rfl ?_
          refine v_iload C0 (pc' := 867) 3 rfl dL_law_865 rfl ?_
          refine v_ialdN C0 hK (pc' := 868) 0 0 rfl rfl (by omega) (by decide) dL_law_867 rfl ?_
          refine v_if_leN C0 875 (pc' := 871) (by have := hb a; omega) dL_law_868 (by decide) rfl (fun h20 => ?_) (fun h20 => ?_)
          · exact absurd h20 h13
          · refine v_iconst C0 (pc' := 872) (nI 1) (by decide +kernel) dL_law_871 rfl ?_
            refine v_goto C0 876 dL_law_872 (by decide) ?_
            refine v_icmp_neN C0 883 (pc' := 879) (by omega) (by omega) dL_law_876 (by decide) rfl (fun h21 => ?_) (fun h21 => ?_)
            · exact absurd (by decide) h21
            · refine v_iconst C0 (pc' := 880) (nI 1) (by decide +kernel) dL_law_879 rfl ?_
              refine v_goto C0 884 dL_law_880 (by decide) ?_
              refine v_istore C0 (lv' := [(8, .int (nI 1)), (16, .int (nI z)), (15, .int (nI la)), (14, .int (nI w)), (13, .int (nI a)), (12, .int (nI y)), (9, .int (nI i)), (0, .ref b), (1, .ref (ad 0)), (2, .ref na), (3, .ref ua), (4, .ref ta), (5, .ref fa), (6, .ref ca), (7, .ref ba)]) (pc' := 886) (by decide) rfl dL_law_884 rfl ?_
              refine v_aload C0 (pc' := 888) 14 rfl dL_law_886 rfl ?_
              refine v_iload C0 (pc' := 890) 4 rfl dL_law_888 rfl ?_
              refine v_iload C0 (pc' := 892) 1 rfl dL_law_890 rfl ?_
              refine v_iastN C0 hK (ws' := [(ba, .inl (cI, 36, .inl (nA (updN xb a z)))), (ca, .inl (cI, 36, .inl (nA xc))), (fa, .inl (cI, 36, .inl (nA xf))), (ta, .inl (cI, 36, .inl (nA xt))), (ua, .inl (cI, 36, .inl (nA xu))), (na, .inl (cI, 2, .inl (nA xn)))] ++ w1) (pc' := 893) 0 0 rfl rfl rfl (by omega) (by decide) dL_law_892 rfl ?_
              refine v_widen (k2 := k + 1) (n2 := n + 6) (by omega) (by omega) ?_
              exact v_sub (lv' := [(8, .int (nI 1)), (9, .int (nI i)), (12, .int (nI y)), (0, .ref b), (1, .ref (ad 0)), (2, .ref na), (3, .ref ua), (4, .ref ta), (5, .ref fa), (6, .ref ca), (7, .ref ba)]) [0, 6, 5, 7, 8, 9, 10, 11, 12, 13, 14] rfl (kk xu xt xf xc (updN xb a z) xn w1 hl1 hw1)
        · exact absurd h19 h3
      · exact absurd h18 h3
