theorem b6 (i : Nat) : 6 * nI i + 6 = nI (6 + 6 * i) := by
  rw [show (6 : Int32) = nI 6 from rfl, pk_mul, nI_add, Nat.add_comm]
theorem xAt_put {z : Nat} {f : Nat → Int32} {i x : Int32} (h : vp_in i z) (hz : z < 2 ^ 31) : xAt z (xPut z f i x) i = x := by
  rw [xAt_in h hz, xPut_in h hz]
  exact pk_us
theorem xAt_put_ne {z : Nat} {f : Nat → Int32} {i j x : Int32} (h : vp_in i z) (hj : vp_in j z) (hz : z < 2 ^ 31) (hne : j ≠ i) : xAt z (xPut z f i x) j = xAt z f j := by
  rw [xAt_in hj hz, xAt_in hj hz, xPut_in h hz]
  refine pk_un (fun q => hne ?_)
  obtain ⟨a, ha, rfl⟩ := vp_in_of h hz
  obtain ⟨b, hb, rfl⟩ := vp_in_of hj hz
  rw [nI_clamp (by omega), nI_clamp (by omega)] at q
  rw [q]
/-- nothing, or a port's number -/
def WR (x : Int32) : Prop := x = -1 ∨ vp_in x 36
def s_X1_layTree_L1  (i1 : Nat) (RO_L1 : Nat → Int32) : Nat → Int32 := (xPut 6 RO_L1 (nI i1) (nI i1))
def s_X1_layTree_L2 (F : Nat → Int32) (i1 : Nat) (RO_L2 : Nat → Int32) : Nat → Int32 := if (xAt 36 F ((nI i1) - (nI i1) / 36 * 36)) = (-1) then ((xPut 6 RO_L2 (((nI i1) - (nI i1) / 36 * 36) / 6) (xAt 6 RO_L2 (((nI i1) - (nI i1) / 36 * 36) / 6)))) else (if (xAt 6 RO_L2 (((nI i1) - (nI i1) / 36 * 36) / 6)) ≤ (xAt 6 RO_L2 ((xAt 36 F ((nI i1) - (nI i1) / 36 * 36)) / 6)) then (xPut 6 RO_L2 (((nI i1) - (nI i1) / 36 * 36) / 6) (xAt 6 RO_L2 (((nI i1) - (nI i1) / 36 * 36) / 6))) else (xPut 6 RO_L2 (((nI i1) - (nI i1) / 36 * 36) / 6) (xAt 6 RO_L2 ((xAt 36 F ((nI i1) - (nI i1) / 36 * 36)) / 6))))
def s_X1_layTree_L3 (RO_L2 : Nat → Int32) (i1 : Nat) (SU_L3 : Nat → Int32) : Nat → Int32 := if (xAt 6 RO_L2 (nI i1)) = (nI i1) then (xPut 6 SU_L3 (nI i1) 0) else (xPut 6 SU_L3 (nI i1) 1000000)
def s_X1_layTree_L4 (F : Nat → Int32) (C : Nat → Int32) (i1 : Nat) (SU_L4 : Nat → Int32) : Nat → Int32 := if (xAt 36 F ((nI i1) - (nI i1) / 36 * 36)) = (-1) then (if (xAt 6 SU_L4 (((nI i1) - (nI i1) / 36 * 36) / 6)) ≤ 1000000 then (xPut 6 SU_L4 (((nI i1) - (nI i1) / 36 * 36) / 6) (xAt 6 SU_L4 (((nI i1) - (nI i1) / 36 * 36) / 6))) else (xPut 6 SU_L4 (((nI i1) - (nI i1) / 36 * 36) / 6) 1000000)) else (if (xAt 6 SU_L4 (((nI i1) - (nI i1) / 36 * 36) / 6)) ≤ ((xAt 36 C ((nI i1) - (nI i1) / 36 * 36)) + (xAt 6 SU_L4 ((xAt 36 F ((nI i1) - (nI i1) / 36 * 36)) / 6))) then (xPut 6 SU_L4 (((nI i1) - (nI i1) / 36 * 36) / 6) (xAt 6 SU_L4 (((nI i1) - (nI i1) / 36 * 36) / 6))) else (xPut 6 SU_L4 (((nI i1) - (nI i1) / 36 * 36) / 6) ((xAt 36 C ((nI i1) - (nI i1) / 36 * 36)) + (xAt 6 SU_L4 ((xAt 36 F ((nI i1) - (nI i1) / 36 * 36)) / 6)))))
def s_X1_layTree_L6 (F : Nat → Int32) (C : Nat → Int32) (i1 : Nat) (SU_L4 : Nat → Int32) (i2 : Nat) (WY_L6 : Nat → Int32) : Nat → Int32 := if (xAt 36 F (nI (i2 + (6 * i1)))) = (-1) then (xPut 6 WY_L6 (nI i1) (xAt 6 WY_L6 (nI i1))) else (if ((xAt 36 C (nI (i2 + (6 * i1)))) + (xAt 6 SU_L4 ((xAt 36 F (nI (i2 + (6 * i1)))) / 6))) = (xAt 6 SU_L4 (nI i1)) then (if (xAt 6 WY_L6 (nI i1)) = (-1) then (xPut 6 WY_L6 (nI i1) (nI (i2 + (6 * i1)))) else (if ((xAt 36 F (xAt 6 WY_L6 (nI i1))) / 6) ≤ ((xAt 36 F (nI (i2 + (6 * i1)))) / 6) then (xPut 6 WY_L6 (nI i1) (xAt 6 WY_L6 (nI i1))) else (xPut 6 WY_L6 (nI i1) (nI (i2 + (6 * i1)))))) else (xPut 6 WY_L6 (nI i1) (xAt 6 WY_L6 (nI i1))))
def s_X1_layTree_L5 (F : Nat → Int32) (C : Nat → Int32) (RO_L2 : Nat → Int32) (SU_L4 : Nat → Int32) (i1 : Nat) (WY_L5 : Nat → Int32) : Nat → Int32 := if (xAt 6 RO_L2 (nI i1)) = (nI i1) then (xPut 6 WY_L5 (nI i1) (-1)) else (lp (s_X1_layTree_L6 F C i1 SU_L4) 6 (xPut 6 WY_L5 (nI i1) (-1)))
def s_X1_layTree_RO (F : Nat → Int32) (RO : Nat → Int32) : Nat → Int32 := (lp (s_X1_layTree_L2 F) 216 (lp s_X1_layTree_L1 6 RO))
def s_X1_layTree_WY (F : Nat → Int32) (C : Nat → Int32) (RO : Nat → Int32) (WY : Nat → Int32) (SU : Nat → Int32) : Nat → Int32 := (lp (s_X1_layTree_L5 F C (lp (s_X1_layTree_L2 F) 216 (lp s_X1_layTree_L1 6 RO)) (lp (s_X1_layTree_L4 F C) 216 (lp (s_X1_layTree_L3 (lp (s_X1_layTree_L2 F) 216 (lp s_X1_layTree_L1 6 RO))) 6 SU))) 6 WY)
def s_X1_layTree_SU (F : Nat → Int32) (C : Nat → Int32) (RO : Nat → Int32) (SU : Nat → Int32) : Nat → Int32 := (lp (s_X1_layTree_L4 F C) 216 (lp (s_X1_layTree_L3 (lp (s_X1_layTree_L2 F) 216 (lp s_X1_layTree_L1 6 RO))) 6 SU))
set_option maxHeartbeats 4000000 in
set_option maxRecDepth 100000 in
theorem k_X1_layTree (l : Launch) (D : va_G) (cI : ClassId) (bd : Nat → Nat) (U : Nat → Int32) (T : Nat → Int32) (F : Nat → Int32) (C : Nat → Int32) (B : Nat → Int32) (CM : Int32) (TR : Int32) (RO : Nat → Int32) (WY : Nat → Int32) (SU : Nat → Int32) (TH : Int32) (ST : Nat → Int32) (QU : Nat → Int32) (QN : Int32) (FE : Nat → Int32)  (hF : FR F) : Kv l yX1_layTree wsX1_layTree 0 0 0 0 D (TI cI) [.ref (bd 0)] (wY cI bd U T F C B CM TR RO WY SU TH ST QU QN FE) (wY cI bd U T F C B CM TR (s_X1_layTree_RO F RO) (s_X1_layTree_WY F C RO WY SU) (s_X1_layTree_SU F C RO SU) TH ST QU QN FE) := by
  refine Kv.of (cc := cX1_layTree) (maxL := 5) (lv0 := [(0, .ref (bd 0))]) (by decide +kernel) rfl (Nat.le_of_ble_eq_true rfl) rfl ?_
  intro p e s m args below meth c A C0 hr hlk hK hA
  refine v_iconst C0 (pc' := 1) 0 (by decide) dX1_layTree_0 rfl ?_
  refine v_istore_n C0 (lv' := [(1, .int 0), (0, .ref (bd 0))]) (pc' := 2) rfl (by decide) rfl dX1_layTree_1 rfl ?_
  suffices LP1 : ∀ (j1 i1 : Nat) (x1 : Int32) (RO_L1 : Nat → Int32), i1 + j1 = 6 → x1 = nI i1 → RO_L1 = lp s_X1_layTree_L1 i1 RO → V p l e { frames := 0, cells := 0, slots := 0, locals := 0 } s m args below meth c D A 5 0 0 (MQ below (QV D (TI cI) (wY cI bd U T F C B CM TR (s_X1_layTree_RO F RO) (s_X1_layTree_WY F C RO WY SU) (s_X1_layTree_SU F C RO SU) TH ST QU QN FE) A) args s 0 0 A) (wY cI bd U T F C B CM TR RO_L1 WY SU TH ST QU QN FE) [(1, .int x1), (0, .ref (bd 0))] 2 [] by
    exact v_sub (lv' := [(1, .int 0), (0, .ref (bd 0))]) [0, 1] rfl (LP1 6 0 0 RO (Nat.zero_add _) nI_0.symm (lp_zero _ _).symm)
  intro j1
  induction j1 with
  | zero =>
    intro i1 x1 RO_L1 hi1 hx1 hs_L1
    have hi1 : 6 = i1 := by omega
    subst hi1
    subst hx1
    refine v_iload_n C0 (pc' := 3) 0 rfl rfl dX1_layTree_2 rfl ?_
    refine v_bipush C0 (pc' := 5) 6 (by decide) dX1_layTree_3 rfl ?_
    refine v_icmp_ge C0 21 (pc' := 8) dX1_layTree_5 (by decide) rfl (fun h1 => ?_) (fun h1 => ?_)
    · refine v_iconst C0 (pc' := 22) 0 (by decide) dX1_layTree_21 rfl ?_
      refine v_istore_n C0 (lv' := [(1, .int 0), (0, .ref (bd 0))]) (pc' := 23) rfl (by decide) rfl dX1_layTree_22 rfl ?_
      suffices LP1 : ∀ (j1 i1 : Nat) (x1 : Int32) (RO_L2 : Nat → Int32), i1 + j1 = 216 → x1 = nI i1 → RO_L2 = lp (s_X1_layTree_L2 F) i1 RO_L1 → V p l e { frames := 0, cells := 0, slots := 0, locals := 0 } s m args below meth c D A 5 0 0 (MQ below (QV D (TI cI) (wY cI bd U T F C B CM TR (s_X1_layTree_RO F RO) (s_X1_layTree_WY F C RO WY SU) (s_X1_layTree_SU F C RO SU) TH ST QU QN FE) A) args s 0 0 A) (wY cI bd U T F C B CM TR RO_L2 WY SU TH ST QU QN FE) [(1, .int x1), (0, .ref (bd 0))] 23 [] by
        exact v_sub (lv' := [(1, .int 0), (0, .ref (bd 0))]) [0, 1] rfl (LP1 216 0 0 RO_L1 (Nat.zero_add _) nI_0.symm (lp_zero _ _).symm)
      intro j1
      induction j1 with
      | zero =>
        intro i1 x1 RO_L2 hi1 hx1 hs_L2
        have hi1 : 216 = i1 := by omega
        subst hi1
        subst hx1
        refine v_iload_n C0 (pc' := 24) 0 rfl rfl dX1_layTree_23 rfl ?_
        refine v_sipush C0 (pc' := 27) 216 (by decide) dX1_layTree_24 rfl ?_
        refine v_icmp_ge C0 113 (pc' := 30) dX1_layTree_27 (by decide) rfl (fun h2 => ?_) (fun h2 => ?_)
        · refine v_iconst C0 (pc' := 114) 0 (by decide) dX1_layTree_113 rfl ?_
          refine v_istore_n C0 (lv' := [(1, .int 0), (0, .ref (bd 0))]) (pc' := 115) rfl (by decide) rfl dX1_layTree_114 rfl ?_
          suffices LP1 : ∀ (j1 i1 : Nat) (x1 : Int32) (SU_L3 : Nat → Int32), i1 + j1 = 6 → x1 = nI i1 → SU_L3 = lp (s_X1_layTree_L3 RO_L2) i1 SU → V p l e { frames := 0, cells := 0, slots := 0, locals := 0 } s m args below meth c D A 5 0 0 (MQ below (QV D (TI cI) (wY cI bd U T F C B CM TR (s_X1_layTree_RO F RO) (s_X1_layTree_WY F C RO WY SU) (s_X1_layTree_SU F C RO SU) TH ST QU QN FE) A) args s 0 0 A) (wY cI bd U T F C B CM TR RO_L2 WY SU_L3 TH ST QU QN FE) [(1, .int x1), (0, .ref (bd 0))] 115 [] by
            exact v_sub (lv' := [(1, .int 0), (0, .ref (bd 0))]) [0, 1] rfl (LP1 6 0 0 SU (Nat.zero_add _) nI_0.symm (lp_zero _ _).symm)
          intro j1
          induction j1 with
          | zero =>
            intro i1 x1 SU_L3 hi1 hx1 hs_L3
            have hi1 : 6 = i1 := by omega
            subst hi1
            subst hx1
            refine v_iload_n C0 (pc' := 116) 0 rfl rfl dX1_layTree_115 rfl ?_
            refine v_bipush C0 (pc' := 118) 6 (by decide) dX1_layTree_116 rfl ?_
            refine v_icmp_ge C0 149 (pc' := 121) dX1_layTree_118 (by decide) rfl (fun h3 => ?_) (fun h3 => ?_)
            · refine v_iconst C0 (pc' := 150) 0 (by decide) dX1_layTree_149 rfl ?_
              refine v_istore_n C0 (lv' := [(1, .int 0), (0, .ref (bd 0))]) (pc' := 151) rfl (by decide) rfl dX1_layTree_150 rfl ?_
              suffices LP1 : ∀ (j1 i1 : Nat) (x1 : Int32) (SU_L4 : Nat → Int32), i1 + j1 = 216 → x1 = nI i1 → SU_L4 = lp (s_X1_layTree_L4 F C) i1 SU_L3 → V p l e { frames := 0, cells := 0, slots := 0, locals := 0 } s m args below meth c D A 5 0 0 (MQ below (QV D (TI cI) (wY cI bd U T F C B CM TR (s_X1_layTree_RO F RO) (s_X1_layTree_WY F C RO WY SU) (s_X1_layTree_SU F C RO SU) TH ST QU QN FE) A) args s 0 0 A) (wY cI bd U T F C B CM TR RO_L2 WY SU_L4 TH ST QU QN FE) [(1, .int x1), (0, .ref (bd 0))] 151 [] by
                exact v_sub (lv' := [(1, .int 0), (0, .ref (bd 0))]) [0, 1] rfl (LP1 216 0 0 SU_L3 (Nat.zero_add _) nI_0.symm (lp_zero _ _).symm)
              intro j1
              induction j1 with
              | zero =>
                intro i1 x1 SU_L4 hi1 hx1 hs_L4
                have hi1 : 216 = i1 := by omega
                subst hi1
                subst hx1
                refine v_iload_n C0 (pc' := 152) 0 rfl rfl dX1_layTree_151 rfl ?_
                refine v_sipush C0 (pc' := 155) 216 (by decide) dX1_layTree_152 rfl ?_
                refine v_icmp_ge C0 241 (pc' := 158) dX1_layTree_155 (by decide) rfl (fun h4 => ?_) (fun h4 => ?_)
                · refine v_iconst C0 (pc' := 242) 0 (by decide) dX1_layTree_241 rfl ?_
                  refine v_istore_n C0 (lv' := [(1, .int 0), (0, .ref (bd 0))]) (pc' := 243) rfl (by decide) rfl dX1_layTree_242 rfl ?_
                  suffices LP1 : ∀ (j1 i1 : Nat) (x1 : Int32) (WY_L5 : Nat → Int32), i1 + j1 = 6 → x1 = nI i1 → WY_L5 = lp (s_X1_layTree_L5 F C RO_L2 SU_L4) i1 WY → V p l e { frames := 0, cells := 0, slots := 0, locals := 0 } s m args below meth c D A 5 0 0 (MQ below (QV D (TI cI) (wY cI bd U T F C B CM TR (s_X1_layTree_RO F RO) (s_X1_layTree_WY F C RO WY SU) (s_X1_layTree_SU F C RO SU) TH ST QU QN FE) A) args s 0 0 A) (wY cI bd U T F C B CM TR RO_L2 WY_L5 SU_L4 TH ST QU QN FE) [(1, .int x1), (0, .ref (bd 0))] 243 [] by
                    exact v_sub (lv' := [(1, .int 0), (0, .ref (bd 0))]) [0, 1] rfl (LP1 6 0 0 WY (Nat.zero_add _) nI_0.symm (lp_zero _ _).symm)
                  intro j1
                  induction j1 with
                  | zero =>
                    intro i1 x1 WY_L5 hi1 hx1 hs_L5
                    have hi1 : 6 = i1 := by omega
                    subst hi1
                    subst hx1
                    refine v_iload_n C0 (pc' := 244) 0 rfl rfl dX1_layTree_243 rfl ?_
                    refine v_bipush C0 (pc' := 246) 6 (by decide) dX1_layTree_244 rfl ?_
                    refine v_icmp_ge C0 408 (pc' := 249) dX1_layTree_246 (by decide) rfl (fun h5 => ?_) (fun h5 => ?_)
                    · refine v_world (ws' := wY cI bd U T F C B CM TR (s_X1_layTree_RO F RO) (s_X1_layTree_WY F C RO WY SU) (s_X1_layTree_SU F C RO SU) TH ST QU QN FE) (by simp only [s_X1_layTree_RO, s_X1_layTree_WY, s_X1_layTree_SU, if_pos h1, if_pos h2, ← hs_L1, ← hs_L2, ← hs_L3, ← hs_L4, ← hs_L5]) ?_
                      exact v_vret C0 hr hlk hK dX1_layTree_408
                    · exact absurd (by decide +kernel) h5
                  | succ j1 ih1 =>
                    intro i1 x1 WY_L5 hi1 hx1 hs_L5
                    subst hx1
                    refine v_iload_n C0 (pc' := 244) 0 rfl rfl dX1_layTree_243 rfl ?_
                    refine v_bipush C0 (pc' := 246) 6 (by decide) dX1_layTree_244 rfl ?_
                    refine v_icmp_ge C0 408 (pc' := 249) dX1_layTree_246 (by decide) rfl (fun h6 => ?_) (fun h6 => ?_)
                    · exact absurd h6 (nI_ge (a := i1) (b := 6) (by omega) (by decide))
                    · refine v_aload_n C0 (pc' := 250) 1 rfl rfl dX1_layTree_249 rfl ?_
                      refine v_get C0 hK (C := RX1) (T := TX1) (N := 15) (pc' := 253) 0 8 rfl rfl rfl (by decide) in_X1_layTree fl_X1_layTree_28 rfl dX1_layTree_250 rfl ?_
                      refine v_iload_n C0 (pc' := 254) 0 rfl rfl dX1_layTree_253 rfl ?_
                      refine v_iconst C0 (pc' := 255) (-1) (by decide) dX1_layTree_254 rfl ?_
                      refine v_iasx C0 hK (ws' := wY cI bd U T F C B CM TR RO_L2 (xPut 6 WY_L5 (nI i1) (-1)) SU_L4 TH ST QU QN FE) (pc' := 256) 7 0 rfl rfl rfl (vp_in_nI (by omega) (by decide)) (by decide) dX1_layTree_255 rfl ?_
                      refine v_bipush C0 (pc' := 258) 6 (by decide) dX1_layTree_256 rfl ?_
                      refine v_iload_n C0 (pc' := 259) 0 rfl rfl dX1_layTree_258 rfl ?_
                      refine v_imul C0 (pc' := 260) dX1_layTree_259 rfl ?_
                      refine v_eqi (y := nI (6 * i1)) (pk_mul 6 i1) ?_
                      refine v_istore_n C0 (lv' := [(2, .int (nI (6 * i1))), (1, .int (nI i1)), (0, .ref (bd 0))]) (pc' := 261) rfl (by decide) rfl dX1_layTree_260 rfl ?_
                      by_cases h7 : (xAt 6 RO_L2 (nI i1)) = (nI i1)
                      · refine v_iload_n C0 (pc' := 262) 0 rfl rfl dX1_layTree_261 rfl ?_
                        refine v_bipush C0 (pc' := 264) 6 (by decide) dX1_layTree_262 rfl ?_
                        refine v_iload_n C0 (pc' := 265) 1 rfl rfl dX1_layTree_264 rfl ?_
                        refine v_imul C0 (pc' := 266) dX1_layTree_265 rfl ?_
                        refine v_bipush C0 (pc' := 268) 6 (by decide) dX1_layTree_266 rfl ?_
                        refine v_iadd C0 (pc' := 269) dX1_layTree_268 rfl ?_
                        refine v_icmp_ge C0 402 (pc' := 272) dX1_layTree_269 (by decide) rfl (fun h8 => ?_) (fun h8 => ?_)
                        · exact absurd (b6 i1 ▸ h8) (nI_ge (a := 6 * i1) (b := 6 + 6 * i1) (by omega) (by omega))
                        · refine v_aload_n C0 (pc' := 273) 2 rfl rfl dX1_layTree_272 rfl ?_
                          refine v_get C0 hK (C := RX1) (T := TX1) (N := 15) (pc' := 276) 0 7 rfl rfl rfl (by decide) in_X1_layTree fl_X1_layTree_25 rfl dX1_layTree_273 rfl ?_
                          refine v_iload_n C0 (pc' := 277) 1 rfl rfl dX1_layTree_276 rfl ?_
                          refine v_ialx C0 hK (pc' := 278) 6 0 rfl rfl (vp_in_nI (by omega) (by decide)) (by decide) dX1_layTree_277 rfl ?_
                          refine v_iload_n C0 (pc' := 279) 1 rfl rfl dX1_layTree_278 rfl ?_
                          refine v_icmp_eq C0 402 (pc' := 282) dX1_layTree_279 (by decide) rfl (fun h9 => ?_) (fun h9 => ?_)
                          · refine v_iinc C0 (lv' := [(1, .int ((nI i1) + 1)), (2, .int (nI (6 * i1))), (0, .ref (bd 0))]) (pc' := 405) 1 rfl ((nI i1) + 1) rfl (by decide) rfl dX1_layTree_402 rfl ?_
                            refine v_goto C0 243 dX1_layTree_405 (by decide) ?_
                            exact v_sub (lv' := [(1, .int ((nI i1) + 1)), (0, .ref (bd 0))]) [0, 2] rfl (ih1 (i1 + 1) ((nI i1) + 1) (xPut 6 WY_L5 (nI i1) (-1)) (by omega) (by rw [nI_1]) (by rw [lp_succ, ← hs_L5]; simp only [s_X1_layTree_L5, if_pos h1, if_pos h2, if_neg h6, if_pos h7, if_neg h8]))
                          · exact absurd h7 h9
                      · suffices LP2 : ∀ (j2 i2 : Nat) (x2 : Int32) (WY_L6 : Nat → Int32), i2 + j2 = 6 → x2 = nI (i2 + (6 * i1)) → WY_L6 = lp (s_X1_layTree_L6 F C i1 SU_L4) i2 (xPut 6 WY_L5 (nI i1) (-1)) → (WR (xAt 6 WY_L6 (nI i1))) → V p l e { frames := 0, cells := 0, slots := 0, locals := 0 } s m args below meth c D A 5 0 0 (MQ below (QV D (TI cI) (wY cI bd U T F C B CM TR (s_X1_layTree_RO F RO) (s_X1_layTree_WY F C RO WY SU) (s_X1_layTree_SU F C RO SU) TH ST QU QN FE) A) args s 0 0 A) (wY cI bd U T F C B CM TR RO_L2 WY_L6 SU_L4 TH ST QU QN FE) [(2, .int x2), (1, .int (nI i1)), (0, .ref (bd 0))] 261 [] by
                          exact v_sub (lv' := [(2, .int (nI (6 * i1))), (1, .int (nI i1)), (0, .ref (bd 0))]) [0, 1, 2] rfl (LP2 6 0 (nI (6 * i1)) (xPut 6 WY_L5 (nI i1) (-1)) (Nat.zero_add _) (by rw [Nat.zero_add]) (lp_zero _ _).symm (by rw [xAt_put (vp_in_nI (by omega) (by decide)) (by decide)]; exact Or.inl rfl))
                        intro j2
                        induction j2 with
                        | zero =>
                          intro i2 x2 WY_L6 hi2 hx2 hs_L6 hw
                          have hi2 : 6 = i2 := by omega
                          subst hi2
                          subst hx2
                          refine v_iload_n C0 (pc' := 262) 0 rfl rfl dX1_layTree_261 rfl ?_
                          refine v_bipush C0 (pc' := 264) 6 (by decide) dX1_layTree_262 rfl ?_
                          refine v_iload_n C0 (pc' := 265) 1 rfl rfl dX1_layTree_264 rfl ?_
                          refine v_imul C0 (pc' := 266) dX1_layTree_265 rfl ?_
                          refine v_bipush C0 (pc' := 268) 6 (by decide) dX1_layTree_266 rfl ?_
                          refine v_iadd C0 (pc' := 269) dX1_layTree_268 rfl ?_
                          refine v_icmp_ge C0 402 (pc' := 272) dX1_layTree_269 (by decide) rfl (fun h10 => ?_) (fun h10 => ?_)
                          · refine v_iinc C0 (lv' := [(1, .int ((nI i1) + 1)), (2, .int (nI (6 + (6 * i1)))), (0, .ref (bd 0))]) (pc' := 405) 1 rfl ((nI i1) + 1) rfl (by decide) rfl dX1_layTree_402 rfl ?_
                            refine v_goto C0 243 dX1_layTree_405 (by decide) ?_
                            exact v_sub (lv' := [(1, .int ((nI i1) + 1)), (0, .ref (bd 0))]) [0, 2] rfl (ih1 (i1 + 1) ((nI i1) + 1) WY_L6 (by omega) (by rw [nI_1]) (by rw [lp_succ, ← hs_L5]; simp only [s_X1_layTree_L5, if_pos h1, if_pos h2, if_neg h6, if_neg h7, if_pos h10, ← hs_L6]))
                          · exact absurd (by rw [b6]; exact Int32.le_refl _) h10
                        | succ j2 ih2 =>
                          intro i2 x2 WY_L6 hi2 hx2 hs_L6 hw
                          subst hx2
                          refine v_iload_n C0 (pc' := 262) 0 rfl rfl dX1_layTree_261 rfl ?_
                          refine v_bipush C0 (pc' := 264) 6 (by decide) dX1_layTree_262 rfl ?_
                          refine v_iload_n C0 (pc' := 265) 1 rfl rfl dX1_layTree_264 rfl ?_
                          refine v_imul C0 (pc' := 266) dX1_layTree_265 rfl ?_
                          refine v_bipush C0 (pc' := 268) 6 (by decide) dX1_layTree_266 rfl ?_
                          refine v_iadd C0 (pc' := 269) dX1_layTree_268 rfl ?_
                          refine v_icmp_ge C0 402 (pc' := 272) dX1_layTree_269 (by decide) rfl (fun h11 => ?_) (fun h11 => ?_)
                          · exact absurd (b6 i1 ▸ h11) (nI_ge (a := i2 + 6 * i1) (b := 6 + 6 * i1) (by omega) (by omega))
                          · refine v_aload_n C0 (pc' := 273) 2 rfl rfl dX1_layTree_272 rfl ?_
                            refine v_get C0 hK (C := RX1) (T := TX1) (N := 15) (pc' := 276) 0 7 rfl rfl rfl (by decide) in_X1_layTree fl_X1_layTree_25 rfl dX1_layTree_273 rfl ?_
                            refine v_iload_n C0 (pc' := 277) 1 rfl rfl dX1_layTree_276 rfl ?_
                            refine v_ialx C0 hK (pc' := 278) 6 0 rfl rfl (vp_in_nI (by omega) (by decide)) (by decide) dX1_layTree_277 rfl ?_
                            refine v_iload_n C0 (pc' := 279) 1 rfl rfl dX1_layTree_278 rfl ?_
                            refine v_icmp_eq C0 402 (pc' := 282) dX1_layTree_279 (by decide) rfl (fun h12 => ?_) (fun h12 => ?_)
                            · exact absurd h12 h7
                            · refine v_aload_n C0 (pc' := 283) 2 rfl rfl dX1_layTree_282 rfl ?_
                              refine v_get C0 hK (C := RX1) (T := TX1) (N := 15) (pc' := 286) 0 2 rfl rfl rfl (by decide) in_X1_layTree fl_X1_layTree_16 rfl dX1_layTree_283 rfl ?_
                              refine v_iload_n C0 (pc' := 287) 0 rfl rfl dX1_layTree_286 rfl ?_
                              refine v_ialx C0 hK (pc' := 288) 3 0 rfl rfl (vp_in_nI (by omega) (by decide)) (by decide) dX1_layTree_287 rfl ?_
                              refine v_iconst C0 (pc' := 289) (-1) (by decide) dX1_layTree_288 rfl ?_
                              refine v_icmp_eq C0 326 (pc' := 292) dX1_layTree_289 (by decide) rfl (fun h13 => ?_) (fun h13 => ?_)
                              · refine v_iconst C0 (pc' := 327) 0 (by decide) dX1_layTree_326 rfl ?_
                                refine v_istore_n C0 (lv' := [(3, .int 0), (2, .int (nI (i2 + (6 * i1)))), (1, .int (nI i1)), (0, .ref (bd 0))]) (pc' := 328) rfl (by decide) rfl dX1_layTree_327 rfl ?_
                                refine v_iload_n C0 (pc' := 329) 0 rfl rfl dX1_layTree_328 rfl ?_
                                refine v_if_eq C0 372 (pc' := 332) dX1_layTree_329 (by decide) rfl (fun h14 => ?_) (fun h14 => ?_)
                                · refine v_iconst C0 (pc' := 373) 0 (by decide) dX1_layTree_372 rfl ?_
                                  refine v_istore C0 (lv' := [(4, .int 0), (3, .int 0), (2, .int (nI (i2 + (6 * i1)))), (1, .int (nI i1)), (0, .ref (bd 0))]) (pc' := 375) (by decide) rfl dX1_layTree_373 rfl ?_
                                  refine v_aload_n C0 (pc' := 376) 4 rfl rfl dX1_layTree_375 rfl ?_
                                  refine v_get C0 hK (C := RX1) (T := TX1) (N := 15) (pc' := 379) 0 8 rfl rfl rfl (by decide) in_X1_layTree fl_X1_layTree_28 rfl dX1_layTree_376 rfl ?_
                                  refine v_iload_n C0 (pc' := 380) 3 rfl rfl dX1_layTree_379 rfl ?_
                                  refine v_iload C0 (pc' := 382) 0 rfl dX1_layTree_380 rfl ?_
                                  refine v_if_eq C0 389 (pc' := 385) dX1_layTree_382 (by decide) rfl (fun h15 => ?_) (fun h15 => ?_)
                                  · refine v_aload_n C0 (pc' := 390) 4 rfl rfl dX1_layTree_389 rfl ?_
                                    refine v_get C0 hK (C := RX1) (T := TX1) (N := 15) (pc' := 393) 0 8 rfl rfl rfl (by decide) in_X1_layTree fl_X1_layTree_28 rfl dX1_layTree_390 rfl ?_
                                    refine v_iload_n C0 (pc' := 394) 3 rfl rfl dX1_layTree_393 rfl ?_
                                    refine v_ialx C0 hK (pc' := 395) 7 0 rfl rfl (vp_in_nI (by omega) (by decide)) (by decide) dX1_layTree_394 rfl ?_
                                    refine v_iasx C0 hK (ws' := wY cI bd U T F C B CM TR RO_L2 (xPut 6 WY_L6 (nI i1) (xAt 6 WY_L6 (nI i1))) SU_L4 TH ST QU QN FE) (pc' := 396) 7 0 rfl rfl rfl (vp_in_nI (by omega) (by decide)) (by decide) dX1_layTree_395 rfl ?_
                                    refine v_iinc C0 (lv' := [(2, .int ((nI (i2 + (6 * i1))) + 1)), (4, .int 0), (3, .int 0), (1, .int (nI i1)), (0, .ref (bd 0))]) (pc' := 399) 2 rfl ((nI (i2 + (6 * i1))) + 1) rfl (by decide) rfl dX1_layTree_396 rfl ?_
                                    refine v_goto C0 261 dX1_layTree_399 (by decide) ?_
                                    exact v_sub (lv' := [(2, .int ((nI (i2 + (6 * i1))) + 1)), (1, .int (nI i1)), (0, .ref (bd 0))]) [0, 3, 4] rfl (ih2 (i2 + 1) ((nI (i2 + (6 * i1))) + 1) (xPut 6 WY_L6 (nI i1) (xAt 6 WY_L6 (nI i1))) (by omega) (by rw [nI_1, Nat.add_right_comm]) (by rw [lp_succ, ← hs_L6]; simp only [s_X1_layTree_L6, if_pos h1, if_pos h2, if_neg h6, if_neg h7, if_neg h11, if_pos h13]) (by rw [xAt_put (vp_in_nI (by omega) (by decide)) (by decide)]; exact hw))
                                  · exact absurd (by decide) h15
                                · exact absurd (by decide) h14
                              · refine v_aload_n C0 (pc' := 293) 2 rfl rfl dX1_layTree_292 rfl ?_
                                refine v_get C0 hK (C := RX1) (T := TX1) (N := 15) (pc' := 296) 0 3 rfl rfl rfl (by decide) in_X1_layTree fl_X1_layTree_19 rfl dX1_layTree_293 rfl ?_
                                refine v_iload_n C0 (pc' := 297) 0 rfl rfl dX1_layTree_296 rfl ?_
                                refine v_ialx C0 hK (pc' := 298) 4 0 rfl rfl (vp_in_nI (by omega) (by decide)) (by decide) dX1_layTree_297 rfl ?_
                                refine v_aload_n C0 (pc' := 299) 2 rfl rfl dX1_layTree_298 rfl ?_
                                refine v_get C0 hK (C := RX1) (T := TX1) (N := 15) (pc' := 302) 0 9 rfl rfl rfl (by decide) in_X1_layTree fl_X1_layTree_31 rfl dX1_layTree_299 rfl ?_
                                refine v_aload_n C0 (pc' := 303) 2 rfl rfl dX1_layTree_302 rfl ?_
                                refine v_get C0 hK (C := RX1) (T := TX1) (N := 15) (pc' := 306) 0 2 rfl rfl rfl (by decide) in_X1_layTree fl_X1_layTree_16 rfl dX1_layTree_303 rfl ?_
                                refine v_iload_n C0 (pc' := 307) 0 rfl rfl dX1_layTree_306 rfl ?_
                                refine v_ialx C0 hK (pc' := 308) 3 0 rfl rfl (vp_in_nI (by omega) (by decide)) (by decide) dX1_layTree_307 rfl ?_
                                refine v_bipush C0 (pc' := 310) 6 (by decide) dX1_layTree_308 rfl ?_
                                refine v_idiv C0 (pc' := 311) (by decide) dX1_layTree_310 rfl ?_
                                refine v_ialx C0 hK (pc' := 312) 8 0 rfl rfl (div6_in (FR_in hF (vp_in_nI (by omega) (by decide)) h13)) (by decide) dX1_layTree_311 rfl ?_
                                refine v_iadd C0 (pc' := 313) dX1_layTree_312 rfl ?_
                                refine v_aload_n C0 (pc' := 314) 2 rfl rfl dX1_layTree_313 rfl ?_
                                refine v_get C0 hK (C := RX1) (T := TX1) (N := 15) (pc' := 317) 0 9 rfl rfl rfl (by decide) in_X1_layTree fl_X1_layTree_31 rfl dX1_layTree_314 rfl ?_
                                refine v_iload_n C0 (pc' := 318) 1 rfl rfl dX1_layTree_317 rfl ?_
                                refine v_ialx C0 hK (pc' := 319) 8 0 rfl rfl (vp_in_nI (by omega) (by decide)) (by decide) dX1_layTree_318 rfl ?_
                                refine v_icmp_ne C0 326 (pc' := 322) dX1_layTree_319 (by decide) rfl (fun h16 => ?_) (fun h16 => ?_)
                                · refine v_iconst C0 (pc' := 327) 0 (by decide) dX1_layTree_326 rfl ?_
                                  refine v_istore_n C0 (lv' := [(3, .int 0), (2, .int (nI (i2 + (6 * i1)))), (1, .int (nI i1)), (0, .ref (bd 0))]) (pc' := 328) rfl (by decide) rfl dX1_layTree_327 rfl ?_
                                  refine v_iload_n C0 (pc' := 329) 0 rfl rfl dX1_layTree_328 rfl ?_
                                  refine v_if_eq C0 372 (pc' := 332) dX1_layTree_329 (by decide) rfl (fun h17 => ?_) (fun h17 => ?_)
                                  · refine v_iconst C0 (pc' := 373) 0 (by decide) dX1_layTree_372 rfl ?_
                                    refine v_istore C0 (lv' := [(4, .int 0), (3, .int 0), (2, .int (nI (i2 + (6 * i1)))), (1, .int (nI i1)), (0, .ref (bd 0))]) (pc' := 375) (by decide) rfl dX1_layTree_373 rfl ?_
                                    refine v_aload_n C0 (pc' := 376) 4 rfl rfl dX1_layTree_375 rfl ?_
                                    refine v_get C0 hK (C := RX1) (T := TX1) (N := 15) (pc' := 379) 0 8 rfl rfl rfl (by decide) in_X1_layTree fl_X1_layTree_28 rfl dX1_layTree_376 rfl ?_
                                    refine v_iload_n C0 (pc' := 380) 3 rfl rfl dX1_layTree_379 rfl ?_
                                    refine v_iload C0 (pc' := 382) 0 rfl dX1_layTree_380 rfl ?_
                                    refine v_if_eq C0 389 (pc' := 385) dX1_layTree_382 (by decide) rfl (fun h18 => ?_) (fun h18 => ?_)
                                    · refine v_aload_n C0 (pc' := 390) 4 rfl rfl dX1_layTree_389 rfl ?_
                                      refine v_get C0 hK (C := RX1) (T := TX1) (N := 15) (pc' := 393) 0 8 rfl rfl rfl (by decide) in_X1_layTree fl_X1_layTree_28 rfl dX1_layTree_390 rfl ?_
                                      refine v_iload_n C0 (pc' := 394) 3 rfl rfl dX1_layTree_393 rfl ?_
                                      refine v_ialx C0 hK (pc' := 395) 7 0 rfl rfl (vp_in_nI (by omega) (by decide)) (by decide) dX1_layTree_394 rfl ?_
                                      refine v_iasx C0 hK (ws' := wY cI bd U T F C B CM TR RO_L2 (xPut 6 WY_L6 (nI i1) (xAt 6 WY_L6 (nI i1))) SU_L4 TH ST QU QN FE) (pc' := 396) 7 0 rfl rfl rfl (vp_in_nI (by omega) (by decide)) (by decide) dX1_layTree_395 rfl ?_
                                      refine v_iinc C0 (lv' := [(2, .int ((nI (i2 + (6 * i1))) + 1)), (4, .int 0), (3, .int 0), (1, .int (nI i1)), (0, .ref (bd 0))]) (pc' := 399) 2 rfl ((nI (i2 + (6 * i1))) + 1) rfl (by decide) rfl dX1_layTree_396 rfl ?_
                                      refine v_goto C0 261 dX1_layTree_399 (by decide) ?_
                                      exact v_sub (lv' := [(2, .int ((nI (i2 + (6 * i1))) + 1)), (1, .int (nI i1)), (0, .ref (bd 0))]) [0, 3, 4] rfl (ih2 (i2 + 1) ((nI (i2 + (6 * i1))) + 1) (xPut 6 WY_L6 (nI i1) (xAt 6 WY_L6 (nI i1))) (by omega) (by rw [nI_1, Nat.add_right_comm]) (by rw [lp_succ, ← hs_L6]; simp only [s_X1_layTree_L6, if_pos h1, if_pos h2, if_neg h6, if_neg h7, if_neg h11, if_neg h13, if_neg h16]) (by rw [xAt_put (vp_in_nI (by omega) (by decide)) (by decide)]; exact hw))
                                    · exact absurd (by decide) h18
                                  · exact absurd (by decide) h17
                                · refine v_iconst C0 (pc' := 323) 1 (by decide) dX1_layTree_322 rfl ?_
                                  refine v_goto C0 327 dX1_layTree_323 (by decide) ?_
                                  refine v_istore_n C0 (lv' := [(3, .int 1), (2, .int (nI (i2 + (6 * i1)))), (1, .int (nI i1)), (0, .ref (bd 0))]) (pc' := 328) rfl (by decide) rfl dX1_layTree_327 rfl ?_
                                  refine v_iload_n C0 (pc' := 329) 0 rfl rfl dX1_layTree_328 rfl ?_
                                  refine v_if_eq C0 372 (pc' := 332) dX1_layTree_329 (by decide) rfl (fun h19 => ?_) (fun h19 => ?_)
                                  · exact absurd h19 (by decide)
                                  · refine v_aload_n C0 (pc' := 333) 3 rfl rfl dX1_layTree_332 rfl ?_
                                    refine v_get C0 hK (C := RX1) (T := TX1) (N := 15) (pc' := 336) 0 8 rfl rfl rfl (by decide) in_X1_layTree fl_X1_layTree_28 rfl dX1_layTree_333 rfl ?_
                                    refine v_iload_n C0 (pc' := 337) 2 rfl rfl dX1_layTree_336 rfl ?_
                                    refine v_ialx C0 hK (pc' := 338) 7 0 rfl rfl (vp_in_nI (by omega) (by decide)) (by decide) dX1_layTree_337 rfl ?_
                                    refine v_iconst C0 (pc' := 339) (-1) (by decide) dX1_layTree_338 rfl ?_
                                    refine v_icmp_eq C0 368 (pc' := 342) dX1_layTree_339 (by decide) rfl (fun h20 => ?_) (fun h20 => ?_)
                                    · refine v_iconst C0 (pc' := 369) 1 (by decide) dX1_layTree_368 rfl ?_
                                      refine v_goto C0 373 dX1_layTree_369 (by decide) ?_
                                      refine v_istore C0 (lv' := [(4, .int 1), (3, .int 1), (2, .int (nI (i2 + (6 * i1)))), (1, .int (nI i1)), (0, .ref (bd 0))]) (pc' := 375) (by decide) rfl dX1_layTree_373 rfl ?_
                                      refine v_aload_n C0 (pc' := 376) 4 rfl rfl dX1_layTree_375 rfl ?_
                                      refine v_get C0 hK (C := RX1) (T := TX1) (N := 15) (pc' := 379) 0 8 rfl rfl rfl (by decide) in_X1_layTree fl_X1_layTree_28 rfl dX1_layTree_376 rfl ?_
                                      refine v_iload_n C0 (pc' := 380) 3 rfl rfl dX1_layTree_379 rfl ?_
                                      refine v_iload C0 (pc' := 382) 0 rfl dX1_layTree_380 rfl ?_
                                      refine v_if_eq C0 389 (pc' := 385) dX1_layTree_382 (by decide) rfl (fun h21 => ?_) (fun h21 => ?_)
                                      · exact absurd h21 (by decide)
                                      · refine v_iload_n C0 (pc' := 386) 2 rfl rfl dX1_layTree_385 rfl ?_
                                        refine v_goto C0 395 dX1_layTree_386 (by decide) ?_
                                        refine v_iasx C0 hK (ws' := wY cI bd U T F C B CM TR RO_L2 (xPut 6 WY_L6 (nI i1) (nI (i2 + (6 * i1)))) SU_L4 TH ST QU QN FE) (pc' := 396) 7 0 rfl rfl rfl (vp_in_nI (by omega) (by decide)) (by decide) dX1_layTree_395 rfl ?_
                                        refine v_iinc C0 (lv' := [(2, .int ((nI (i2 + (6 * i1))) + 1)), (4, .int 1), (3, .int 1), (1, .int (nI i1)), (0, .ref (bd 0))]) (pc' := 399) 2 rfl ((nI (i2 + (6 * i1))) + 1) rfl (by decide) rfl dX1_layTree_396 rfl ?_
                                        refine v_goto C0 261 dX1_layTree_399 (by decide) ?_
                                        exact v_sub (lv' := [(2, .int ((nI (i2 + (6 * i1))) + 1)), (1, .int (nI i1)), (0, .ref (bd 0))]) [0, 3, 4] rfl (ih2 (i2 + 1) ((nI (i2 + (6 * i1))) + 1) (xPut 6 WY_L6 (nI i1) (nI (i2 + (6 * i1)))) (by omega) (by rw [nI_1, Nat.add_right_comm]) (by rw [lp_succ, ← hs_L6]; simp only [s_X1_layTree_L6, if_pos h1, if_pos h2, if_neg h6, if_neg h7, if_neg h11, if_neg h13, if_pos h16, if_pos h20]) (by rw [xAt_put (vp_in_nI (by omega) (by decide)) (by decide)]; exact Or.inr (vp_in_nI (by omega) (by decide))))
                                    · refine v_aload_n C0 (pc' := 343) 3 rfl rfl dX1_layTree_342 rfl ?_
                                      refine v_get C0 hK (C := RX1) (T := TX1) (N := 15) (pc' := 346) 0 2 rfl rfl rfl (by decide) in_X1_layTree fl_X1_layTree_16 rfl dX1_layTree_343 rfl ?_
                                      refine v_iload_n C0 (pc' := 347) 1 rfl rfl dX1_layTree_346 rfl ?_
                                      refine v_ialx C0 hK (pc' := 348) 3 0 rfl rfl (vp_in_nI (by omega) (by decide)) (by decide) dX1_layTree_347 rfl ?_
                                      refine v_bipush C0 (pc' := 350) 6 (by decide) dX1_layTree_348 rfl ?_
                                      refine v_idiv C0 (pc' := 351) (by decide) dX1_layTree_350 rfl ?_
                                      refine v_aload_n C0 (pc' := 352) 3 rfl rfl dX1_layTree_351 rfl ?_
                                      refine v_get C0 hK (C := RX1) (T := TX1) (N := 15) (pc' := 355) 0 2 rfl rfl rfl (by decide) in_X1_layTree fl_X1_layTree_16 rfl dX1_layTree_352 rfl ?_
                                      refine v_aload_n C0 (pc' := 356) 3 rfl rfl dX1_layTree_355 rfl ?_
                                      refine v_get C0 hK (C := RX1) (T := TX1) (N := 15) (pc' := 359) 0 8 rfl rfl rfl (by decide) in_X1_layTree fl_X1_layTree_28 rfl dX1_layTree_356 rfl ?_
                                      refine v_iload_n C0 (pc' := 360) 2 rfl rfl dX1_layTree_359 rfl ?_
                                      refine v_ialx C0 hK (pc' := 361) 7 0 rfl rfl (vp_in_nI (by omega) (by decide)) (by decide) dX1_layTree_360 rfl ?_
                                      refine v_ialx C0 hK (pc' := 362) 3 0 rfl rfl (hw.resolve_left h20) (by decide) dX1_layTree_361 rfl ?_
                                      refine v_bipush C0 (pc' := 364) 6 (by decide) dX1_layTree_362 rfl ?_
                                      refine v_idiv C0 (pc' := 365) (by decide) dX1_layTree_364 rfl ?_
                                      refine v_icmp_ge C0 372 (pc' := 368) dX1_layTree_365 (by decide) rfl (fun h22 => ?_) (fun h22 => ?_)
                                      · refine v_iconst C0 (pc' := 373) 0 (by decide) dX1_layTree_372 rfl ?_
                                        refine v_istore C0 (lv' := [(4, .int 0), (3, .int 1), (2, .int (nI (i2 + (6 * i1)))), (1, .int (nI i1)), (0, .ref (bd 0))]) (pc' := 375) (by decide) rfl dX1_layTree_373 rfl ?_
                                        refine v_aload_n C0 (pc' := 376) 4 rfl rfl dX1_layTree_375 rfl ?_
                                        refine v_get C0 hK (C := RX1) (T := TX1) (N := 15) (pc' := 379) 0 8 rfl rfl rfl (by decide) in_X1_layTree fl_X1_layTree_28 rfl dX1_layTree_376 rfl ?_
                                        refine v_iload_n C0 (pc' := 380) 3 rfl rfl dX1_layTree_379 rfl ?_
                                        refine v_iload C0 (pc' := 382) 0 rfl dX1_layTree_380 rfl ?_
                                        refine v_if_eq C0 389 (pc' := 385) dX1_layTree_382 (by decide) rfl (fun h23 => ?_) (fun h23 => ?_)
                                        · refine v_aload_n C0 (pc' := 390) 4 rfl rfl dX1_layTree_389 rfl ?_
                                          refine v_get C0 hK (C := RX1) (T := TX1) (N := 15) (pc' := 393) 0 8 rfl rfl rfl (by decide) in_X1_layTree fl_X1_layTree_28 rfl dX1_layTree_390 rfl ?_
                                          refine v_iload_n C0 (pc' := 394) 3 rfl rfl dX1_layTree_393 rfl ?_
                                          refine v_ialx C0 hK (pc' := 395) 7 0 rfl rfl (vp_in_nI (by omega) (by decide)) (by decide) dX1_layTree_394 rfl ?_
                                          refine v_iasx C0 hK (ws' := wY cI bd U T F C B CM TR RO_L2 (xPut 6 WY_L6 (nI i1) (xAt 6 WY_L6 (nI i1))) SU_L4 TH ST QU QN FE) (pc' := 396) 7 0 rfl rfl rfl (vp_in_nI (by omega) (by decide)) (by decide) dX1_layTree_395 rfl ?_
                                          refine v_iinc C0 (lv' := [(2, .int ((nI (i2 + (6 * i1))) + 1)), (4, .int 0), (3, .int 1), (1, .int (nI i1)), (0, .ref (bd 0))]) (pc' := 399) 2 rfl ((nI (i2 + (6 * i1))) + 1) rfl (by decide) rfl dX1_layTree_396 rfl ?_
                                          refine v_goto C0 261 dX1_layTree_399 (by decide) ?_
                                          exact v_sub (lv' := [(2, .int ((nI (i2 + (6 * i1))) + 1)), (1, .int (nI i1)), (0, .ref (bd 0))]) [0, 3, 4] rfl (ih2 (i2 + 1) ((nI (i2 + (6 * i1))) + 1) (xPut 6 WY_L6 (nI i1) (xAt 6 WY_L6 (nI i1))) (by omega) (by rw [nI_1, Nat.add_right_comm]) (by rw [lp_succ, ← hs_L6]; simp only [s_X1_layTree_L6, if_pos h1, if_pos h2, if_neg h6, if_neg h7, if_neg h11, if_neg h13, if_pos h16, if_neg h20, if_pos h22]) (by rw [xAt_put (vp_in_nI (by omega) (by decide)) (by decide)]; exact hw))
                                        · exact absurd (by decide) h23
                                      · refine v_iconst C0 (pc' := 369) 1 (by decide) dX1_layTree_368 rfl ?_
                                        refine v_goto C0 373 dX1_layTree_369 (by decide) ?_
                                        refine v_istore C0 (lv' := [(4, .int 1), (3, .int 1), (2, .int (nI (i2 + (6 * i1)))), (1, .int (nI i1)), (0, .ref (bd 0))]) (pc' := 375) (by decide) rfl dX1_layTree_373 rfl ?_
                                        refine v_aload_n C0 (pc' := 376) 4 rfl rfl dX1_layTree_375 rfl ?_
                                        refine v_get C0 hK (C := RX1) (T := TX1) (N := 15) (pc' := 379) 0 8 rfl rfl rfl (by decide) in_X1_layTree fl_X1_layTree_28 rfl dX1_layTree_376 rfl ?_
                                        refine v_iload_n C0 (pc' := 380) 3 rfl rfl dX1_layTree_379 rfl ?_
                                        refine v_iload C0 (pc' := 382) 0 rfl dX1_layTree_380 rfl ?_
                                        refine v_if_eq C0 389 (pc' := 385) dX1_layTree_382 (by decide) rfl (fun h24 => ?_) (fun h24 => ?_)
                                        · exact absurd h24 (by decide)
                                        · refine v_iload_n C0 (pc' := 386) 2 rfl rfl dX1_layTree_385 rfl ?_
                                          refine v_goto C0 395 dX1_layTree_386 (by decide) ?_
                                          refine v_iasx C0 hK (ws' := wY cI bd U T F C B CM TR RO_L2 (xPut 6 WY_L6 (nI i1) (nI (i2 + (6 * i1)))) SU_L4 TH ST QU QN FE) (pc' := 396) 7 0 rfl rfl rfl (vp_in_nI (by omega) (by decide)) (by decide) dX1_layTree_395 rfl ?_
                                          refine v_iinc C0 (lv' := [(2, .int ((nI (i2 + (6 * i1))) + 1)), (4, .int 1), (3, .int 1), (1, .int (nI i1)), (0, .ref (bd 0))]) (pc' := 399) 2 rfl ((nI (i2 + (6 * i1))) + 1) rfl (by decide) rfl dX1_layTree_396 rfl ?_
                                          refine v_goto C0 261 dX1_layTree_399 (by decide) ?_
                                          exact v_sub (lv' := [(2, .int ((nI (i2 + (6 * i1))) + 1)), (1, .int (nI i1)), (0, .ref (bd 0))]) [0, 3, 4] rfl (ih2 (i2 + 1) ((nI (i2 + (6 * i1))) + 1) (xPut 6 WY_L6 (nI i1) (nI (i2 + (6 * i1)))) (by omega) (by rw [nI_1, Nat.add_right_comm]) (by rw [lp_succ, ← hs_L6]; simp only [s_X1_layTree_L6, if_pos h1, if_pos h2, if_neg h6, if_neg h7, if_neg h11, if_neg h13, if_pos h16, if_neg h20, if_neg h22]) (by rw [xAt_put (vp_in_nI (by omega) (by decide)) (by decide)]; exact Or.inr (vp_in_nI (by omega) (by decide))))
                · exact absurd (by decide +kernel) h4
              | succ j1 ih1 =>
                intro i1 x1 SU_L4 hi1 hx1 hs_L4
                subst hx1
                refine v_iload_n C0 (pc' := 152) 0 rfl rfl dX1_layTree_151 rfl ?_
                refine v_sipush C0 (pc' := 155) 216 (by decide) dX1_layTree_152 rfl ?_
                refine v_icmp_ge C0 241 (pc' := 158) dX1_layTree_155 (by decide) rfl (fun h25 => ?_) (fun h25 => ?_)
                · exact absurd h25 (nI_ge (a := i1) (b := 216) (by omega) (by decide))
                · refine v_iload_n C0 (pc' := 159) 0 rfl rfl dX1_layTree_158 rfl ?_
                  refine v_bipush C0 (pc' := 161) 36 (by decide) dX1_layTree_159 rfl ?_
                  refine v_irem C0 (pc' := 162) (by decide) dX1_layTree_161 rfl ?_
                  refine v_istore_n C0 (lv' := [(2, .int ((nI i1) - (nI i1) / 36 * 36)), (1, .int (nI i1)), (0, .ref (bd 0))]) (pc' := 163) rfl (by decide) rfl dX1_layTree_162 rfl ?_
                  refine v_aload_n C0 (pc' := 164) 2 rfl rfl dX1_layTree_163 rfl ?_
                  refine v_get C0 hK (C := RX1) (T := TX1) (N := 15) (pc' := 167) 0 2 rfl rfl rfl (by decide) in_X1_layTree fl_X1_layTree_16 rfl dX1_layTree_164 rfl ?_
                  refine v_iload_n C0 (pc' := 168) 0 rfl rfl dX1_layTree_167 rfl ?_
                  refine v_ialx C0 hK (pc' := 169) 3 0 rfl rfl (rem36_in (by omega)) (by decide) dX1_layTree_168 rfl ?_
                  refine v_iconst C0 (pc' := 170) (-1) (by decide) dX1_layTree_169 rfl ?_
                  refine v_icmp_ne C0 178 (pc' := 173) dX1_layTree_170 (by decide) rfl (fun h26 => ?_) (fun h26 => ?_)
                  · refine v_aload_n C0 (pc' := 179) 2 rfl rfl dX1_layTree_178 rfl ?_
                    refine v_get C0 hK (C := RX1) (T := TX1) (N := 15) (pc' := 182) 0 3 rfl rfl rfl (by decide) in_X1_layTree fl_X1_layTree_19 rfl dX1_layTree_179 rfl ?_
                    refine v_iload_n C0 (pc' := 183) 0 rfl rfl dX1_layTree_182 rfl ?_
                    refine v_ialx C0 hK (pc' := 184) 4 0 rfl rfl (rem36_in (by omega)) (by decide) dX1_layTree_183 rfl ?_
                    refine v_aload_n C0 (pc' := 185) 2 rfl rfl dX1_layTree_184 rfl ?_
                    refine v_get C0 hK (C := RX1) (T := TX1) (N := 15) (pc' := 188) 0 9 rfl rfl rfl (by decide) in_X1_layTree fl_X1_layTree_31 rfl dX1_layTree_185 rfl ?_
                    refine v_aload_n C0 (pc' := 189) 2 rfl rfl dX1_layTree_188 rfl ?_
                    refine v_get C0 hK (C := RX1) (T := TX1) (N := 15) (pc' := 192) 0 2 rfl rfl rfl (by decide) in_X1_layTree fl_X1_layTree_16 rfl dX1_layTree_189 rfl ?_
                    refine v_iload_n C0 (pc' := 193) 0 rfl rfl dX1_layTree_192 rfl ?_
                    refine v_ialx C0 hK (pc' := 194) 3 0 rfl rfl (rem36_in (by omega)) (by decide) dX1_layTree_193 rfl ?_
                    refine v_bipush C0 (pc' := 196) 6 (by decide) dX1_layTree_194 rfl ?_
                    refine v_idiv C0 (pc' := 197) (by decide) dX1_layTree_196 rfl ?_
                    refine v_ialx C0 hK (pc' := 198) 8 0 rfl rfl (div6_in (FR_in hF (rem36_in (by omega)) h26)) (by decide) dX1_layTree_197 rfl ?_
                    refine v_iadd C0 (pc' := 199) dX1_layTree_198 rfl ?_
                    refine v_istore_n C0 (lv' := [(3, .int ((xAt 36 C ((nI i1) - (nI i1) / 36 * 36)) + (xAt 6 SU_L4 ((xAt 36 F ((nI i1) - (nI i1) / 36 * 36)) / 6)))), (2, .int ((nI i1) - (nI i1) / 36 * 36)), (1, .int (nI i1)), (0, .ref (bd 0))]) (pc' := 200) rfl (by decide) rfl dX1_layTree_199 rfl ?_
                    refine v_aload_n C0 (pc' := 201) 3 rfl rfl dX1_layTree_200 rfl ?_
                    refine v_get C0 hK (C := RX1) (T := TX1) (N := 15) (pc' := 204) 0 9 rfl rfl rfl (by decide) in_X1_layTree fl_X1_layTree_31 rfl dX1_layTree_201 rfl ?_
                    refine v_iload_n C0 (pc' := 205) 1 rfl rfl dX1_layTree_204 rfl ?_
                    refine v_bipush C0 (pc' := 207) 6 (by decide) dX1_layTree_205 rfl ?_
                    refine v_idiv C0 (pc' := 208) (by decide) dX1_layTree_207 rfl ?_
                    refine v_iload_n C0 (pc' := 209) 0 rfl rfl dX1_layTree_208 rfl ?_
                    refine v_aload_n C0 (pc' := 210) 3 rfl rfl dX1_layTree_209 rfl ?_
                    refine v_get C0 hK (C := RX1) (T := TX1) (N := 15) (pc' := 213) 0 9 rfl rfl rfl (by decide) in_X1_layTree fl_X1_layTree_31 rfl dX1_layTree_210 rfl ?_
                    refine v_iload_n C0 (pc' := 214) 1 rfl rfl dX1_layTree_213 rfl ?_
                    refine v_bipush C0 (pc' := 216) 6 (by decide) dX1_layTree_214 rfl ?_
                    refine v_idiv C0 (pc' := 217) (by decide) dX1_layTree_216 rfl ?_
                    refine v_ialx C0 hK (pc' := 218) 8 0 rfl rfl (div6_in (rem36_in (by omega))) (by decide) dX1_layTree_217 rfl ?_
                    refine v_icmp_ge C0 225 (pc' := 221) dX1_layTree_218 (by decide) rfl (fun h27 => ?_) (fun h27 => ?_)
                    · refine v_aload_n C0 (pc' := 226) 3 rfl rfl dX1_layTree_225 rfl ?_
                      refine v_get C0 hK (C := RX1) (T := TX1) (N := 15) (pc' := 229) 0 9 rfl rfl rfl (by decide) in_X1_layTree fl_X1_layTree_31 rfl dX1_layTree_226 rfl ?_
                      refine v_iload_n C0 (pc' := 230) 1 rfl rfl dX1_layTree_229 rfl ?_
                      refine v_bipush C0 (pc' := 232) 6 (by decide) dX1_layTree_230 rfl ?_
                      refine v_idiv C0 (pc' := 233) (by decide) dX1_layTree_232 rfl ?_
                      refine v_ialx C0 hK (pc' := 234) 8 0 rfl rfl (div6_in (rem36_in (by omega))) (by decide) dX1_layTree_233 rfl ?_
                      refine v_iasx C0 hK (ws' := wY cI bd U T F C B CM TR RO_L2 WY (xPut 6 SU_L4 (((nI i1) - (nI i1) / 36 * 36) / 6) (xAt 6 SU_L4 (((nI i1) - (nI i1) / 36 * 36) / 6))) TH ST QU QN FE) (pc' := 235) 8 0 rfl rfl rfl (div6_in (rem36_in (by omega))) (by decide) dX1_layTree_234 rfl ?_
                      refine v_iinc C0 (lv' := [(1, .int ((nI i1) + 1)), (3, .int ((xAt 36 C ((nI i1) - (nI i1) / 36 * 36)) + (xAt 6 SU_L4 ((xAt 36 F ((nI i1) - (nI i1) / 36 * 36)) / 6)))), (2, .int ((nI i1) - (nI i1) / 36 * 36)), (0, .ref (bd 0))]) (pc' := 238) 2 rfl ((nI i1) + 1) rfl (by decide) rfl dX1_layTree_235 rfl ?_
                      refine v_goto C0 151 dX1_layTree_238 (by decide) ?_
                      exact v_sub (lv' := [(1, .int ((nI i1) + 1)), (0, .ref (bd 0))]) [0, 3] rfl (ih1 (i1 + 1) ((nI i1) + 1) (xPut 6 SU_L4 (((nI i1) - (nI i1) / 36 * 36) / 6) (xAt 6 SU_L4 (((nI i1) - (nI i1) / 36 * 36) / 6))) (by omega) (by rw [nI_1]) (by rw [lp_succ, ← hs_L4]; simp only [s_X1_layTree_L4, if_pos h1, if_pos h2, if_neg h25, if_neg h26, if_pos h27]))
                    · refine v_iload_n C0 (pc' := 222) 0 rfl rfl dX1_layTree_221 rfl ?_
                      refine v_goto C0 234 dX1_layTree_222 (by decide) ?_
                      refine v_iasx C0 hK (ws' := wY cI bd U T F C B CM TR RO_L2 WY (xPut 6 SU_L4 (((nI i1) - (nI i1) / 36 * 36) / 6) ((xAt 36 C ((nI i1) - (nI i1) / 36 * 36)) + (xAt 6 SU_L4 ((xAt 36 F ((nI i1) - (nI i1) / 36 * 36)) / 6)))) TH ST QU QN FE) (pc' := 235) 8 0 rfl rfl rfl (div6_in (rem36_in (by omega))) (by decide) dX1_layTree_234 rfl ?_
                      refine v_iinc C0 (lv' := [(1, .int ((nI i1) + 1)), (3, .int ((xAt 36 C ((nI i1) - (nI i1) / 36 * 36)) + (xAt 6 SU_L4 ((xAt 36 F ((nI i1) - (nI i1) / 36 * 36)) / 6)))), (2, .int ((nI i1) - (nI i1) / 36 * 36)), (0, .ref (bd 0))]) (pc' := 238) 2 rfl ((nI i1) + 1) rfl (by decide) rfl dX1_layTree_235 rfl ?_
                      refine v_goto C0 151 dX1_layTree_238 (by decide) ?_
                      exact v_sub (lv' := [(1, .int ((nI i1) + 1)), (0, .ref (bd 0))]) [0, 3] rfl (ih1 (i1 + 1) ((nI i1) + 1) (xPut 6 SU_L4 (((nI i1) - (nI i1) / 36 * 36) / 6) ((xAt 36 C ((nI i1) - (nI i1) / 36 * 36)) + (xAt 6 SU_L4 ((xAt 36 F ((nI i1) - (nI i1) / 36 * 36)) / 6)))) (by omega) (by rw [nI_1]) (by rw [lp_succ, ← hs_L4]; simp only [s_X1_layTree_L4, if_pos h1, if_pos h2, if_neg h25, if_neg h26, if_neg h27]))
                  · refine v_ldc C0 (pc' := 175) 1000000 (C0.2.2.2.2 _ (by decide +kernel)) dX1_layTree_173 rfl ?_
                    refine v_goto C0 199 dX1_layTree_175 (by decide) ?_
                    refine v_istore_n C0 (lv' := [(3, .int 1000000), (2, .int ((nI i1) - (nI i1) / 36 * 36)), (1, .int (nI i1)), (0, .ref (bd 0))]) (pc' := 200) rfl (by decide) rfl dX1_layTree_199 rfl ?_
                    refine v_aload_n C0 (pc' := 201) 3 rfl rfl dX1_layTree_200 rfl ?_
                    refine v_get C0 hK (C := RX1) (T := TX1) (N := 15) (pc' := 204) 0 9 rfl rfl rfl (by decide) in_X1_layTree fl_X1_layTree_31 rfl dX1_layTree_201 rfl ?_
                    refine v_iload_n C0 (pc' := 205) 1 rfl rfl dX1_layTree_204 rfl ?_
                    refine v_bipush C0 (pc' := 207) 6 (by decide) dX1_layTree_205 rfl ?_
                    refine v_idiv C0 (pc' := 208) (by decide) dX1_layTree_207 rfl ?_
                    refine v_iload_n C0 (pc' := 209) 0 rfl rfl dX1_layTree_208 rfl ?_
                    refine v_aload_n C0 (pc' := 210) 3 rfl rfl dX1_layTree_209 rfl ?_
                    refine v_get C0 hK (C := RX1) (T := TX1) (N := 15) (pc' := 213) 0 9 rfl rfl rfl (by decide) in_X1_layTree fl_X1_layTree_31 rfl dX1_layTree_210 rfl ?_
                    refine v_iload_n C0 (pc' := 214) 1 rfl rfl dX1_layTree_213 rfl ?_
                    refine v_bipush C0 (pc' := 216) 6 (by decide) dX1_layTree_214 rfl ?_
                    refine v_idiv C0 (pc' := 217) (by decide) dX1_layTree_216 rfl ?_
                    refine v_ialx C0 hK (pc' := 218) 8 0 rfl rfl (div6_in (rem36_in (by omega))) (by decide) dX1_layTree_217 rfl ?_
                    refine v_icmp_ge C0 225 (pc' := 221) dX1_layTree_218 (by decide) rfl (fun h28 => ?_) (fun h28 => ?_)
                    · refine v_aload_n C0 (pc' := 226) 3 rfl rfl dX1_layTree_225 rfl ?_
                      refine v_get C0 hK (C := RX1) (T := TX1) (N := 15) (pc' := 229) 0 9 rfl rfl rfl (by decide) in_X1_layTree fl_X1_layTree_31 rfl dX1_layTree_226 rfl ?_
                      refine v_iload_n C0 (pc' := 230) 1 rfl rfl dX1_layTree_229 rfl ?_
                      refine v_bipush C0 (pc' := 232) 6 (by decide) dX1_layTree_230 rfl ?_
                      refine v_idiv C0 (pc' := 233) (by decide) dX1_layTree_232 rfl ?_
                      refine v_ialx C0 hK (pc' := 234) 8 0 rfl rfl (div6_in (rem36_in (by omega))) (by decide) dX1_layTree_233 rfl ?_
                      refine v_iasx C0 hK (ws' := wY cI bd U T F C B CM TR RO_L2 WY (xPut 6 SU_L4 (((nI i1) - (nI i1) / 36 * 36) / 6) (xAt 6 SU_L4 (((nI i1) - (nI i1) / 36 * 36) / 6))) TH ST QU QN FE) (pc' := 235) 8 0 rfl rfl rfl (div6_in (rem36_in (by omega))) (by decide) dX1_layTree_234 rfl ?_
                      refine v_iinc C0 (lv' := [(1, .int ((nI i1) + 1)), (3, .int 1000000), (2, .int ((nI i1) - (nI i1) / 36 * 36)), (0, .ref (bd 0))]) (pc' := 238) 2 rfl ((nI i1) + 1) rfl (by decide) rfl dX1_layTree_235 rfl ?_
                      refine v_goto C0 151 dX1_layTree_238 (by decide) ?_
                      exact v_sub (lv' := [(1, .int ((nI i1) + 1)), (0, .ref (bd 0))]) [0, 3] rfl (ih1 (i1 + 1) ((nI i1) + 1) (xPut 6 SU_L4 (((nI i1) - (nI i1) / 36 * 36) / 6) (xAt 6 SU_L4 (((nI i1) - (nI i1) / 36 * 36) / 6))) (by omega) (by rw [nI_1]) (by rw [lp_succ, ← hs_L4]; simp only [s_X1_layTree_L4, if_pos h1, if_pos h2, if_neg h25, if_pos h26, if_pos h28]))
                    · refine v_iload_n C0 (pc' := 222) 0 rfl rfl dX1_layTree_221 rfl ?_
                      refine v_goto C0 234 dX1_layTree_222 (by decide) ?_
                      refine v_iasx C0 hK (ws' := wY cI bd U T F C B CM TR RO_L2 WY (xPut 6 SU_L4 (((nI i1) - (nI i1) / 36 * 36) / 6) 1000000) TH ST QU QN FE) (pc' := 235) 8 0 rfl rfl rfl (div6_in (rem36_in (by omega))) (by decide) dX1_layTree_234 rfl ?_
                      refine v_iinc C0 (lv' := [(1, .int ((nI i1) + 1)), (3, .int 1000000), (2, .int ((nI i1) - (nI i1) / 36 * 36)), (0, .ref (bd 0))]) (pc' := 238) 2 rfl ((nI i1) + 1) rfl (by decide) rfl dX1_layTree_235 rfl ?_
                      refine v_goto C0 151 dX1_layTree_238 (by decide) ?_
                      exact v_sub (lv' := [(1, .int ((nI i1) + 1)), (0, .ref (bd 0))]) [0, 3] rfl (ih1 (i1 + 1) ((nI i1) + 1) (xPut 6 SU_L4 (((nI i1) - (nI i1) / 36 * 36) / 6) 1000000) (by omega) (by rw [nI_1]) (by rw [lp_succ, ← hs_L4]; simp only [s_X1_layTree_L4, if_pos h1, if_pos h2, if_neg h25, if_pos h26, if_neg h28]))
            · exact absurd (by decide +kernel) h3
          | succ j1 ih1 =>
            intro i1 x1 SU_L3 hi1 hx1 hs_L3
            subst hx1
            refine v_iload_n C0 (pc' := 116) 0 rfl rfl dX1_layTree_115 rfl ?_
            refine v_bipush C0 (pc' := 118) 6 (by decide) dX1_layTree_116 rfl ?_
            refine v_icmp_ge C0 149 (pc' := 121) dX1_layTree_118 (by decide) rfl (fun h29 => ?_) (fun h29 => ?_)
            · exact absurd h29 (nI_ge (a := i1) (b := 6) (by omega) (by decide))
            · refine v_aload_n C0 (pc' := 122) 1 rfl rfl dX1_layTree_121 rfl ?_
              refine v_get C0 hK (C := RX1) (T := TX1) (N := 15) (pc' := 125) 0 9 rfl rfl rfl (by decide) in_X1_layTree fl_X1_layTree_31 rfl dX1_layTree_122 rfl ?_
              refine v_iload_n C0 (pc' := 126) 0 rfl rfl dX1_layTree_125 rfl ?_
              refine v_aload_n C0 (pc' := 127) 1 rfl rfl dX1_layTree_126 rfl ?_
              refine v_get C0 hK (C := RX1) (T := TX1) (N := 15) (pc' := 130) 0 7 rfl rfl rfl (by decide) in_X1_layTree fl_X1_layTree_25 rfl dX1_layTree_127 rfl ?_
              refine v_iload_n C0 (pc' := 131) 0 rfl rfl dX1_layTree_130 rfl ?_
              refine v_ialx C0 hK (pc' := 132) 6 0 rfl rfl (vp_in_nI (by omega) (by decide)) (by decide) dX1_layTree_131 rfl ?_
              refine v_iload_n C0 (pc' := 133) 0 rfl rfl dX1_layTree_132 rfl ?_
              refine v_icmp_ne C0 140 (pc' := 136) dX1_layTree_133 (by decide) rfl (fun h30 => ?_) (fun h30 => ?_)
              · refine v_ldc C0 (pc' := 142) 1000000 (C0.2.2.2.2 _ (by decide +kernel)) dX1_layTree_140 rfl ?_
                refine v_iasx C0 hK (ws' := wY cI bd U T F C B CM TR RO_L2 WY (xPut 6 SU_L3 (nI i1) 1000000) TH ST QU QN FE) (pc' := 143) 8 0 rfl rfl rfl (vp_in_nI (by omega) (by decide)) (by decide) dX1_layTree_142 rfl ?_
                refine v_iinc C0 (lv' := [(1, .int ((nI i1) + 1)), (0, .ref (bd 0))]) (pc' := 146) 0 rfl ((nI i1) + 1) rfl (by decide) rfl dX1_layTree_143 rfl ?_
                refine v_goto C0 115 dX1_layTree_146 (by decide) ?_
                exact v_sub (lv' := [(1, .int ((nI i1) + 1)), (0, .ref (bd 0))]) [0, 1] rfl (ih1 (i1 + 1) ((nI i1) + 1) (xPut 6 SU_L3 (nI i1) 1000000) (by omega) (by rw [nI_1]) (by rw [lp_succ, ← hs_L3]; simp only [s_X1_layTree_L3, if_pos h1, if_pos h2, if_neg h29, if_neg h30]))
              · refine v_iconst C0 (pc' := 137) 0 (by decide) dX1_layTree_136 rfl ?_
                refine v_goto C0 142 dX1_layTree_137 (by decide) ?_
                refine v_iasx C0 hK (ws' := wY cI bd U T F C B CM TR RO_L2 WY (xPut 6 SU_L3 (nI i1) 0) TH ST QU QN FE) (pc' := 143) 8 0 rfl rfl rfl (vp_in_nI (by omega) (by decide)) (by decide) dX1_layTree_142 rfl ?_
                refine v_iinc C0 (lv' := [(1, .int ((nI i1) + 1)), (0, .ref (bd 0))]) (pc' := 146) 0 rfl ((nI i1) + 1) rfl (by decide) rfl dX1_layTree_143 rfl ?_
                refine v_goto C0 115 dX1_layTree_146 (by decide) ?_
                exact v_sub (lv' := [(1, .int ((nI i1) + 1)), (0, .ref (bd 0))]) [0, 1] rfl (ih1 (i1 + 1) ((nI i1) + 1) (xPut 6 SU_L3 (nI i1) 0) (by omega) (by rw [nI_1]) (by rw [lp_succ, ← hs_L3]; simp only [s_X1_layTree_L3, if_pos h1, if_pos h2, if_neg h29, if_pos h30]))
        · exact absurd (by decide +kernel) h2
      | succ j1 ih1 =>
        intro i1 x1 RO_L2 hi1 hx1 hs_L2
        subst hx1
        refine v_iload_n C0 (pc' := 24) 0 rfl rfl dX1_layTree_23 rfl ?_
        refine v_sipush C0 (pc' := 27) 216 (by decide) dX1_layTree_24 rfl ?_
        refine v_icmp_ge C0 113 (pc' := 30) dX1_layTree_27 (by decide) rfl (fun h31 => ?_) (fun h31 => ?_)
        · exact absurd h31 (nI_ge (a := i1) (b := 216) (by omega) (by decide))
        · refine v_iload_n C0 (pc' := 31) 0 rfl rfl dX1_layTree_30 rfl ?_
          refine v_bipush C0 (pc' := 33) 36 (by decide) dX1_layTree_31 rfl ?_
          refine v_irem C0 (pc' := 34) (by decide) dX1_layTree_33 rfl ?_
          refine v_istore_n C0 (lv' := [(2, .int ((nI i1) - (nI i1) / 36 * 36)), (1, .int (nI i1)), (0, .ref (bd 0))]) (pc' := 35) rfl (by decide) rfl dX1_layTree_34 rfl ?_
          refine v_aload_n C0 (pc' := 36) 2 rfl rfl dX1_layTree_35 rfl ?_
          refine v_get C0 hK (C := RX1) (T := TX1) (N := 15) (pc' := 39) 0 2 rfl rfl rfl (by decide) in_X1_layTree fl_X1_layTree_16 rfl dX1_layTree_36 rfl ?_
          refine v_iload_n C0 (pc' := 40) 0 rfl rfl dX1_layTree_39 rfl ?_
          refine v_ialx C0 hK (pc' := 41) 3 0 rfl rfl (rem36_in (by omega)) (by decide) dX1_layTree_40 rfl ?_
          refine v_iconst C0 (pc' := 42) (-1) (by decide) dX1_layTree_41 rfl ?_
          refine v_icmp_ne C0 49 (pc' := 45) dX1_layTree_42 (by decide) rfl (fun h32 => ?_) (fun h32 => ?_)
          · refine v_aload_n C0 (pc' := 50) 2 rfl rfl dX1_layTree_49 rfl ?_
            refine v_get C0 hK (C := RX1) (T := TX1) (N := 15) (pc' := 53) 0 2 rfl rfl rfl (by decide) in_X1_layTree fl_X1_layTree_16 rfl dX1_layTree_50 rfl ?_
            refine v_iload_n C0 (pc' := 54) 0 rfl rfl dX1_layTree_53 rfl ?_
            refine v_ialx C0 hK (pc' := 55) 3 0 rfl rfl (rem36_in (by omega)) (by decide) dX1_layTree_54 rfl ?_
            refine v_istore_n C0 (lv' := [(3, .int (xAt 36 F ((nI i1) - (nI i1) / 36 * 36))), (2, .int ((nI i1) - (nI i1) / 36 * 36)), (1, .int (nI i1)), (0, .ref (bd 0))]) (pc' := 56) rfl (by decide) rfl dX1_layTree_55 rfl ?_
            refine v_aload_n C0 (pc' := 57) 3 rfl rfl dX1_layTree_56 rfl ?_
            refine v_get C0 hK (C := RX1) (T := TX1) (N := 15) (pc' := 60) 0 7 rfl rfl rfl (by decide) in_X1_layTree fl_X1_layTree_25 rfl dX1_layTree_57 rfl ?_
            refine v_iload_n C0 (pc' := 61) 1 rfl rfl dX1_layTree_60 rfl ?_
            refine v_bipush C0 (pc' := 63) 6 (by decide) dX1_layTree_61 rfl ?_
            refine v_idiv C0 (pc' := 64) (by decide) dX1_layTree_63 rfl ?_
            refine v_aload_n C0 (pc' := 65) 3 rfl rfl dX1_layTree_64 rfl ?_
            refine v_get C0 hK (C := RX1) (T := TX1) (N := 15) (pc' := 68) 0 7 rfl rfl rfl (by decide) in_X1_layTree fl_X1_layTree_25 rfl dX1_layTree_65 rfl ?_
            refine v_iload_n C0 (pc' := 69) 0 rfl rfl dX1_layTree_68 rfl ?_
            refine v_bipush C0 (pc' := 71) 6 (by decide) dX1_layTree_69 rfl ?_
            refine v_idiv C0 (pc' := 72) (by decide) dX1_layTree_71 rfl ?_
            refine v_ialx C0 hK (pc' := 73) 6 0 rfl rfl (div6_in (FR_in hF (rem36_in (by omega)) h32)) (by decide) dX1_layTree_72 rfl ?_
            refine v_aload_n C0 (pc' := 74) 3 rfl rfl dX1_layTree_73 rfl ?_
            refine v_get C0 hK (C := RX1) (T := TX1) (N := 15) (pc' := 77) 0 7 rfl rfl rfl (by decide) in_X1_layTree fl_X1_layTree_25 rfl dX1_layTree_74 rfl ?_
            refine v_iload_n C0 (pc' := 78) 1 rfl rfl dX1_layTree_77 rfl ?_
            refine v_bipush C0 (pc' := 80) 6 (by decide) dX1_layTree_78 rfl ?_
            refine v_idiv C0 (pc' := 81) (by decide) dX1_layTree_80 rfl ?_
            refine v_ialx C0 hK (pc' := 82) 6 0 rfl rfl (div6_in (rem36_in (by omega))) (by decide) dX1_layTree_81 rfl ?_
            refine v_icmp_ge C0 97 (pc' := 85) dX1_layTree_82 (by decide) rfl (fun h33 => ?_) (fun h33 => ?_)
            · refine v_aload_n C0 (pc' := 98) 3 rfl rfl dX1_layTree_97 rfl ?_
              refine v_get C0 hK (C := RX1) (T := TX1) (N := 15) (pc' := 101) 0 7 rfl rfl rfl (by decide) in_X1_layTree fl_X1_layTree_25 rfl dX1_layTree_98 rfl ?_
              refine v_iload_n C0 (pc' := 102) 1 rfl rfl dX1_layTree_101 rfl ?_
              refine v_bipush C0 (pc' := 104) 6 (by decide) dX1_layTree_102 rfl ?_
              refine v_idiv C0 (pc' := 105) (by decide) dX1_layTree_104 rfl ?_
              refine v_ialx C0 hK (pc' := 106) 6 0 rfl rfl (div6_in (rem36_in (by omega))) (by decide) dX1_layTree_105 rfl ?_
              refine v_iasx C0 hK (ws' := wY cI bd U T F C B CM TR (xPut 6 RO_L2 (((nI i1) - (nI i1) / 36 * 36) / 6) (xAt 6 RO_L2 (((nI i1) - (nI i1) / 36 * 36) / 6))) WY SU TH ST QU QN FE) (pc' := 107) 6 0 rfl rfl rfl (div6_in (rem36_in (by omega))) (by decide) dX1_layTree_106 rfl ?_
              refine v_iinc C0 (lv' := [(1, .int ((nI i1) + 1)), (3, .int (xAt 36 F ((nI i1) - (nI i1) / 36 * 36))), (2, .int ((nI i1) - (nI i1) / 36 * 36)), (0, .ref (bd 0))]) (pc' := 110) 2 rfl ((nI i1) + 1) rfl (by decide) rfl dX1_layTree_107 rfl ?_
              refine v_goto C0 23 dX1_layTree_110 (by decide) ?_
              exact v_sub (lv' := [(1, .int ((nI i1) + 1)), (0, .ref (bd 0))]) [0, 3] rfl (ih1 (i1 + 1) ((nI i1) + 1) (xPut 6 RO_L2 (((nI i1) - (nI i1) / 36 * 36) / 6) (xAt 6 RO_L2 (((nI i1) - (nI i1) / 36 * 36) / 6))) (by omega) (by rw [nI_1]) (by rw [lp_succ, ← hs_L2]; simp only [s_X1_layTree_L2, if_pos h1, if_neg h31, if_neg h32, if_pos h33]))
            · refine v_aload_n C0 (pc' := 86) 3 rfl rfl dX1_layTree_85 rfl ?_
              refine v_get C0 hK (C := RX1) (T := TX1) (N := 15) (pc' := 89) 0 7 rfl rfl rfl (by decide) in_X1_layTree fl_X1_layTree_25 rfl dX1_layTree_86 rfl ?_
              refine v_iload_n C0 (pc' := 90) 0 rfl rfl dX1_layTree_89 rfl ?_
              refine v_bipush C0 (pc' := 92) 6 (by decide) dX1_layTree_90 rfl ?_
              refine v_idiv C0 (pc' := 93) (by decide) dX1_layTree_92 rfl ?_
              refine v_ialx C0 hK (pc' := 94) 6 0 rfl rfl (div6_in (FR_in hF (rem36_in (by omega)) h32)) (by decide) dX1_layTree_93 rfl ?_
              refine v_goto C0 106 dX1_layTree_94 (by decide) ?_
              refine v_iasx C0 hK (ws' := wY cI bd U T F C B CM TR (xPut 6 RO_L2 (((nI i1) - (nI i1) / 36 * 36) / 6) (xAt 6 RO_L2 ((xAt 36 F ((nI i1) - (nI i1) / 36 * 36)) / 6))) WY SU TH ST QU QN FE) (pc' := 107) 6 0 rfl rfl rfl (div6_in (rem36_in (by omega))) (by decide) dX1_layTree_106 rfl ?_
              refine v_iinc C0 (lv' := [(1, .int ((nI i1) + 1)), (3, .int (xAt 36 F ((nI i1) - (nI i1) / 36 * 36))), (2, .int ((nI i1) - (nI i1) / 36 * 36)), (0, .ref (bd 0))]) (pc' := 110) 2 rfl ((nI i1) + 1) rfl (by decide) rfl dX1_layTree_107 rfl ?_
              refine v_goto C0 23 dX1_layTree_110 (by decide) ?_
              exact v_sub (lv' := [(1, .int ((nI i1) + 1)), (0, .ref (bd 0))]) [0, 3] rfl (ih1 (i1 + 1) ((nI i1) + 1) (xPut 6 RO_L2 (((nI i1) - (nI i1) / 36 * 36) / 6) (xAt 6 RO_L2 ((xAt 36 F ((nI i1) - (nI i1) / 36 * 36)) / 6))) (by omega) (by rw [nI_1]) (by rw [lp_succ, ← hs_L2]; simp only [s_X1_layTree_L2, if_pos h1, if_neg h31, if_neg h32, if_neg h33]))
          · refine v_iload_n C0 (pc' := 46) 0 rfl rfl dX1_layTree_45 rfl ?_
            refine v_goto C0 55 dX1_layTree_46 (by decide) ?_
            refine v_istore_n C0 (lv' := [(3, .int ((nI i1) - (nI i1) / 36 * 36)), (2, .int ((nI i1) - (nI i1) / 36 * 36)), (1, .int (nI i1)), (0, .ref (bd 0))]) (pc' := 56) rfl (by decide) rfl dX1_layTree_55 rfl ?_
            refine v_aload_n C0 (pc' := 57) 3 rfl rfl dX1_layTree_56 rfl ?_
            refine v_get C0 hK (C := RX1) (T := TX1) (N := 15) (pc' := 60) 0 7 rfl rfl rfl (by decide) in_X1_layTree fl_X1_layTree_25 rfl dX1_layTree_57 rfl ?_
            refine v_iload_n C0 (pc' := 61) 1 rfl rfl dX1_layTree_60 rfl ?_
            refine v_bipush C0 (pc' := 63) 6 (by decide) dX1_layTree_61 rfl ?_
            refine v_idiv C0 (pc' := 64) (by decide) dX1_layTree_63 rfl ?_
            refine v_aload_n C0 (pc' := 65) 3 rfl rfl dX1_layTree_64 rfl ?_
            refine v_get C0 hK (C := RX1) (T := TX1) (N := 15) (pc' := 68) 0 7 rfl rfl rfl (by decide) in_X1_layTree fl_X1_layTree_25 rfl dX1_layTree_65 rfl ?_
            refine v_iload_n C0 (pc' := 69) 0 rfl rfl dX1_layTree_68 rfl ?_
            refine v_bipush C0 (pc' := 71) 6 (by decide) dX1_layTree_69 rfl ?_
            refine v_idiv C0 (pc' := 72) (by decide) dX1_layTree_71 rfl ?_
            refine v_ialx C0 hK (pc' := 73) 6 0 rfl rfl (div6_in (rem36_in (by omega))) (by decide) dX1_layTree_72 rfl ?_
            refine v_aload_n C0 (pc' := 74) 3 rfl rfl dX1_layTree_73 rfl ?_
            refine v_get C0 hK (C := RX1) (T := TX1) (N := 15) (pc' := 77) 0 7 rfl rfl rfl (by decide) in_X1_layTree fl_X1_layTree_25 rfl dX1_layTree_74 rfl ?_
            refine v_iload_n C0 (pc' := 78) 1 rfl rfl dX1_layTree_77 rfl ?_
            refine v_bipush C0 (pc' := 80) 6 (by decide) dX1_layTree_78 rfl ?_
            refine v_idiv C0 (pc' := 81) (by decide) dX1_layTree_80 rfl ?_
            refine v_ialx C0 hK (pc' := 82) 6 0 rfl rfl (div6_in (rem36_in (by omega))) (by decide) dX1_layTree_81 rfl ?_
            refine v_icmp_ge C0 97 (pc' := 85) dX1_layTree_82 (by decide) rfl (fun h34 => ?_) (fun h34 => ?_)
            · refine v_aload_n C0 (pc' := 98) 3 rfl rfl dX1_layTree_97 rfl ?_
              refine v_get C0 hK (C := RX1) (T := TX1) (N := 15) (pc' := 101) 0 7 rfl rfl rfl (by decide) in_X1_layTree fl_X1_layTree_25 rfl dX1_layTree_98 rfl ?_
              refine v_iload_n C0 (pc' := 102) 1 rfl rfl dX1_layTree_101 rfl ?_
              refine v_bipush C0 (pc' := 104) 6 (by decide) dX1_layTree_102 rfl ?_
              refine v_idiv C0 (pc' := 105) (by decide) dX1_layTree_104 rfl ?_
              refine v_ialx C0 hK (pc' := 106) 6 0 rfl rfl (div6_in (rem36_in (by omega))) (by decide) dX1_layTree_105 rfl ?_
              refine v_iasx C0 hK (ws' := wY cI bd U T F C B CM TR (xPut 6 RO_L2 (((nI i1) - (nI i1) / 36 * 36) / 6) (xAt 6 RO_L2 (((nI i1) - (nI i1) / 36 * 36) / 6))) WY SU TH ST QU QN FE) (pc' := 107) 6 0 rfl rfl rfl (div6_in (rem36_in (by omega))) (by decide) dX1_layTree_106 rfl ?_
              refine v_iinc C0 (lv' := [(1, .int ((nI i1) + 1)), (3, .int ((nI i1) - (nI i1) / 36 * 36)), (2, .int ((nI i1) - (nI i1) / 36 * 36)), (0, .ref (bd 0))]) (pc' := 110) 2 rfl ((nI i1) + 1) rfl (by decide) rfl dX1_layTree_107 rfl ?_
              refine v_goto C0 23 dX1_layTree_110 (by decide) ?_
              exact v_sub (lv' := [(1, .int ((nI i1) + 1)), (0, .ref (bd 0))]) [0, 3] rfl (ih1 (i1 + 1) ((nI i1) + 1) (xPut 6 RO_L2 (((nI i1) - (nI i1) / 36 * 36) / 6) (xAt 6 RO_L2 (((nI i1) - (nI i1) / 36 * 36) / 6))) (by omega) (by rw [nI_1]) (by rw [lp_succ, ← hs_L2]; simp only [s_X1_layTree_L2, if_pos h1, if_neg h31, if_pos h32, if_pos h34]))
            · refine v_aload_n C0 (pc' := 86) 3 rfl rfl dX1_layTree_85 rfl ?_
              refine v_get C0 hK (C := RX1) (T := TX1) (N := 15) (pc' := 89) 0 7 rfl rfl rfl (by decide) in_X1_layTree fl_X1_layTree_25 rfl dX1_layTree_86 rfl ?_
              refine v_iload_n C0 (pc' := 90) 0 rfl rfl dX1_layTree_89 rfl ?_
              refine v_bipush C0 (pc' := 92) 6 (by decide) dX1_layTree_90 rfl ?_
              refine v_idiv C0 (pc' := 93) (by decide) dX1_layTree_92 rfl ?_
              refine v_ialx C0 hK (pc' := 94) 6 0 rfl rfl (div6_in (rem36_in (by omega))) (by decide) dX1_layTree_93 rfl ?_
              refine v_goto C0 106 dX1_layTree_94 (by decide) ?_
              refine v_iasx C0 hK (ws' := wY cI bd U T F C B CM TR (xPut 6 RO_L2 (((nI i1) - (nI i1) / 36 * 36) / 6) (xAt 6 RO_L2 (((nI i1) - (nI i1) / 36 * 36) / 6))) WY SU TH ST QU QN FE) (pc' := 107) 6 0 rfl rfl rfl (div6_in (rem36_in (by omega))) (by decide) dX1_layTree_106 rfl ?_
              refine v_iinc C0 (lv' := [(1, .int ((nI i1) + 1)), (3, .int ((nI i1) - (nI i1) / 36 * 36)), (2, .int ((nI i1) - (nI i1) / 36 * 36)), (0, .ref (bd 0))]) (pc' := 110) 2 rfl ((nI i1) + 1) rfl (by decide) rfl dX1_layTree_107 rfl ?_
              refine v_goto C0 23 dX1_layTree_110 (by decide) ?_
              exact v_sub (lv' := [(1, .int ((nI i1) + 1)), (0, .ref (bd 0))]) [0, 3] rfl (ih1 (i1 + 1) ((nI i1) + 1) (xPut 6 RO_L2 (((nI i1) - (nI i1) / 36 * 36) / 6) (xAt 6 RO_L2 (((nI i1) - (nI i1) / 36 * 36) / 6))) (by omega) (by rw [nI_1]) (by rw [lp_succ, ← hs_L2]; simp only [s_X1_layTree_L2, if_pos h1, if_neg h31, if_pos h32, if_neg h34]))
    · exact absurd (by decide +kernel) h1
  | succ j1 ih1 =>
    intro i1 x1 RO_L1 hi1 hx1 hs_L1
    subst hx1
    refine v_iload_n C0 (pc' := 3) 0 rfl rfl dX1_layTree_2 rfl ?_
    refine v_bipush C0 (pc' := 5) 6 (by decide) dX1_layTree_3 rfl ?_
    refine v_icmp_ge C0 21 (pc' := 8) dX1_layTree_5 (by decide) rfl (fun h35 => ?_) (fun h35 => ?_)
    · exact absurd h35 (nI_ge (a := i1) (b := 6) (by omega) (by decide))
    · refine v_aload_n C0 (pc' := 9) 1 rfl rfl dX1_layTree_8 rfl ?_
      refine v_get C0 hK (C := RX1) (T := TX1) (N := 15) (pc' := 12) 0 7 rfl rfl rfl (by decide) in_X1_layTree fl_X1_layTree_25 rfl dX1_layTree_9 rfl ?_
      refine v_iload_n C0 (pc' := 13) 0 rfl rfl dX1_layTree_12 rfl ?_
      refine v_iload_n C0 (pc' := 14) 0 rfl rfl dX1_layTree_13 rfl ?_
      refine v_iasx C0 hK (ws' := wY cI bd U T F C B CM TR (xPut 6 RO_L1 (nI i1) (nI i1)) WY SU TH ST QU QN FE) (pc' := 15) 6 0 rfl rfl rfl (vp_in_nI (by omega) (by decide)) (by decide) dX1_layTree_14 rfl ?_
      refine v_iinc C0 (lv' := [(1, .int ((nI i1) + 1)), (0, .ref (bd 0))]) (pc' := 18) 0 rfl ((nI i1) + 1) rfl (by decide) rfl dX1_layTree_15 rfl ?_
      refine v_goto C0 2 dX1_layTree_18 (by decide) ?_
      exact v_sub (lv' := [(1, .int ((nI i1) + 1)), (0, .ref (bd 0))]) [0, 1] rfl (ih1 (i1 + 1) ((nI i1) + 1) (xPut 6 RO_L1 (nI i1) (nI i1)) (by omega) (by rw [nI_1]) (by rw [lp_succ, ← hs_L1]; simp only [s_X1_layTree_L1, if_neg h35]))
