def s_X0_findRoots_L1  (i1 : Nat) (RU_L1 : Nat → Int32) : Nat → Int32 := (xPut 6 RU_L1 (nI i1) (nI i1))
def s_X0_findRoots_RU (F : Nat → Int32) (RU : Nat → Int32) (WT : Nat → Int32) : Nat → Int32 := (s_X0_leastSums F (lp s_X0_findRoots_L1 6 RU) (xFill WT 0 36))
def s_X0_findRoots_WT (WT : Nat → Int32) : Nat → Int32 := (xFill WT 0 36)
set_option maxHeartbeats 4000000 in
set_option maxRecDepth 100000 in
theorem k_X0_findRoots (l : Launch) (D : va_G) (cI : ClassId) (ad : Nat → Nat) (U : Nat → Int32) (T : Nat → Int32) (F : Nat → Int32) (C : Nat → Int32) (B : Nat → Int32) (RU : Nat → Int32) (RC : Nat → Int32) (WU : Nat → Int32) (ST : Nat → Int32) (RP : Nat → Int32) (RN : Int32) (WT : Nat → Int32) (SM : Nat → Int32) (CC : Int32) (TR : Int32)  : Kv l yX0_findRoots wsX0_findRoots 3 72 0 0 D (TI cI) [.ref (ad 0)] (wX cI ad U T F C B RU RC WU ST RP RN WT SM CC TR) (wX cI ad U T F C B (s_X0_findRoots_RU F RU WT) RC WU ST RP RN (s_X0_findRoots_WT WT) SM CC TR) := by
  refine Kv.of (cc := cX0_findRoots) (maxL := 2) (lv0 := [(0, .ref (ad 0))]) (by decide +kernel) rfl (Nat.le_of_ble_eq_true rfl) rfl ?_
  intro p e s m args below meth c A C0 hr hlk hK hA
  refine v_iconst C0 (pc' := 1) 0 (by decide) dX0_findRoots_0 rfl ?_
  refine v_istore_n C0 (lv' := [(1, .int 0), (0, .ref (ad 0))]) (pc' := 2) rfl (by decide) rfl dX0_findRoots_1 rfl ?_
  suffices LP1 : ∀ (j1 i1 : Nat) (x1 : Int32) (RU_L1 : Nat → Int32), i1 + j1 = 6 → x1 = nI i1 → RU_L1 = lp s_X0_findRoots_L1 i1 RU → V p l e { frames := 3, cells := 0, slots := 0, locals := 72 } s m args below meth c D A 2 0 0 (MQ below (QV D (TI cI) (wX cI ad U T F C B (s_X0_findRoots_RU F RU WT) RC WU ST RP RN (s_X0_findRoots_WT WT) SM CC TR) A) args s 0 0 A) (wX cI ad U T F C B RU_L1 RC WU ST RP RN WT SM CC TR) [(1, .int x1), (0, .ref (ad 0))] 2 [] by
    exact v_sub (lv' := [(1, .int 0), (0, .ref (ad 0))]) [0, 1] rfl (LP1 6 0 0 RU (Nat.zero_add _) nI_0.symm (lp_zero _ _).symm)
  intro j1
  induction j1 with
  | zero =>
    intro i1 x1 RU_L1 hi1 hx1 hs_L1
    have hi1 : 6 = i1 := by omega
    subst hi1
    subst hx1
    refine v_iload_n C0 (pc' := 3) 0 rfl rfl dX0_findRoots_2 rfl ?_
    refine v_bipush C0 (pc' := 5) 6 (by decide) dX0_findRoots_3 rfl ?_
    refine v_icmp_ge C0 23 (pc' := 8) dX0_findRoots_5 (by decide) rfl (fun h1 => ?_) (fun h1 => ?_)
    · refine v_aload_n C0 (pc' := 24) 1 rfl rfl dX0_findRoots_23 rfl ?_
      refine v_get C0 hK (C := RX0) (T := TX0) (N := 15) (pc' := 27) 0 11 rfl rfl rfl (by decide) in_X0_findRoots fl_X0_findRoots_40 rfl dX0_findRoots_24 rfl ?_
      refine v_iconst C0 (pc' := 28) 0 (by decide) dX0_findRoots_27 rfl ?_
      refine v_callSv0 C0 (av := [.ref (ad 11), .int 0]) (rest := []) (ws' := wX cI ad U T F C B RU_L1 RC WU ST RP RN (xFill WT 0 36) SM CC TR) (pc' := 31) hK hA (k_J7_fill_53178 l D cI (ad 11) 36 WT 0 (by decide)) (va_cwS 2 C0.2.2.2.2 gX0_findRoots_J7_fill_53178 rfl rfl rfl (by decide +kernel) ⟨Nat.le_of_ble_eq_true rfl, Nat.le_of_ble_eq_true rfl⟩) (PLs.one 11 rfl) rfl rfl (Nat.le_of_ble_eq_true rfl) ⟨Nat.zero_le _, Nat.zero_le _⟩ dX0_findRoots_28 rfl ?_
      refine v_aload_n C0 (pc' := 32) 1 rfl rfl dX0_findRoots_31 rfl ?_
      refine v_aload_n C0 (pc' := 33) 1 rfl rfl dX0_findRoots_32 rfl ?_
      refine v_get C0 hK (C := RX0) (T := TX0) (N := 15) (pc' := 36) 0 5 rfl rfl rfl (by decide) in_X0_findRoots fl_X0_findRoots_25 rfl dX0_findRoots_33 rfl ?_
      refine v_aload_n C0 (pc' := 37) 1 rfl rfl dX0_findRoots_36 rfl ?_
      refine v_get C0 hK (C := RX0) (T := TX0) (N := 15) (pc' := 40) 0 11 rfl rfl rfl (by decide) in_X0_findRoots fl_X0_findRoots_40 rfl dX0_findRoots_37 rfl ?_
      refine v_callVv0 C0 (av := [.ref (ad 6), .ref (ad 11)]) (rest := []) (ws' := wX cI ad U T F C B (s_X0_leastSums F RU_L1 (xFill WT 0 36)) RC WU ST RP RN (xFill WT 0 36) SM CC TR) (pc' := 43) hK hA (k_X0_leastSums l D cI (ad 0) (ad 3) (ad 6) (ad 11) _ F RU_L1 (xFill WT 0 36)  rfl) (cwV 2 C0.2.2.2.2 gX0_findRoots_X0_leastSums rfl rfl rfl (by decide +kernel) ⟨Nat.le_of_ble_eq_true rfl, Nat.le_of_ble_eq_true rfl⟩) ⟨0, 0, _, _, _, rfl, rfl⟩ (PLs.of (isC := [0, 3, 6, 11]) (isR := [1, 2, 4, 5, 7, 8, 9, 10, 12]) (isP := [9, 0, 1, 10, 2, 3, 11, 4, 5, 6, 7, 12, 8]) (wr := [(ad 1, .inl (cI, 36, .inl U)), (ad 2, .inl (cI, 36, .inl T)), (ad 4, .inl (cI, 36, .inl C)), (ad 5, .inl (cI, 36, .inl B)), (ad 7, .inl (cI, 6, .inl RC)), (ad 8, .inl (cI, 6, .inl WU)), (ad 9, .inl (cI, 96, .inl ST)), (ad 10, .inl (cI, 96, .inl RP)), (ad 12, .inl (cI, 6, .inl SM))]) ⟨rfl, by decide, rfl, by decide, by decide, rfl, by decide⟩) rfl rfl (Nat.le_of_ble_eq_true rfl) ⟨Nat.zero_le _, Nat.zero_le _⟩ dX0_findRoots_40 rfl ?_
      refine v_world (ws' := wX cI ad U T F C B (s_X0_findRoots_RU F RU WT) RC WU ST RP RN (s_X0_findRoots_WT WT) SM CC TR) (by simp only [s_X0_findRoots_RU, s_X0_findRoots_WT, if_pos h1, ← hs_L1]) ?_
      exact v_vret C0 hr hlk hK dX0_findRoots_43
    · exact absurd (by decide +kernel) h1
  | succ j1 ih1 =>
    intro i1 x1 RU_L1 hi1 hx1 hs_L1
    subst hx1
    refine v_iload_n C0 (pc' := 3) 0 rfl rfl dX0_findRoots_2 rfl ?_
    refine v_bipush C0 (pc' := 5) 6 (by decide) dX0_findRoots_3 rfl ?_
    refine v_icmp_ge C0 23 (pc' := 8) dX0_findRoots_5 (by decide) rfl (fun h2 => ?_) (fun h2 => ?_)
    · exact absurd h2 (nI_ge (a := i1) (b := 6) (by omega) (by decide))
    · refine v_aload_n C0 (pc' := 9) 1 rfl rfl dX0_findRoots_8 rfl ?_
      refine v_get C0 hK (C := RX0) (T := TX0) (N := 15) (pc' := 12) 0 5 rfl rfl rfl (by decide) in_X0_findRoots fl_X0_findRoots_25 rfl dX0_findRoots_9 rfl ?_
      refine v_iload_n C0 (pc' := 13) 0 rfl rfl dX0_findRoots_12 rfl ?_
      refine v_iload_n C0 (pc' := 14) 0 rfl rfl dX0_findRoots_13 rfl ?_
      refine v_callSv0 C0 (av := [.ref (ad 6), .int (nI i1), .int (nI i1)]) (rest := []) (ws' := wX cI ad U T F C B (xPut 6 RU_L1 (nI i1) (nI i1)) RC WU ST RP RN WT SM CC TR) (pc' := 17) hK hA (k_X0_put l D cI (ad 6) 6 RU_L1 (nI i1) (nI i1) (by decide)) (va_cwS 3 C0.2.2.2.2 gX0_findRoots_X0_put rfl rfl rfl (by decide +kernel) ⟨Nat.le_of_ble_eq_true rfl, Nat.le_of_ble_eq_true rfl⟩) (PLs.one 6 rfl) rfl rfl (Nat.le_of_ble_eq_true rfl) ⟨Nat.zero_le _, Nat.zero_le _⟩ dX0_findRoots_14 rfl ?_
      refine v_iinc C0 (lv' := [(1, .int ((nI i1) + 1)), (0, .ref (ad 0))]) (pc' := 20) 0 rfl ((nI i1) + 1) rfl (by decide) rfl dX0_findRoots_17 rfl ?_
      refine v_goto C0 2 dX0_findRoots_20 (by decide) ?_
      exact v_sub (lv' := [(1, .int ((nI i1) + 1)), (0, .ref (ad 0))]) [0, 1] rfl (ih1 (i1 + 1) ((nI i1) + 1) (xPut 6 RU_L1 (nI i1) (nI i1)) (by omega) (by rw [nI_1]) (by rw [lp_succ, ← hs_L1]; simp only [s_X0_findRoots_L1, if_neg h2]))
def s_X0_findCosts_L1 (RU : Nat → Int32) (i1 : Nat) (RC_L1 : Nat → Int32) : Nat → Int32 := if (xAt 6 RU (nI i1)) = (nI i1) then (xPut 6 RC_L1 (nI i1) 0) else (xPut 6 RC_L1 (nI i1) 1000)
def s_X0_findCosts_RC (F : Nat → Int32) (C : Nat → Int32) (RU : Nat → Int32) (RC : Nat → Int32) : Nat → Int32 := (s_X0_leastSums F (lp (s_X0_findCosts_L1 RU) 6 RC) C)
set_option maxHeartbeats 4000000 in
set_option maxRecDepth 100000 in
theorem k_X0_findCosts (l : Launch) (D : va_G) (cI : ClassId) (ad : Nat → Nat) (U : Nat → Int32) (T : Nat → Int32) (F : Nat → Int32) (C : Nat → Int32) (B : Nat → Int32) (RU : Nat → Int32) (RC : Nat → Int32) (WU : Nat → Int32) (ST : Nat → Int32) (RP : Nat → Int32) (RN : Int32) (WT : Nat → Int32) (SM : Nat → Int32) (CC : Int32) (TR : Int32)  : Kv l yX0_findCosts wsX0_findCosts 3 72 0 0 D (TI cI) [.ref (ad 0)] (wX cI ad U T F C B RU RC WU ST RP RN WT SM CC TR) (wX cI ad U T F C B RU (s_X0_findCosts_RC F C RU RC) WU ST RP RN WT SM CC TR) := by
  refine Kv.of (cc := cX0_findCosts) (maxL := 2) (lv0 := [(0, .ref (ad 0))]) (by decide +kernel) rfl (Nat.le_of_ble_eq_true rfl) rfl ?_
  intro p e s m args below meth c A C0 hr hlk hK hA
  refine v_iconst C0 (pc' := 1) 0 (by decide) dX0_findCosts_0 rfl ?_
  refine v_istore_n C0 (lv' := [(1, .int 0), (0, .ref (ad 0))]) (pc' := 2) rfl (by decide) rfl dX0_findCosts_1 rfl ?_
  suffices LP1 : ∀ (j1 i1 : Nat) (x1 : Int32) (RC_L1 : Nat → Int32), i1 + j1 = 6 → x1 = nI i1 → RC_L1 = lp (s_X0_findCosts_L1 RU) i1 RC → V p l e { frames := 3, cells := 0, slots := 0, locals := 72 } s m args below meth c D A 2 0 0 (MQ below (QV D (TI cI) (wX cI ad U T F C B RU (s_X0_findCosts_RC F C RU RC) WU ST RP RN WT SM CC TR) A) args s 0 0 A) (wX cI ad U T F C B RU RC_L1 WU ST RP RN WT SM CC TR) [(1, .int x1), (0, .ref (ad 0))] 2 [] by
    exact v_sub (lv' := [(1, .int 0), (0, .ref (ad 0))]) [0, 1] rfl (LP1 6 0 0 RC (Nat.zero_add _) nI_0.symm (lp_zero _ _).symm)
  intro j1
  induction j1 with
  | zero =>
    intro i1 x1 RC_L1 hi1 hx1 hs_L1
    have hi1 : 6 = i1 := by omega
    subst hi1
    subst hx1
    refine v_iload_n C0 (pc' := 3) 0 rfl rfl dX0_findCosts_2 rfl ?_
    refine v_bipush C0 (pc' := 5) 6 (by decide) dX0_findCosts_3 rfl ?_
    refine v_icmp_ge C0 41 (pc' := 8) dX0_findCosts_5 (by decide) rfl (fun h1 => ?_) (fun h1 => ?_)
    · refine v_aload_n C0 (pc' := 42) 1 rfl rfl dX0_findCosts_41 rfl ?_
      refine v_aload_n C0 (pc' := 43) 1 rfl rfl dX0_findCosts_42 rfl ?_
      refine v_get C0 hK (C := RX0) (T := TX0) (N := 15) (pc' := 46) 0 6 rfl rfl rfl (by decide) in_X0_findCosts fl_X0_findCosts_28 rfl dX0_findCosts_43 rfl ?_
      refine v_aload_n C0 (pc' := 47) 1 rfl rfl dX0_findCosts_46 rfl ?_
      refine v_get C0 hK (C := RX0) (T := TX0) (N := 15) (pc' := 50) 0 3 rfl rfl rfl (by decide) in_X0_findCosts fl_X0_findCosts_19 rfl dX0_findCosts_47 rfl ?_
      refine v_callVv0 C0 (av := [.ref (ad 7), .ref (ad 4)]) (rest := []) (ws' := wX cI ad U T F C B RU (s_X0_leastSums F RC_L1 C) WU ST RP RN WT SM CC TR) (pc' := 53) hK hA (k_X0_leastSums l D cI (ad 0) (ad 3) (ad 7) (ad 4) _ F RC_L1 C  rfl) (cwV 2 C0.2.2.2.2 gX0_findCosts_X0_leastSums rfl rfl rfl (by decide +kernel) ⟨Nat.le_of_ble_eq_true rfl, Nat.le_of_ble_eq_true rfl⟩) ⟨0, 0, _, _, _, rfl, rfl⟩ (PLs.of (isC := [0, 3, 7, 4]) (isR := [1, 2, 5, 6, 8, 9, 10, 11, 12]) (isP := [9, 0, 1, 10, 12, 2, 3, 11, 4, 5, 6, 7, 8]) (wr := [(ad 1, .inl (cI, 36, .inl U)), (ad 2, .inl (cI, 36, .inl T)), (ad 5, .inl (cI, 36, .inl B)), (ad 6, .inl (cI, 6, .inl RU)), (ad 8, .inl (cI, 6, .inl WU)), (ad 9, .inl (cI, 96, .inl ST)), (ad 10, .inl (cI, 96, .inl RP)), (ad 11, .inl (cI, 36, .inl WT)), (ad 12, .inl (cI, 6, .inl SM))]) ⟨rfl, by decide, rfl, by decide, by decide, rfl, by decide⟩) rfl rfl (Nat.le_of_ble_eq_true rfl) ⟨Nat.zero_le _, Nat.zero_le _⟩ dX0_findCosts_50 rfl ?_
      refine v_world (ws' := wX cI ad U T F C B RU (s_X0_findCosts_RC F C RU RC) WU ST RP RN WT SM CC TR) (by simp only [s_X0_findCosts_RC, if_pos h1, ← hs_L1]) ?_
      exact v_vret C0 hr hlk hK dX0_findCosts_53
    · exact absurd (by decide +kernel) h1
  | succ j1 ih1 =>
    intro i1 x1 RC_L1 hi1 hx1 hs_L1
    subst hx1
    refine v_iload_n C0 (pc' := 3) 0 rfl rfl dX0_findCosts_2 rfl ?_
    refine v_bipush C0 (pc' := 5) 6 (by decide) dX0_findCosts_3 rfl ?_
    refine v_icmp_ge C0 41 (pc' := 8) dX0_findCosts_5 (by decide) rfl (fun h2 => ?_) (fun h2 => ?_)
    · exact absurd h2 (nI_ge (a := i1) (b := 6) (by omega) (by decide))
    · refine v_aload_n C0 (pc' := 9) 1 rfl rfl dX0_findCosts_8 rfl ?_
      refine v_get C0 hK (C := RX0) (T := TX0) (N := 15) (pc' := 12) 0 6 rfl rfl rfl (by decide) in_X0_findCosts fl_X0_findCosts_28 rfl dX0_findCosts_9 rfl ?_
      refine v_iload_n C0 (pc' := 13) 0 rfl rfl dX0_findCosts_12 rfl ?_
      refine v_aload_n C0 (pc' := 14) 1 rfl rfl dX0_findCosts_13 rfl ?_
      refine v_get C0 hK (C := RX0) (T := TX0) (N := 15) (pc' := 17) 0 5 rfl rfl rfl (by decide) in_X0_findCosts fl_X0_findCosts_25 rfl dX0_findCosts_14 rfl ?_
      refine v_iload_n C0 (pc' := 18) 0 rfl rfl dX0_findCosts_17 rfl ?_
      refine v_callSi0 C0 (av := [.ref (ad 6), .int (nI i1)]) (rest := [.int (nI i1), .ref (ad 7)]) (ws' := wX cI ad U T F C B RU RC_L1 WU ST RP RN WT SM CC TR) (pc' := 21) hK hA (k_X0_at l D cI (ad 6) 6 RU (nI i1) (by decide)) (va_cwS 2 C0.2.2.2.2 gX0_findCosts_X0_at rfl rfl rfl (by decide +kernel) ⟨Nat.le_of_ble_eq_true rfl, Nat.le_of_ble_eq_true rfl⟩) (PLs.one0 6 rfl) rfl rfl (Nat.le_of_ble_eq_true rfl) ⟨Nat.zero_le _, Nat.zero_le _⟩ dX0_findCosts_18 rfl ?_
      refine v_iload_n C0 (pc' := 22) 0 rfl rfl dX0_findCosts_21 rfl ?_
      refine v_icmp_ne C0 29 (pc' := 25) dX0_findCosts_22 (by decide) rfl (fun h3 => ?_) (fun h3 => ?_)
      · refine v_sipush C0 (pc' := 32) 1000 (by decide) dX0_findCosts_29 rfl ?_
        refine v_callSv0 C0 (av := [.ref (ad 7), .int (nI i1), .int 1000]) (rest := []) (ws' := wX cI ad U T F C B RU (xPut 6 RC_L1 (nI i1) 1000) WU ST RP RN WT SM CC TR) (pc' := 35) hK hA (k_X0_put l D cI (ad 7) 6 RC_L1 (nI i1) 1000 (by decide)) (va_cwS 3 C0.2.2.2.2 gX0_findCosts_X0_put rfl rfl rfl (by decide +kernel) ⟨Nat.le_of_ble_eq_true rfl, Nat.le_of_ble_eq_true rfl⟩) (PLs.one 7 rfl) rfl rfl (Nat.le_of_ble_eq_true rfl) ⟨Nat.zero_le _, Nat.zero_le _⟩ dX0_findCosts_32 rfl ?_
        refine v_iinc C0 (lv' := [(1, .int ((nI i1) + 1)), (0, .ref (ad 0))]) (pc' := 38) 0 rfl ((nI i1) + 1) rfl (by decide) rfl dX0_findCosts_35 rfl ?_
        refine v_goto C0 2 dX0_findCosts_38 (by decide) ?_
        exact v_sub (lv' := [(1, .int ((nI i1) + 1)), (0, .ref (ad 0))]) [0, 1] rfl (ih1 (i1 + 1) ((nI i1) + 1) (xPut 6 RC_L1 (nI i1) 1000) (by omega) (by rw [nI_1]) (by rw [lp_succ, ← hs_L1]; simp only [s_X0_findCosts_L1, if_neg h2, if_neg h3]))
      · refine v_iconst C0 (pc' := 26) 0 (by decide) dX0_findCosts_25 rfl ?_
        refine v_goto C0 32 dX0_findCosts_26 (by decide) ?_
        refine v_callSv0 C0 (av := [.ref (ad 7), .int (nI i1), .int 0]) (rest := []) (ws' := wX cI ad U T F C B RU (xPut 6 RC_L1 (nI i1) 0) WU ST RP RN WT SM CC TR) (pc' := 35) hK hA (k_X0_put l D cI (ad 7) 6 RC_L1 (nI i1) 0 (by decide)) (va_cwS 3 C0.2.2.2.2 gX0_findCosts_X0_put rfl rfl rfl (by decide +kernel) ⟨Nat.le_of_ble_eq_true rfl, Nat.le_of_ble_eq_true rfl⟩) (PLs.one 7 rfl) rfl rfl (Nat.le_of_ble_eq_true rfl) ⟨Nat.zero_le _, Nat.zero_le _⟩ dX0_findCosts_32 rfl ?_
        refine v_iinc C0 (lv' := [(1, .int ((nI i1) + 1)), (0, .ref (ad 0))]) (pc' := 38) 0 rfl ((nI i1) + 1) rfl (by decide) rfl dX0_findCosts_35 rfl ?_
        refine v_goto C0 2 dX0_findCosts_38 (by decide) ?_
        exact v_sub (lv' := [(1, .int ((nI i1) + 1)), (0, .ref (ad 0))]) [0, 1] rfl (ih1 (i1 + 1) ((nI i1) + 1) (xPut 6 RC_L1 (nI i1) 0) (by omega) (by rw [nI_1]) (by rw [lp_succ, ← hs_L1]; simp only [s_X0_findCosts_L1, if_neg h2, if_pos h3]))
def s_X0_growTree_L1 (F : Nat → Int32) (C : Nat → Int32) (RU : Nat → Int32) (RC : Nat → Int32) (WT : Nat → Int32) (i1 : Nat) (WU_L1 : Nat → Int32) : Nat → Int32 := (xPut 6 WU_L1 (nI i1) (s_X0_bestWayUp F C (s_X0_findCosts_RC F C (s_X0_findRoots_RU F RU WT) RC) (nI i1)))
def s_X0_growTree_RU (F : Nat → Int32) (RU : Nat → Int32) (WT : Nat → Int32) : Nat → Int32 := (s_X0_findRoots_RU F RU WT)
def s_X0_growTree_RC (F : Nat → Int32) (C : Nat → Int32) (RU : Nat → Int32) (RC : Nat → Int32) (WT : Nat → Int32) : Nat → Int32 := (s_X0_findCosts_RC F C (s_X0_findRoots_RU F RU WT) RC)
def s_X0_growTree_WU (F : Nat → Int32) (C : Nat → Int32) (RU : Nat → Int32) (RC : Nat → Int32) (WU : Nat → Int32) (WT : Nat → Int32) : Nat → Int32 := (lp (s_X0_growTree_L1 F C RU RC WT) 6 WU)
def s_X0_growTree_WT (WT : Nat → Int32) : Nat → Int32 := (s_X0_findRoots_WT WT)
set_option maxHeartbeats 4000000 in
set_option maxRecDepth 100000 in
theorem k_X0_growTree (l : Launch) (D : va_G) (cI : ClassId) (ad : Nat → Nat) (U : Nat → Int32) (T : Nat → Int32) (F : Nat → Int32) (C : Nat → Int32) (B : Nat → Int32) (RU : Nat → Int32) (RC : Nat → Int32) (WU : Nat → Int32) (ST : Nat → Int32) (RP : Nat → Int32) (RN : Int32) (WT : Nat → Int32) (SM : Nat → Int32) (CC : Int32) (TR : Int32)  : Kv l yX0_growTree wsX0_growTree 4 93 0 0 D (TI cI) [.ref (ad 0)] (wX cI ad U T F C B RU RC WU ST RP RN WT SM CC TR) (wX cI ad U T F C B (s_X0_growTree_RU F RU WT) (s_X0_growTree_RC F C RU RC WT) (s_X0_growTree_WU F C RU RC WU WT) ST RP RN (s_X0_growTree_WT WT) SM CC TR) := by
  refine Kv.of (cc := cX0_growTree) (maxL := 2) (lv0 := [(0, .ref (ad 0))]) (by decide +kernel) rfl (Nat.le_of_ble_eq_true rfl) rfl ?_
  intro p e s m args below meth c A C0 hr hlk hK hA
  refine v_aload_n C0 (pc' := 1) 0 rfl rfl dX0_growTree_0 rfl ?_
  refine v_callVv0 C0 (av := []) (rest := []) (ws' := wX cI ad U T F C B (s_X0_findRoots_RU F RU WT) RC WU ST RP RN (s_X0_findRoots_WT WT) SM CC TR) (pc' := 4) hK hA (k_X0_findRoots l D cI ad U T F C B RU RC WU ST RP RN WT SM CC TR ) (cwV 0 C0.2.2.2.2 gX0_growTree_X0_findRoots rfl rfl rfl (by decide +kernel) ⟨Nat.le_of_ble_eq_true rfl, Nat.le_of_ble_eq_true rfl⟩) ⟨0, 0, _, _, _, rfl, rfl⟩ PLs.all rfl rfl (Nat.le_of_ble_eq_true rfl) ⟨Nat.zero_le _, Nat.zero_le _⟩ dX0_growTree_1 rfl ?_
  refine v_aload_n C0 (pc' := 5) 0 rfl rfl dX0_growTree_4 rfl ?_
  refine v_callVv0 C0 (av := []) (rest := []) (ws' := wX cI ad U T F C B (s_X0_findRoots_RU F RU WT) (s_X0_findCosts_RC F C (s_X0_findRoots_RU F RU WT) RC) WU ST RP RN (s_X0_findRoots_WT WT) SM CC TR) (pc' := 8) hK hA (k_X0_findCosts l D cI ad U T F C B (s_X0_findRoots_RU F RU WT) RC WU ST RP RN (s_X0_findRoots_WT WT) SM CC TR ) (cwV 0 C0.2.2.2.2 gX0_growTree_X0_findCosts rfl rfl rfl (by decide +kernel) ⟨Nat.le_of_ble_eq_true rfl, Nat.le_of_ble_eq_true rfl⟩) ⟨0, 0, _, _, _, rfl, rfl⟩ PLs.all rfl rfl (Nat.le_of_ble_eq_true rfl) ⟨Nat.zero_le _, Nat.zero_le _⟩ dX0_growTree_5 rfl ?_
  refine v_iconst C0 (pc' := 9) 0 (by decide) dX0_growTree_8 rfl ?_
  refine v_istore_n C0 (lv' := [(1, .int 0), (0, .ref (ad 0))]) (pc' := 10) rfl (by decide) rfl dX0_growTree_9 rfl ?_
  suffices LP1 : ∀ (j1 i1 : Nat) (x1 : Int32) (WU_L1 : Nat → Int32), i1 + j1 = 6 → x1 = nI i1 → WU_L1 = lp (s_X0_growTree_L1 F C RU RC WT) i1 WU → V p l e { frames := 4, cells := 0, slots := 0, locals := 93 } s m args below meth c D A 2 0 0 (MQ below (QV D (TI cI) (wX cI ad U T F C B (s_X0_growTree_RU F RU WT) (s_X0_growTree_RC F C RU RC WT) (s_X0_growTree_WU F C RU RC WU WT) ST RP RN (s_X0_growTree_WT WT) SM CC TR) A) args s 0 0 A) (wX cI ad U T F C B (s_X0_findRoots_RU F RU WT) (s_X0_findCosts_RC F C (s_X0_findRoots_RU F RU WT) RC) WU_L1 ST RP RN (s_X0_findRoots_WT WT) SM CC TR) [(1, .int x1), (0, .ref (ad 0))] 10 [] by
    exact v_sub (lv' := [(1, .int 0), (0, .ref (ad 0))]) [0, 1] rfl (LP1 6 0 0 WU (Nat.zero_add _) nI_0.symm (lp_zero _ _).symm)
  intro j1
  induction j1 with
  | zero =>
    intro i1 x1 WU_L1 hi1 hx1 hs_L1
    have hi1 : 6 = i1 := by omega
    subst hi1
    subst hx1
    refine v_iload_n C0 (pc' := 11) 0 rfl rfl dX0_growTree_10 rfl ?_
    refine v_bipush C0 (pc' := 13) 6 (by decide) dX0_growTree_11 rfl ?_
    refine v_icmp_ge C0 35 (pc' := 16) dX0_growTree_13 (by decide) rfl (fun h1 => ?_) (fun h1 => ?_)
    · refine v_world (ws' := wX cI ad U T F C B (s_X0_growTree_RU F RU WT) (s_X0_growTree_RC F C RU RC WT) (s_X0_growTree_WU F C RU RC WU WT) ST RP RN (s_X0_growTree_WT WT) SM CC TR) (by simp only [s_X0_growTree_RU, s_X0_growTree_RC, s_X0_growTree_WU, s_X0_growTree_WT, if_pos h1, ← hs_L1]) ?_
      exact v_vret C0 hr hlk hK dX0_growTree_35
    · exact absurd (by decide +kernel) h1
  | succ j1 ih1 =>
    intro i1 x1 WU_L1 hi1 hx1 hs_L1
    subst hx1
    refine v_iload_n C0 (pc' := 11) 0 rfl rfl dX0_growTree_10 rfl ?_
    refine v_bipush C0 (pc' := 13) 6 (by decide) dX0_growTree_11 rfl ?_
    refine v_icmp_ge C0 35 (pc' := 16) dX0_growTree_13 (by decide) rfl (fun h2 => ?_) (fun h2 => ?_)
    · exact absurd h2 (nI_ge (a := i1) (b := 6) (by omega) (by decide))
    · refine v_aload_n C0 (pc' := 17) 1 rfl rfl dX0_growTree_16 rfl ?_
      refine v_get C0 hK (C := RX0) (T := TX0) (N := 15) (pc' := 20) 0 7 rfl rfl rfl (by decide) in_X0_growTree fl_X0_growTree_31 rfl dX0_growTree_17 rfl ?_
      refine v_iload_n C0 (pc' := 21) 0 rfl rfl dX0_growTree_20 rfl ?_
      refine v_aload_n C0 (pc' := 22) 1 rfl rfl dX0_growTree_21 rfl ?_
      refine v_iload_n C0 (pc' := 23) 0 rfl rfl dX0_growTree_22 rfl ?_
      refine v_callVi0 C0 (av := [.int (nI i1)]) (rest := [.int (nI i1), .ref (ad 8)]) (ws' := wX cI ad U T F C B (s_X0_findRoots_RU F RU WT) (s_X0_findCosts_RC F C (s_X0_findRoots_RU F RU WT) RC) WU_L1 ST RP RN (s_X0_findRoots_WT WT) SM CC TR) (pc' := 26) hK hA (k_X0_bestWayUp l D cI ad U T F C B (s_X0_findRoots_RU F RU WT) (s_X0_findCosts_RC F C (s_X0_findRoots_RU F RU WT) RC) WU_L1 ST RP RN (s_X0_findRoots_WT WT) SM CC TR (nI i1)) (cwV 1 C0.2.2.2.2 gX0_growTree_X0_bestWayUp rfl rfl rfl (by decide +kernel) ⟨Nat.le_of_ble_eq_true rfl, Nat.le_of_ble_eq_true rfl⟩) ⟨0, 0, _, _, _, rfl, rfl⟩ PLs.all rfl rfl (Nat.le_of_ble_eq_true rfl) ⟨Nat.zero_le _, Nat.zero_le _⟩ dX0_growTree_23 rfl ?_
      refine v_callSv0 C0 (av := [.ref (ad 8), .int (nI i1), .int (s_X0_bestWayUp F C (s_X0_findCosts_RC F C (s_X0_findRoots_RU F RU WT) RC) (nI i1))]) (rest := []) (ws' := wX cI ad U T F C B (s_X0_findRoots_RU F RU WT) (s_X0_findCosts_RC F C (s_X0_findRoots_RU F RU WT) RC) (xPut 6 WU_L1 (nI i1) (s_X0_bestWayUp F C (s_X0_findCosts_RC F C (s_X0_findRoots_RU F RU WT) RC) (nI i1))) ST RP RN (s_X0_findRoots_WT WT) SM CC TR) (pc' := 29) hK hA (k_X0_put l D cI (ad 8) 6 WU_L1 (nI i1) (s_X0_bestWayUp F C (s_X0_findCosts_RC F C (s_X0_findRoots_RU F RU WT) RC) (nI i1)) (by decide)) (va_cwS 3 C0.2.2.2.2 gX0_growTree_X0_put rfl rfl rfl (by decide +kernel) ⟨Nat.le_of_ble_eq_true rfl, Nat.le_of_ble_eq_true rfl⟩) (PLs.one 8 rfl) rfl rfl (Nat.le_of_ble_eq_true rfl) ⟨Nat.zero_le _, Nat.zero_le _⟩ dX0_growTree_26 rfl ?_
      refine v_iinc C0 (lv' := [(1, .int ((nI i1) + 1)), (0, .ref (ad 0))]) (pc' := 32) 0 rfl ((nI i1) + 1) rfl (by decide) rfl dX0_growTree_29 rfl ?_
      refine v_goto C0 10 dX0_growTree_32 (by decide) ?_
      exact v_sub (lv' := [(1, .int ((nI i1) + 1)), (0, .ref (ad 0))]) [0, 1] rfl (ih1 (i1 + 1) ((nI i1) + 1) (xPut 6 WU_L1 (nI i1) (s_X0_bestWayUp F C (s_X0_findCosts_RC F C (s_X0_findRoots_RU F RU WT) RC) (nI i1))) (by omega) (by rw [nI_1]) (by rw [lp_succ, ← hs_L1]; simp only [s_X0_growTree_L1, if_neg h2]))
/-- the walk's loop: place by place of the queue, from x on; fuel above every Int32 distance -/
def s_walk (U T F WU : Nat → Int32) (TR : Int32) : Nat → Int32 → (Nat → Int32) × (Nat → Int32) × Int32 → (Nat → Int32) × (Nat → Int32) × Int32
  | 0, _, z => z
  | n + 1, x, (ST, RP, RN) => if RN ≤ x then (ST, RP, RN) else if 96 ≤ x then (ST, RP, RN) else s_walk U T F WU TR n (x + 1) (s_X0_reachNeighbours_ST U T F WU ST RP RN TR (xAt 96 RP x), s_X0_reachNeighbours_RP U T F WU ST RP RN TR (xAt 96 RP x), s_X0_reachNeighbours_RN U T F WU ST RP RN TR (xAt 96 RP x))
def s_FU : Nat := 4294967296
theorem s_walk_room (x : Int32) : 97 ≤ (s_FU : Int) + x.toInt := by
  have h := Int32.le_toInt x
  unfold s_FU
  omega
theorem s_walk_step {x : Int32} {n : Nat} (h : 97 ≤ ((n + 1 : Nat) : Int) + x.toInt) (h2 : ¬ 96 ≤ x) : 97 ≤ (n : Int) + (x + 1).toInt := by
  have h3 : x.toInt < 96 := by
    have h4 : ¬ (96 : Int32).toInt ≤ x.toInt := fun q => h2 (Int32.le_iff_toInt_le.mpr q)
    have h5 : (96 : Int32).toInt = 96 := by decide +kernel
    rw [h5] at h4
    omega
  have h6 := Int32.le_toInt x
  have h7 : (x + 1).toInt = x.toInt + 1 := by
    rw [Int32.toInt_add]
    have h8 : (1 : Int32).toInt = 1 := by decide +kernel
    rw [h8]
    exact Int.bmod_eq_of_le (by omega) (by omega)
  rw [h7]
  omega
theorem s_walk_end {x : Int32} (h : 97 ≤ ((0 : Nat) : Int) + x.toInt) : 96 ≤ x := by
  rw [Int32.le_iff_toInt_le]
  have h5 : (96 : Int32).toInt = 96 := by decide +kernel
  omega
def s_X0_walkFrom_ST (U : Nat → Int32) (T : Nat → Int32) (F : Nat → Int32) (WU : Nat → Int32) (ST : Nat → Int32) (RP : Nat → Int32) (RN : Int32) (TR : Int32) (start : Int32) : Nat → Int32 := ((s_walk U T F WU TR s_FU RN (s_X0_reach_ST ST start 0, s_X0_reach_RP RP RN start, s_X0_reach_RN RN)).1)
def s_X0_walkFrom_RP (U : Nat → Int32) (T : Nat → Int32) (F : Nat → Int32) (WU : Nat → Int32) (ST : Nat → Int32) (RP : Nat → Int32) (RN : Int32) (TR : Int32) (start : Int32) : Nat → Int32 := ((s_walk U T F WU TR s_FU RN (s_X0_reach_ST ST start 0, s_X0_reach_RP RP RN start, s_X0_reach_RN RN)).2.1)
def s_X0_walkFrom_RN (U : Nat → Int32) (T : Nat → Int32) (F : Nat → Int32) (WU : Nat → Int32) (ST : Nat → Int32) (RP : Nat → Int32) (RN : Int32) (TR : Int32) (start : Int32) : Int32 := ((s_walk U T F WU TR s_FU RN (s_X0_reach_ST ST start 0, s_X0_reach_RP RP RN start, s_X0_reach_RN RN)).2.2)
set_option maxHeartbeats 4000000 in
set_option maxRecDepth 100000 in
theorem k_X0_walkFrom (l : Launch) (D : va_G) (cI : ClassId) (ad : Nat → Nat) (U : Nat → Int32) (T : Nat → Int32) (F : Nat → Int32) (C : Nat → Int32) (B : Nat → Int32) (RU : Nat → Int32) (RC : Nat → Int32) (WU : Nat → Int32) (ST : Nat → Int32) (RP : Nat → Int32) (RN : Int32) (WT : Nat → Int32) (SM : Nat → Int32) (CC : Int32) (TR : Int32) (start : Int32) (hb_TR : TR = 0 ∨ TR = 1) : Kv l yX0_walkFrom wsX0_walkFrom 5 114 0 0 D (TI cI) [.ref (ad 0), .int start] (wX cI ad U T F C B RU RC WU ST RP RN WT SM CC TR) (wX cI ad U T F C B RU RC WU (s_X0_walkFrom_ST U T F WU ST RP RN TR start) (s_X0_walkFrom_RP U T F WU ST RP RN TR start) (s_X0_walkFrom_RN U T F WU ST RP RN TR start) WT SM CC TR) := by
  refine Kv.of (cc := cX0_walkFrom) (maxL := 4) (lv0 := [(0, .ref (ad 0)), (1, .int start)]) (by decide +kernel) rfl (Nat.le_of_ble_eq_true rfl) rfl ?_
  intro p e s m args below meth c A C0 hr hlk hK hA
  refine v_aload_n C0 (pc' := 1) 0 rfl rfl dX0_walkFrom_0 rfl ?_
  refine v_get C0 hK (C := RX0) (T := TX0) (N := 15) (pc' := 4) 0 10 rfl rfl rfl (by decide) in_X0_walkFrom fl_X0_walkFrom_143 rfl dX0_walkFrom_1 rfl ?_
  refine v_istore_n C0 (lv' := [(2, .int RN), (0, .ref (ad 0)), (1, .int start)]) (pc' := 5) rfl (by decide) rfl dX0_walkFrom_4 rfl ?_
  refine v_aload_n C0 (pc' := 6) 1 rfl rfl dX0_walkFrom_5 rfl ?_
  refine v_iload_n C0 (pc' := 7) 2 rfl rfl dX0_walkFrom_6 rfl ?_
  refine v_iconst C0 (pc' := 8) 0 (by decide) dX0_walkFrom_7 rfl ?_
  refine v_callVv0 C0 (av := [.int start, .int 0]) (rest := []) (ws' := wX cI ad U T F C B RU RC WU (s_X0_reach_ST ST start 0) (s_X0_reach_RP RP RN start) (s_X0_reach_RN RN) WT SM CC TR) (pc' := 11) hK hA (k_X0_reach l D cI ad U T F C B RU RC WU ST RP RN WT SM CC TR start 0) (cwV 2 C0.2.2.2.2 gX0_walkFrom_X0_reach rfl rfl rfl (by decide +kernel) ⟨Nat.le_of_ble_eq_true rfl, Nat.le_of_ble_eq_true rfl⟩) ⟨0, 0, _, _, _, rfl, rfl⟩ PLs.all rfl rfl (Nat.le_of_ble_eq_true rfl) ⟨Nat.zero_le _, Nat.zero_le _⟩ dX0_walkFrom_8 rfl ?_
  refine v_iload_n C0 (pc' := 12) 0 rfl rfl dX0_walkFrom_11 rfl ?_
  refine v_istore_n C0 (lv' := [(3, .int RN), (2, .int RN), (0, .ref (ad 0)), (1, .int start)]) (pc' := 13) rfl (by decide) rfl dX0_walkFrom_12 rfl ?_
  suffices LP : ∀ (n : Nat) (x : Int32) (ST_1 RP_1 : Nat → Int32) (RN_1 : Int32), 97 ≤ (n : Int) + x.toInt → s_walk U T F WU TR n x (ST_1, RP_1, RN_1) = s_walk U T F WU TR s_FU RN (s_X0_reach_ST ST start 0, s_X0_reach_RP RP RN start, s_X0_reach_RN RN) → V p l e { frames := 5, cells := 0, slots := 0, locals := 114 } s m args below meth c D A 4 0 0 (MQ below (QV D (TI cI) (wX cI ad U T F C B RU RC WU (s_X0_walkFrom_ST U T F WU ST RP RN TR start) (s_X0_walkFrom_RP U T F WU ST RP RN TR start) (s_X0_walkFrom_RN U T F WU ST RP RN TR start) WT SM CC TR) A) args s 0 0 A) (wX cI ad U T F C B RU RC WU ST_1 RP_1 RN_1 WT SM CC TR) [(3, .int x), (0, .ref (ad 0)), (1, .int start), (2, .int RN)] 13 [] by
    exact v_sub (lv' := [(3, .int RN), (0, .ref (ad 0)), (1, .int start), (2, .int RN)]) [0, 2, 3, 1] rfl (LP s_FU RN (s_X0_reach_ST ST start 0) (s_X0_reach_RP RP RN start) (s_X0_reach_RN RN) (s_walk_room _) rfl)
  intro n
  induction n with
  | zero =>
    intro x ST_1 RP_1 RN_1 hf hs
    refine v_iload_n C0 (pc' := 14) 0 rfl rfl dX0_walkFrom_13 rfl ?_
    refine v_aload_n C0 (pc' := 15) 1 rfl rfl dX0_walkFrom_14 rfl ?_
    refine v_get C0 hK (C := RX0) (T := TX0) (N := 15) (pc' := 18) 0 10 rfl rfl rfl (by decide) in_X0_walkFrom fl_X0_walkFrom_143 rfl dX0_walkFrom_15 rfl ?_
    refine v_icmp_ge C0 45 (pc' := 21) dX0_walkFrom_18 (by decide) rfl (fun h2 => ?_) (fun h2 => ?_)
    · refine v_world (ws' := wX cI ad U T F C B RU RC WU (s_X0_walkFrom_ST U T F WU ST RP RN TR start) (s_X0_walkFrom_RP U T F WU ST RP RN TR start) (s_X0_walkFrom_RN U T F WU ST RP RN TR start) WT SM CC TR) (by simp only [s_X0_walkFrom_ST, s_X0_walkFrom_RP, s_X0_walkFrom_RN, ← hs, s_walk]) ?_
      exact v_vret C0 hr hlk hK dX0_walkFrom_45
    · refine v_iload_n C0 (pc' := 22) 0 rfl rfl dX0_walkFrom_21 rfl ?_
      refine v_bipush C0 (pc' := 24) 96 (by decide) dX0_walkFrom_22 rfl ?_
      refine v_icmp_ge C0 45 (pc' := 27) dX0_walkFrom_24 (by decide) rfl (fun h3 => ?_) (fun h3 => ?_)
      · refine v_world (ws' := wX cI ad U T F C B RU RC WU (s_X0_walkFrom_ST U T F WU ST RP RN TR start) (s_X0_walkFrom_RP U T F WU ST RP RN TR start) (s_X0_walkFrom_RN U T F WU ST RP RN TR start) WT SM CC TR) (by simp only [s_X0_walkFrom_ST, s_X0_walkFrom_RP, s_X0_walkFrom_RN, ← hs, s_walk]) ?_
        exact v_vret C0 hr hlk hK dX0_walkFrom_45
      · exact absurd (s_walk_end hf) h3
  | succ n ih =>
    intro x ST_1 RP_1 RN_1 hf hs
    refine v_iload_n C0 (pc' := 14) 0 rfl rfl dX0_walkFrom_13 rfl ?_
    refine v_aload_n C0 (pc' := 15) 1 rfl rfl dX0_walkFrom_14 rfl ?_
    refine v_get C0 hK (C := RX0) (T := TX0) (N := 15) (pc' := 18) 0 10 rfl rfl rfl (by decide) in_X0_walkFrom fl_X0_walkFrom_143 rfl dX0_walkFrom_15 rfl ?_
    refine v_icmp_ge C0 45 (pc' := 21) dX0_walkFrom_18 (by decide) rfl (fun h2 => ?_) (fun h2 => ?_)
    · refine v_world (ws' := wX cI ad U T F C B RU RC WU (s_X0_walkFrom_ST U T F WU ST RP RN TR start) (s_X0_walkFrom_RP U T F WU ST RP RN TR start) (s_X0_walkFrom_RN U T F WU ST RP RN TR start) WT SM CC TR) (by simp only [s_X0_walkFrom_ST, s_X0_walkFrom_RP, s_X0_walkFrom_RN, ← hs, s_walk, if_pos h2]) ?_
      exact v_vret C0 hr hlk hK dX0_walkFrom_45
    · refine v_iload_n C0 (pc' := 22) 0 rfl rfl dX0_walkFrom_21 rfl ?_
      refine v_bipush C0 (pc' := 24) 96 (by decide) dX0_walkFrom_22 rfl ?_
      refine v_icmp_ge C0 45 (pc' := 27) dX0_walkFrom_24 (by decide) rfl (fun h3 => ?_) (fun h3 => ?_)
      · refine v_world (ws' := wX cI ad U T F C B RU RC WU (s_X0_walkFrom_ST U T F WU ST RP RN TR start) (s_X0_walkFrom_RP U T F WU ST RP RN TR start) (s_X0_walkFrom_RN U T F WU ST RP RN TR start) WT SM CC TR) (by simp only [s_X0_walkFrom_ST, s_X0_walkFrom_RP, s_X0_walkFrom_RN, ← hs, s_walk, if_neg h2, if_pos h3]) ?_
        exact v_vret C0 hr hlk hK dX0_walkFrom_45
      · refine v_aload_n C0 (pc' := 28) 1 rfl rfl dX0_walkFrom_27 rfl ?_
        refine v_aload_n C0 (pc' := 29) 1 rfl rfl dX0_walkFrom_28 rfl ?_
        refine v_get C0 hK (C := RX0) (T := TX0) (N := 15) (pc' := 32) 0 9 rfl rfl rfl (by decide) in_X0_walkFrom fl_X0_walkFrom_37 rfl dX0_walkFrom_29 rfl ?_
        refine v_iload_n C0 (pc' := 33) 0 rfl rfl dX0_walkFrom_32 rfl ?_
        refine v_callSi0 C0 (av := [.ref (ad 10), .int x]) (rest := [.ref (ad 0)]) (ws' := wX cI ad U T F C B RU RC WU ST_1 RP_1 RN_1 WT SM CC TR) (pc' := 36) hK hA (k_X0_at l D cI (ad 10) 96 RP_1 x (by decide)) (va_cwS 2 C0.2.2.2.2 gX0_walkFrom_X0_at rfl rfl rfl (by decide +kernel) ⟨Nat.le_of_ble_eq_true rfl, Nat.le_of_ble_eq_true rfl⟩) (PLs.one0 10 rfl) rfl rfl (Nat.le_of_ble_eq_true rfl) ⟨Nat.zero_le _, Nat.zero_le _⟩ dX0_walkFrom_33 rfl ?_
        refine v_callVv0 C0 (av := [.int (xAt 96 RP_1 x)]) (rest := []) (ws' := wX cI ad U T F C B RU RC WU (s_X0_reachNeighbours_ST U T F WU ST_1 RP_1 RN_1 TR (xAt 96 RP_1 x)) (s_X0_reachNeighbours_RP U T F WU ST_1 RP_1 RN_1 TR (xAt 96 RP_1 x)) (s_X0_reachNeighbours_RN U T F WU ST_1 RP_1 RN_1 TR (xAt 96 RP_1 x)) WT SM CC TR) (pc' := 39) hK hA (k_X0_reachNeighbours l D cI ad U T F C B RU RC WU ST_1 RP_1 RN_1 WT SM CC TR (xAt 96 RP_1 x) hb_TR) (cwV 1 C0.2.2.2.2 gX0_walkFrom_X0_reachNeighbours rfl rfl rfl (by decide +kernel) ⟨Nat.le_of_ble_eq_true rfl, Nat.le_of_ble_eq_true rfl⟩) ⟨0, 0, _, _, _, rfl, rfl⟩ PLs.all rfl rfl (Nat.le_of_ble_eq_true rfl) ⟨Nat.zero_le _, Nat.zero_le _⟩ dX0_walkFrom_36 rfl ?_
        refine v_iinc C0 (lv' := [(3, .int (x + 1)), (0, .ref (ad 0)), (1, .int start), (2, .int RN)]) (pc' := 42) 0 rfl (x + 1) rfl (by decide) rfl dX0_walkFrom_39 rfl ?_
        refine v_goto C0 13 dX0_walkFrom_42 (by decide) ?_
        exact v_sub (lv' := [(3, .int (x + 1)), (0, .ref (ad 0)), (1, .int start), (2, .int RN)]) [0, 1, 2, 3] rfl (ih ((x + 1)) (s_X0_reachNeighbours_ST U T F WU ST_1 RP_1 RN_1 TR (xAt 96 RP_1 x)) (s_X0_reachNeighbours_RP U T F WU ST_1 RP_1 RN_1 TR (xAt 96 RP_1 x)) (s_X0_reachNeighbours_RN U T F WU ST_1 RP_1 RN_1 TR (xAt 96 RP_1 x)) (s_walk_step hf h3) (by rw [← hs]; simp only [s_walk, if_neg h2, if_neg h3]))
