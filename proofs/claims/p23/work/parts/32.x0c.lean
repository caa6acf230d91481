def s_X0_lowerSum (F : Nat → Int32) (SU : Nat → Int32) (WT : Nat → Int32) (slot : Int32) : Nat → Int32 := if (xAt 36 F slot) = (-1) then SU else (if (xAt 36 WT slot) = (-1) then SU else (if (xAt 6 SU ((xAt 36 F slot) / 6)) ≤ ((xAt 6 SU (slot / 6)) + (xAt 36 WT slot)) then SU else (xPut 6 SU ((xAt 36 F slot) / 6) ((xAt 6 SU (slot / 6)) + (xAt 36 WT slot)))))
set_option maxHeartbeats 4000000 in
set_option maxRecDepth 100000 in
theorem k_X0_lowerSum (l : Launch) (D : va_G) (cI : ClassId) (h fa ua wa : Nat) (fs : List Value) (F SU WT : Nat → Int32) (slot : Int32) (hf_farSlot : fs[2]? = some (.ref fa)) : Kv l yX0_lowerSum wsX0_lowerSum 1 22 0 0 D (TI cI) [.ref h, .ref ua, .ref wa, .int slot] ([(h, .inr (0, fs)), (fa, .inl (cI, 36, .inl F)), (ua, .inl (cI, 6, .inl SU)), (wa, .inl (cI, 36, .inl WT))]) ([(h, .inr (0, fs)), (fa, .inl (cI, 36, .inl F)), (ua, .inl (cI, 6, .inl (s_X0_lowerSum F SU WT slot))), (wa, .inl (cI, 36, .inl WT))]) := by
  refine Kv.of (cc := cX0_lowerSum) (maxL := 7) (lv0 := [(0, .ref h), (1, .ref ua), (2, .ref wa), (3, .int slot)]) (by decide +kernel) rfl (Nat.le_of_ble_eq_true rfl) rfl ?_
  intro p e s m args below meth c A C0 hr hlk hK hA
  refine v_aload_n C0 (pc' := 1) 0 rfl rfl dX0_lowerSum_0 rfl ?_
  refine v_get C0 hK (C := RX0) (T := TX0) (N := 15) (pc' := 4) 0 2 rfl hf_farSlot rfl (by decide) in_X0_lowerSum fl_X0_lowerSum_16 rfl dX0_lowerSum_1 rfl ?_
  refine v_iload_n C0 (pc' := 5) 3 rfl rfl dX0_lowerSum_4 rfl ?_
  refine v_callSi0 C0 (av := [.ref fa, .int slot]) (rest := []) (ws' := [(h, .inr (0, fs)), (fa, .inl (cI, 36, .inl F)), (ua, .inl (cI, 6, .inl SU)), (wa, .inl (cI, 36, .inl WT))]) (pc' := 8) hK hA (k_X0_at l D cI fa 36 F slot (by decide)) (va_cwS 2 C0.2.2.2.2 gX0_lowerSum_X0_at rfl rfl rfl (by decide +kernel) ⟨Nat.le_of_ble_eq_true rfl, Nat.le_of_ble_eq_true rfl⟩) (PLs.one0 1 rfl) rfl rfl (Nat.le_of_ble_eq_true rfl) ⟨Nat.zero_le _, Nat.zero_le _⟩ dX0_lowerSum_5 rfl ?_
  refine v_istore C0 (lv' := [(4, .int (xAt 36 F slot)), (0, .ref h), (1, .ref ua), (2, .ref wa), (3, .int slot)]) (pc' := 10) (by decide) rfl dX0_lowerSum_8 rfl ?_
  refine v_aload_n C0 (pc' := 11) 3 rfl rfl dX0_lowerSum_10 rfl ?_
  refine v_iload_n C0 (pc' := 12) 4 rfl rfl dX0_lowerSum_11 rfl ?_
  refine v_callSi0 C0 (av := [.ref wa, .int slot]) (rest := []) (ws' := [(h, .inr (0, fs)), (fa, .inl (cI, 36, .inl F)), (ua, .inl (cI, 6, .inl SU)), (wa, .inl (cI, 36, .inl WT))]) (pc' := 15) hK hA (k_X0_at l D cI wa 36 WT slot (by decide)) (va_cwS 2 C0.2.2.2.2 gX0_lowerSum_X0_at rfl rfl rfl (by decide +kernel) ⟨Nat.le_of_ble_eq_true rfl, Nat.le_of_ble_eq_true rfl⟩) (PLs.one0 3 rfl) rfl rfl (Nat.le_of_ble_eq_true rfl) ⟨Nat.zero_le _, Nat.zero_le _⟩ dX0_lowerSum_12 rfl ?_
  refine v_istore C0 (lv' := [(5, .int (xAt 36 WT slot)), (4, .int (xAt 36 F slot)), (0, .ref h), (1, .ref ua), (2, .ref wa), (3, .int slot)]) (pc' := 17) (by decide) rfl dX0_lowerSum_15 rfl ?_
  refine v_iload C0 (pc' := 19) 1 rfl dX0_lowerSum_17 rfl ?_
  refine v_iconst C0 (pc' := 20) (-1) (by decide) dX0_lowerSum_19 rfl ?_
  refine v_icmp_eq C0 29 (pc' := 23) dX0_lowerSum_20 (by decide) rfl (fun h1 => ?_) (fun h1 => ?_)
  · refine v_world (ws' := [(h, .inr (0, fs)), (fa, .inl (cI, 36, .inl F)), (ua, .inl (cI, 6, .inl (s_X0_lowerSum F SU WT slot))), (wa, .inl (cI, 36, .inl WT))]) (by simp only [s_X0_lowerSum, if_pos h1]) ?_
    exact v_vret C0 hr hlk hK dX0_lowerSum_29
  · refine v_iload C0 (pc' := 25) 0 rfl dX0_lowerSum_23 rfl ?_
    refine v_iconst C0 (pc' := 26) (-1) (by decide) dX0_lowerSum_25 rfl ?_
    refine v_icmp_ne C0 30 (pc' := 29) dX0_lowerSum_26 (by decide) rfl (fun h2 => ?_) (fun h2 => ?_)
    · refine v_aload_n C0 (pc' := 31) 3 rfl rfl dX0_lowerSum_30 rfl ?_
      refine v_iload_n C0 (pc' := 32) 5 rfl rfl dX0_lowerSum_31 rfl ?_
      refine v_bipush C0 (pc' := 34) 6 (by decide) dX0_lowerSum_32 rfl ?_
      refine v_idiv C0 (pc' := 35) (by decide) dX0_lowerSum_34 rfl ?_
      refine v_callSi0 C0 (av := [.ref ua, .int (slot / 6)]) (rest := []) (ws' := [(h, .inr (0, fs)), (fa, .inl (cI, 36, .inl F)), (ua, .inl (cI, 6, .inl SU)), (wa, .inl (cI, 36, .inl WT))]) (pc' := 38) hK hA (k_X0_at l D cI ua 6 SU (slot / 6) (by decide)) (va_cwS 2 C0.2.2.2.2 gX0_lowerSum_X0_at rfl rfl rfl (by decide +kernel) ⟨Nat.le_of_ble_eq_true rfl, Nat.le_of_ble_eq_true rfl⟩) (PLs.one0 2 rfl) rfl rfl (Nat.le_of_ble_eq_true rfl) ⟨Nat.zero_le _, Nat.zero_le _⟩ dX0_lowerSum_35 rfl ?_
      refine v_iload C0 (pc' := 40) 0 rfl dX0_lowerSum_38 rfl ?_
      refine v_iadd C0 (pc' := 41) dX0_lowerSum_40 rfl ?_
      refine v_istore C0 (lv' := [(6, .int ((xAt 6 SU (slot / 6)) + (xAt 36 WT slot))), (5, .int (xAt 36 WT slot)), (4, .int (xAt 36 F slot)), (0, .ref h), (1, .ref ua), (2, .ref wa), (3, .int slot)]) (pc' := 43) (by decide) rfl dX0_lowerSum_41 rfl ?_
      refine v_iload C0 (pc' := 45) 0 rfl dX0_lowerSum_43 rfl ?_
      refine v_aload_n C0 (pc' := 46) 4 rfl rfl dX0_lowerSum_45 rfl ?_
      refine v_iload C0 (pc' := 48) 2 rfl dX0_lowerSum_46 rfl ?_
      refine v_bipush C0 (pc' := 50) 6 (by decide) dX0_lowerSum_48 rfl ?_
      refine v_idiv C0 (pc' := 51) (by decide) dX0_lowerSum_50 rfl ?_
      refine v_callSi0 C0 (av := [.ref ua, .int ((xAt 36 F slot) / 6)]) (rest := [.int ((xAt 6 SU (slot / 6)) + (xAt 36 WT slot))]) (ws' := [(h, .inr (0, fs)), (fa, .inl (cI, 36, .inl F)), (ua, .inl (cI, 6, .inl SU)), (wa, .inl (cI, 36, .inl WT))]) (pc' := 54) hK hA (k_X0_at l D cI ua 6 SU ((xAt 36 F slot) / 6) (by decide)) (va_cwS 2 C0.2.2.2.2 gX0_lowerSum_X0_at rfl rfl rfl (by decide +kernel) ⟨Nat.le_of_ble_eq_true rfl, Nat.le_of_ble_eq_true rfl⟩) (PLs.one0 2 rfl) rfl rfl (Nat.le_of_ble_eq_true rfl) ⟨Nat.zero_le _, Nat.zero_le _⟩ dX0_lowerSum_51 rfl ?_
      refine v_icmp_ge C0 68 (pc' := 57) dX0_lowerSum_54 (by decide) rfl (fun h3 => ?_) (fun h3 => ?_)
      · refine v_world (ws' := [(h, .inr (0, fs)), (fa, .inl (cI, 36, .inl F)), (ua, .inl (cI, 6, .inl (s_X0_lowerSum F SU WT slot))), (wa, .inl (cI, 36, .inl WT))]) (by simp only [s_X0_lowerSum, if_neg h1, if_neg h2, if_pos h3]) ?_
        exact v_vret C0 hr hlk hK dX0_lowerSum_68
      · refine v_aload_n C0 (pc' := 58) 4 rfl rfl dX0_lowerSum_57 rfl ?_
        refine v_iload C0 (pc' := 60) 2 rfl dX0_lowerSum_58 rfl ?_
        refine v_bipush C0 (pc' := 62) 6 (by decide) dX0_lowerSum_60 rfl ?_
        refine v_idiv C0 (pc' := 63) (by decide) dX0_lowerSum_62 rfl ?_
        refine v_iload C0 (pc' := 65) 0 rfl dX0_lowerSum_63 rfl ?_
        refine v_callSv0 C0 (av := [.ref ua, .int ((xAt 36 F slot) / 6), .int ((xAt 6 SU (slot / 6)) + (xAt 36 WT slot))]) (rest := []) (ws' := [(h, .inr (0, fs)), (fa, .inl (cI, 36, .inl F)), (ua, .inl (cI, 6, .inl (xPut 6 SU ((xAt 36 F slot) / 6) ((xAt 6 SU (slot / 6)) + (xAt 36 WT slot))))), (wa, .inl (cI, 36, .inl WT))]) (pc' := 68) hK hA (k_X0_put l D cI ua 6 SU ((xAt 36 F slot) / 6) ((xAt 6 SU (slot / 6)) + (xAt 36 WT slot)) (by decide)) (va_cwS 3 C0.2.2.2.2 gX0_lowerSum_X0_put rfl rfl rfl (by decide +kernel) ⟨Nat.le_of_ble_eq_true rfl, Nat.le_of_ble_eq_true rfl⟩) (PLs.one 2 rfl) rfl rfl (Nat.le_of_ble_eq_true rfl) ⟨Nat.zero_le _, Nat.zero_le _⟩ dX0_lowerSum_65 rfl ?_
        refine v_world (ws' := [(h, .inr (0, fs)), (fa, .inl (cI, 36, .inl F)), (ua, .inl (cI, 6, .inl (s_X0_lowerSum F SU WT slot))), (wa, .inl (cI, 36, .inl WT))]) (by simp only [s_X0_lowerSum, if_neg h1, if_neg h2, if_neg h3]) ?_
        exact v_vret C0 hr hlk hK dX0_lowerSum_68
    · refine v_world (ws' := [(h, .inr (0, fs)), (fa, .inl (cI, 36, .inl F)), (ua, .inl (cI, 6, .inl (s_X0_lowerSum F SU WT slot))), (wa, .inl (cI, 36, .inl WT))]) (by simp only [s_X0_lowerSum, if_neg h1, if_pos h2]) ?_
      exact v_vret C0 hr hlk hK dX0_lowerSum_29
def s_X0_leastSums_L2 (F : Nat → Int32) (WT : Nat → Int32) (i2 : Nat) (SU_L2 : Nat → Int32) : Nat → Int32 := (s_X0_lowerSum F SU_L2 WT (nI i2))
def s_X0_leastSums_L1 (F : Nat → Int32) (WT : Nat → Int32) (i1 : Nat) (SU_L1 : Nat → Int32) : Nat → Int32 := (lp (s_X0_leastSums_L2 F WT) 36 SU_L1)
def s_X0_leastSums (F : Nat → Int32) (SU : Nat → Int32) (WT : Nat → Int32) : Nat → Int32 := (lp (s_X0_leastSums_L1 F WT) 5 SU)
set_option maxHeartbeats 4000000 in
set_option maxRecDepth 100000 in
theorem k_X0_leastSums (l : Launch) (D : va_G) (cI : ClassId) (h fa ua wa : Nat) (fs : List Value) (F SU WT : Nat → Int32)  (hf_farSlot : fs[2]? = some (.ref fa)) : Kv l yX0_leastSums wsX0_leastSums 2 48 0 0 D (TI cI) [.ref h, .ref ua, .ref wa] ([(h, .inr (0, fs)), (fa, .inl (cI, 36, .inl F)), (ua, .inl (cI, 6, .inl SU)), (wa, .inl (cI, 36, .inl WT))]) ([(h, .inr (0, fs)), (fa, .inl (cI, 36, .inl F)), (ua, .inl (cI, 6, .inl (s_X0_leastSums F SU WT))), (wa, .inl (cI, 36, .inl WT))]) := by
  refine Kv.of (cc := cX0_leastSums) (maxL := 5) (lv0 := [(0, .ref h), (1, .ref ua), (2, .ref wa)]) (by decide +kernel) rfl (Nat.le_of_ble_eq_true rfl) rfl ?_
  intro p e s m args below meth c A C0 hr hlk hK hA
  refine v_iconst C0 (pc' := 1) 1 (by decide) dX0_leastSums_0 rfl ?_
  refine v_istore_n C0 (lv' := [(3, .int 1), (0, .ref h), (1, .ref ua), (2, .ref wa)]) (pc' := 2) rfl (by decide) rfl dX0_leastSums_1 rfl ?_
  suffices LP1 : ∀ (j1 i1 : Nat) (x1 : Int32) (SU_L1 : Nat → Int32), i1 + j1 = 5 → x1 = nI (i1 + 1) → SU_L1 = lp (s_X0_leastSums_L1 F WT) i1 SU → V p l e { frames := 2, cells := 0, slots := 0, locals := 48 } s m args below meth c D A 5 0 0 (MQ below (QV D (TI cI) ([(h, .inr (0, fs)), (fa, .inl (cI, 36, .inl F)), (ua, .inl (cI, 6, .inl (s_X0_leastSums F SU WT))), (wa, .inl (cI, 36, .inl WT))]) A) args s 0 0 A) ([(h, .inr (0, fs)), (fa, .inl (cI, 36, .inl F)), (ua, .inl (cI, 6, .inl SU_L1)), (wa, .inl (cI, 36, .inl WT))]) [(3, .int x1), (0, .ref h), (1, .ref ua), (2, .ref wa)] 2 [] by
    exact v_sub (lv' := [(3, .int 1), (0, .ref h), (1, .ref ua), (2, .ref wa)]) [0, 1, 2, 3] rfl (LP1 5 0 1 SU (Nat.zero_add _) (by decide +kernel) (lp_zero _ _).symm)
  intro j1
  induction j1 with
  | zero =>
    intro i1 x1 SU_L1 hi1 hx1 hs_L1
    have hi1 : 5 = i1 := by omega
    subst hi1
    subst hx1
    refine v_iload_n C0 (pc' := 3) 0 rfl rfl dX0_leastSums_2 rfl ?_
    refine v_bipush C0 (pc' := 5) 6 (by decide) dX0_leastSums_3 rfl ?_
    refine v_icmp_ge C0 38 (pc' := 8) dX0_leastSums_5 (by decide) rfl (fun h1 => ?_) (fun h1 => ?_)
    · refine v_world (ws' := [(h, .inr (0, fs)), (fa, .inl (cI, 36, .inl F)), (ua, .inl (cI, 6, .inl (s_X0_leastSums F SU WT))), (wa, .inl (cI, 36, .inl WT))]) (by simp only [s_X0_leastSums, if_pos h1, ← hs_L1]) ?_
      exact v_vret C0 hr hlk hK dX0_leastSums_38
    · exact absurd (by decide +kernel) h1
  | succ j1 ih1 =>
    intro i1 x1 SU_L1 hi1 hx1 hs_L1
    subst hx1
    refine v_iload_n C0 (pc' := 3) 0 rfl rfl dX0_leastSums_2 rfl ?_
    refine v_bipush C0 (pc' := 5) 6 (by decide) dX0_leastSums_3 rfl ?_
    refine v_icmp_ge C0 38 (pc' := 8) dX0_leastSums_5 (by decide) rfl (fun h2 => ?_) (fun h2 => ?_)
    · exact absurd h2 (nI_ge (a := i1 + 1) (b := 6) (by omega) (by decide))
    · refine v_iconst C0 (pc' := 9) 0 (by decide) dX0_leastSums_8 rfl ?_
      refine v_istore C0 (lv' := [(4, .int 0), (3, .int (nI (i1 + 1))), (0, .ref h), (1, .ref ua), (2, .ref wa)]) (pc' := 11) (by decide) rfl dX0_leastSums_9 rfl ?_
      suffices LP2 : ∀ (j2 i2 : Nat) (x2 : Int32) (SU_L2 : Nat → Int32), i2 + j2 = 36 → x2 = nI i2 → SU_L2 = lp (s_X0_leastSums_L2 F WT) i2 SU_L1 → V p l e { frames := 2, cells := 0, slots := 0, locals := 48 } s m args below meth c D A 5 0 0 (MQ below (QV D (TI cI) ([(h, .inr (0, fs)), (fa, .inl (cI, 36, .inl F)), (ua, .inl (cI, 6, .inl (s_X0_leastSums F SU WT))), (wa, .inl (cI, 36, .inl WT))]) A) args s 0 0 A) ([(h, .inr (0, fs)), (fa, .inl (cI, 36, .inl F)), (ua, .inl (cI, 6, .inl SU_L2)), (wa, .inl (cI, 36, .inl WT))]) [(4, .int x2), (3, .int (nI (i1 + 1))), (0, .ref h), (1, .ref ua), (2, .ref wa)] 11 [] by
        exact v_sub (lv' := [(4, .int 0), (3, .int (nI (i1 + 1))), (0, .ref h), (1, .ref ua), (2, .ref wa)]) [0, 1, 2, 3, 4] rfl (LP2 36 0 0 SU_L1 (Nat.zero_add _) nI_0.symm (lp_zero _ _).symm)
      intro j2
      induction j2 with
      | zero =>
        intro i2 x2 SU_L2 hi2 hx2 hs_L2
        have hi2 : 36 = i2 := by omega
        subst hi2
        subst hx2
        refine v_iload C0 (pc' := 13) 0 rfl dX0_leastSums_11 rfl ?_
        refine v_bipush C0 (pc' := 15) 36 (by decide) dX0_leastSums_13 rfl ?_
        refine v_icmp_ge C0 32 (pc' := 18) dX0_leastSums_15 (by decide) rfl (fun h3 => ?_) (fun h3 => ?_)
        · refine v_iinc C0 (lv' := [(3, .int ((nI (i1 + 1)) + 1)), (4, .int (nI 36)), (0, .ref h), (1, .ref ua), (2, .ref wa)]) (pc' := 35) 1 rfl ((nI (i1 + 1)) + 1) rfl (by decide) rfl dX0_leastSums_32 rfl ?_
          refine v_goto C0 2 dX0_leastSums_35 (by decide) ?_
          exact v_sub (lv' := [(3, .int ((nI (i1 + 1)) + 1)), (0, .ref h), (1, .ref ua), (2, .ref wa)]) [0, 2, 3, 4] rfl (ih1 (i1 + 1) ((nI (i1 + 1)) + 1) SU_L2 (by omega) (by rw [nI_1]) (by rw [lp_succ, ← hs_L1]; simp only [s_X0_leastSums_L1, if_neg h2, if_pos h3, ← hs_L2]))
        · exact absurd (by decide +kernel) h3
      | succ j2 ih2 =>
        intro i2 x2 SU_L2 hi2 hx2 hs_L2
        subst hx2
        refine v_iload C0 (pc' := 13) 0 rfl dX0_leastSums_11 rfl ?_
        refine v_bipush C0 (pc' := 15) 36 (by decide) dX0_leastSums_13 rfl ?_
        refine v_icmp_ge C0 32 (pc' := 18) dX0_leastSums_15 (by decide) rfl (fun h4 => ?_) (fun h4 => ?_)
        · exact absurd h4 (nI_ge (a := i2) (b := 36) (by omega) (by decide))
        · refine v_aload_n C0 (pc' := 19) 2 rfl rfl dX0_leastSums_18 rfl ?_
          refine v_aload_n C0 (pc' := 20) 3 rfl rfl dX0_leastSums_19 rfl ?_
          refine v_aload_n C0 (pc' := 21) 4 rfl rfl dX0_leastSums_20 rfl ?_
          refine v_iload C0 (pc' := 23) 0 rfl dX0_leastSums_21 rfl ?_
          refine v_callVv0 C0 (av := [.ref ua, .ref wa, .int (nI i2)]) (rest := []) (ws' := [(h, .inr (0, fs)), (fa, .inl (cI, 36, .inl F)), (ua, .inl (cI, 6, .inl (s_X0_lowerSum F SU_L2 WT (nI i2)))), (wa, .inl (cI, 36, .inl WT))]) (pc' := 26) hK hA (k_X0_lowerSum l D cI h fa ua wa fs F SU_L2 WT (nI i2) hf_farSlot) (cwV 3 C0.2.2.2.2 gX0_leastSums_X0_lowerSum rfl rfl rfl (by decide +kernel) ⟨Nat.le_of_ble_eq_true rfl, Nat.le_of_ble_eq_true rfl⟩) ⟨0, 0, _, _, _, rfl, rfl⟩ PLs.all rfl rfl (Nat.le_of_ble_eq_true rfl) ⟨Nat.zero_le _, Nat.zero_le _⟩ dX0_leastSums_23 rfl ?_
          refine v_iinc C0 (lv' := [(4, .int ((nI i2) + 1)), (3, .int (nI (i1 + 1))), (0, .ref h), (1, .ref ua), (2, .ref wa)]) (pc' := 29) 0 rfl ((nI i2) + 1) rfl (by decide) rfl dX0_leastSums_26 rfl ?_
          refine v_goto C0 11 dX0_leastSums_29 (by decide) ?_
          exact v_sub (lv' := [(4, .int ((nI i2) + 1)), (3, .int (nI (i1 + 1))), (0, .ref h), (1, .ref ua), (2, .ref wa)]) [0, 1, 2, 3, 4] rfl (ih2 (i2 + 1) ((nI i2) + 1) (s_X0_lowerSum F SU_L2 WT (nI i2)) (by omega) (by rw [nI_1]) (by rw [lp_succ, ← hs_L2]; simp only [s_X0_leastSums_L2, if_neg h2, if_neg h4]))
def s_X0_wrong_L1 (F : Nat → Int32) (B : Nat → Int32) (i1 : Nat) (n_L1 : Int32) : Int32 := if (xAt 36 B (nI i1)) = (-1) then n_L1 else (if (xAt 36 B (nI i1)) = (s_X0_endName (xAt 36 F (nI i1))) then n_L1 else (n_L1 + 1))
def s_X0_wrong (F : Nat → Int32) (B : Nat → Int32) : Int32 := (lp (s_X0_wrong_L1 F B) 36 0)
set_option maxHeartbeats 4000000 in
set_option maxRecDepth 100000 in
theorem k_X0_wrong (l : Launch) (D : va_G) (cI : ClassId) (ad : Nat → Nat) (U : Nat → Int32) (T : Nat → Int32) (F : Nat → Int32) (C : Nat → Int32) (B : Nat → Int32) (RU : Nat → Int32) (RC : Nat → Int32) (WU : Nat → Int32) (ST : Nat → Int32) (RP : Nat → Int32) (RN : Int32) (WT : Nat → Int32) (SM : Nat → Int32) (CC : Int32) (TR : Int32)  : Ki l yX0_wrong wsX0_wrong 1 21 0 0 D (TI cI) [.ref (ad 0)] (wX cI ad U T F C B RU RC WU ST RP RN WT SM CC TR) (wX cI ad U T F C B RU RC WU ST RP RN WT SM CC TR) (s_X0_wrong F B) := by
  refine Ki.of (cc := cX0_wrong) (maxL := 4) (rt := .int) (lv0 := [(0, .ref (ad 0))]) (by decide +kernel) rfl (Nat.le_of_ble_eq_true rfl) rfl ?_
  intro p e s m args below meth c A C0 hr hlk hK hA
  refine v_iconst C0 (pc' := 1) 0 (by decide) dX0_wrong_0 rfl ?_
  refine v_istore_n C0 (lv' := [(1, .int 0), (0, .ref (ad 0))]) (pc' := 2) rfl (by decide) rfl dX0_wrong_1 rfl ?_
  refine v_iconst C0 (pc' := 3) 0 (by decide) dX0_wrong_2 rfl ?_
  refine v_istore_n C0 (lv' := [(2, .int 0), (1, .int 0), (0, .ref (ad 0))]) (pc' := 4) rfl (by decide) rfl dX0_wrong_3 rfl ?_
  suffices LP1 : ∀ (j1 i1 : Nat) (x1 : Int32) (n_L1 : Int32), i1 + j1 = 36 → x1 = nI i1 → n_L1 = lp (s_X0_wrong_L1 F B) i1 0 → V p l e { frames := 1, cells := 0, slots := 0, locals := 21 } s m args below meth c D A 4 0 0 (MQ below (QI D (TI cI) (wX cI ad U T F C B RU RC WU ST RP RN WT SM CC TR) A (s_X0_wrong F B)) args s 0 0 A) (wX cI ad U T F C B RU RC WU ST RP RN WT SM CC TR) [(2, .int x1), (1, .int n_L1), (0, .ref (ad 0))] 4 [] by
    exact v_sub (lv' := [(2, .int 0), (1, .int 0), (0, .ref (ad 0))]) [0, 1, 2] rfl (LP1 36 0 0 0 (Nat.zero_add _) nI_0.symm (lp_zero _ _).symm)
  intro j1
  induction j1 with
  | zero =>
    intro i1 x1 n_L1 hi1 hx1 hs_L1
    have hi1 : 36 = i1 := by omega
    subst hi1
    subst hx1
    refine v_iload_n C0 (pc' := 5) 0 rfl rfl dX0_wrong_4 rfl ?_
    refine v_bipush C0 (pc' := 7) 36 (by decide) dX0_wrong_5 rfl ?_
    refine v_icmp_ge C0 48 (pc' := 10) dX0_wrong_7 (by decide) rfl (fun h1 => ?_) (fun h1 => ?_)
    · refine v_iload_n C0 (pc' := 49) 1 rfl rfl dX0_wrong_48 rfl ?_
      exact v_iret C0 hr hlk hK (by simp only [s_X0_wrong, if_pos h1, ← hs_L1]) dX0_wrong_49
    · exact absurd (by decide +kernel) h1
  | succ j1 ih1 =>
    intro i1 x1 n_L1 hi1 hx1 hs_L1
    subst hx1
    refine v_iload_n C0 (pc' := 5) 0 rfl rfl dX0_wrong_4 rfl ?_
    refine v_bipush C0 (pc' := 7) 36 (by decide) dX0_wrong_5 rfl ?_
    refine v_icmp_ge C0 48 (pc' := 10) dX0_wrong_7 (by decide) rfl (fun h2 => ?_) (fun h2 => ?_)
    · exact absurd h2 (nI_ge (a := i1) (b := 36) (by omega) (by decide))
    · refine v_aload_n C0 (pc' := 11) 2 rfl rfl dX0_wrong_10 rfl ?_
      refine v_get C0 hK (C := RX0) (T := TX0) (N := 15) (pc' := 14) 0 4 rfl rfl rfl (by decide) in_X0_wrong fl_X0_wrong_22 rfl dX0_wrong_11 rfl ?_
      refine v_iload_n C0 (pc' := 15) 0 rfl rfl dX0_wrong_14 rfl ?_
      refine v_callSi0 C0 (av := [.ref (ad 5), .int (nI i1)]) (rest := []) (ws' := wX cI ad U T F C B RU RC WU ST RP RN WT SM CC TR) (pc' := 18) hK hA (k_X0_at l D cI (ad 5) 36 B (nI i1) (by decide)) (va_cwS 2 C0.2.2.2.2 gX0_wrong_X0_at rfl rfl rfl (by decide +kernel) ⟨Nat.le_of_ble_eq_true rfl, Nat.le_of_ble_eq_true rfl⟩) (PLs.one0 5 rfl) rfl rfl (Nat.le_of_ble_eq_true rfl) ⟨Nat.zero_le _, Nat.zero_le _⟩ dX0_wrong_15 rfl ?_
      refine v_istore_n C0 (lv' := [(3, .int (xAt 36 B (nI i1))), (2, .int (nI i1)), (1, .int n_L1), (0, .ref (ad 0))]) (pc' := 19) rfl (by decide) rfl dX0_wrong_18 rfl ?_
      refine v_iload_n C0 (pc' := 20) 0 rfl rfl dX0_wrong_19 rfl ?_
      refine v_iconst C0 (pc' := 21) (-1) (by decide) dX0_wrong_20 rfl ?_
      refine v_icmp_eq C0 42 (pc' := 24) dX0_wrong_21 (by decide) rfl (fun h3 => ?_) (fun h3 => ?_)
      · refine v_iinc C0 (lv' := [(2, .int ((nI i1) + 1)), (3, .int (xAt 36 B (nI i1))), (1, .int n_L1), (0, .ref (ad 0))]) (pc' := 45) 1 rfl ((nI i1) + 1) rfl (by decide) rfl dX0_wrong_42 rfl ?_
        refine v_goto C0 4 dX0_wrong_45 (by decide) ?_
        exact v_sub (lv' := [(2, .int ((nI i1) + 1)), (1, .int n_L1), (0, .ref (ad 0))]) [0, 2, 3] rfl (ih1 (i1 + 1) ((nI i1) + 1) n_L1 (by omega) (by rw [nI_1]) (by rw [lp_succ, ← hs_L1]; simp only [s_X0_wrong_L1, if_neg h2, if_pos h3]))
      · refine v_iload_n C0 (pc' := 25) 0 rfl rfl dX0_wrong_24 rfl ?_
        refine v_aload_n C0 (pc' := 26) 3 rfl rfl dX0_wrong_25 rfl ?_
        refine v_get C0 hK (C := RX0) (T := TX0) (N := 15) (pc' := 29) 0 2 rfl rfl rfl (by decide) in_X0_wrong fl_X0_wrong_16 rfl dX0_wrong_26 rfl ?_
        refine v_iload_n C0 (pc' := 30) 1 rfl rfl dX0_wrong_29 rfl ?_
        refine v_callSi0 C0 (av := [.ref (ad 3), .int (nI i1)]) (rest := [.int (xAt 36 B (nI i1))]) (ws' := wX cI ad U T F C B RU RC WU ST RP RN WT SM CC TR) (pc' := 33) hK hA (k_X0_at l D cI (ad 3) 36 F (nI i1) (by decide)) (va_cwS 2 C0.2.2.2.2 gX0_wrong_X0_at rfl rfl rfl (by decide +kernel) ⟨Nat.le_of_ble_eq_true rfl, Nat.le_of_ble_eq_true rfl⟩) (PLs.one0 3 rfl) rfl rfl (Nat.le_of_ble_eq_true rfl) ⟨Nat.zero_le _, Nat.zero_le _⟩ dX0_wrong_30 rfl ?_
        refine v_callSi0 C0 (av := [.int (xAt 36 F (nI i1))]) (rest := [.int (xAt 36 B (nI i1))]) (ws' := wX cI ad U T F C B RU RC WU ST RP RN WT SM CC TR) (pc' := 36) hK hA (k_X0_endName l D cI (xAt 36 F (nI i1))) (va_cwS 1 C0.2.2.2.2 gX0_wrong_X0_endName rfl rfl rfl (by decide +kernel) ⟨Nat.le_of_ble_eq_true rfl, Nat.le_of_ble_eq_true rfl⟩) PLs.nil rfl rfl (Nat.le_of_ble_eq_true rfl) ⟨Nat.zero_le _, Nat.zero_le _⟩ dX0_wrong_33 rfl ?_
        refine v_icmp_eq C0 42 (pc' := 39) dX0_wrong_36 (by decide) rfl (fun h4 => ?_) (fun h4 => ?_)
        · refine v_iinc C0 (lv' := [(2, .int ((nI i1) + 1)), (3, .int (xAt 36 B (nI i1))), (1, .int n_L1), (0, .ref (ad 0))]) (pc' := 45) 1 rfl ((nI i1) + 1) rfl (by decide) rfl dX0_wrong_42 rfl ?_
          refine v_goto C0 4 dX0_wrong_45 (by decide) ?_
          exact v_sub (lv' := [(2, .int ((nI i1) + 1)), (1, .int n_L1), (0, .ref (ad 0))]) [0, 2, 3] rfl (ih1 (i1 + 1) ((nI i1) + 1) n_L1 (by omega) (by rw [nI_1]) (by rw [lp_succ, ← hs_L1]; simp only [s_X0_wrong_L1, if_neg h2, if_neg h3, if_pos h4]))
        · refine v_iinc C0 (lv' := [(1, .int (n_L1 + 1)), (3, .int (xAt 36 B (nI i1))), (2, .int (nI i1)), (0, .ref (ad 0))]) (pc' := 42) 2 rfl (n_L1 + 1) rfl (by decide) rfl dX0_wrong_39 rfl ?_
          refine v_iinc C0 (lv' := [(2, .int ((nI i1) + 1)), (1, .int (n_L1 + 1)), (3, .int (xAt 36 B (nI i1))), (0, .ref (ad 0))]) (pc' := 45) 2 rfl ((nI i1) + 1) rfl (by decide) rfl dX0_wrong_42 rfl ?_
          refine v_goto C0 4 dX0_wrong_45 (by decide) ?_
          exact v_sub (lv' := [(2, .int ((nI i1) + 1)), (1, .int (n_L1 + 1)), (0, .ref (ad 0))]) [0, 1, 3] rfl (ih1 (i1 + 1) ((nI i1) + 1) (n_L1 + 1) (by omega) (by rw [nI_1]) (by rw [lp_succ, ← hs_L1]; simp only [s_X0_wrong_L1, if_neg h2, if_neg h3, if_neg h4]))
def s_X0_countWays_L1 (U : Nat → Int32) (T : Nat → Int32) (F : Nat → Int32) (WU : Nat → Int32) (TR : Int32) (i1 : Nat) (n_L1 : Int32) : Int32 := if (s_X0_hasLiveCable F WU TR (nI i1)) = 0 then n_L1 else (if (xAt 36 F (nI i1)) ≤ (nI i1) then n_L1 else (n_L1 + (s_X0_waysOver U T (nI i1) (xAt 36 F (nI i1)))))
def s_X0_countWays (U : Nat → Int32) (T : Nat → Int32) (F : Nat → Int32) (WU : Nat → Int32) (TR : Int32) : Int32 := (lp (s_X0_countWays_L1 U T F WU TR) 36 0)
set_option maxHeartbeats 4000000 in
set_option maxRecDepth 100000 in
theorem k_X0_countWays (l : Launch) (D : va_G) (cI : ClassId) (ad : Nat → Nat) (U : Nat → Int32) (T : Nat → Int32) (F : Nat → Int32) (C : Nat → Int32) (B : Nat → Int32) (RU : Nat → Int32) (RC : Nat → Int32) (WU : Nat → Int32) (ST : Nat → Int32) (RP : Nat → Int32) (RN : Int32) (WT : Nat → Int32) (SM : Nat → Int32) (CC : Int32) (TR : Int32)  (hb_TR : TR = 0 ∨ TR = 1) : Ki l yX0_countWays wsX0_countWays 2 45 0 0 D (TI cI) [.ref (ad 0)] (wX cI ad U T F C B RU RC WU ST RP RN WT SM CC TR) (wX cI ad U T F C B RU RC WU ST RP RN WT SM CC TR) (s_X0_countWays U T F WU TR) := by
  refine Ki.of (cc := cX0_countWays) (maxL := 3) (rt := .int) (lv0 := [(0, .ref (ad 0))]) (by decide +kernel) rfl (Nat.le_of_ble_eq_true rfl) rfl ?_
  intro p e s m args below meth c A C0 hr hlk hK hA
  refine v_iconst C0 (pc' := 1) 0 (by decide) dX0_countWays_0 rfl ?_
  refine v_istore_n C0 (lv' := [(1, .int 0), (0, .ref (ad 0))]) (pc' := 2) rfl (by decide) rfl dX0_countWays_1 rfl ?_
  refine v_iconst C0 (pc' := 3) 0 (by decide) dX0_countWays_2 rfl ?_
  refine v_istore_n C0 (lv' := [(2, .int 0), (1, .int 0), (0, .ref (ad 0))]) (pc' := 4) rfl (by decide) rfl dX0_countWays_3 rfl ?_
  suffices LP1 : ∀ (j1 i1 : Nat) (x1 : Int32) (n_L1 : Int32), i1 + j1 = 36 → x1 = nI i1 → n_L1 = lp (s_X0_countWays_L1 U T F WU TR) i1 0 → V p l e { frames := 2, cells := 0, slots := 0, locals := 45 } s m args below meth c D A 3 0 0 (MQ below (QI D (TI cI) (wX cI ad U T F C B RU RC WU ST RP RN WT SM CC TR) A (s_X0_countWays U T F WU TR)) args s 0 0 A) (wX cI ad U T F C B RU RC WU ST RP RN WT SM CC TR) [(2, .int x1), (1, .int n_L1), (0, .ref (ad 0))] 4 [] by
    exact v_sub (lv' := [(2, .int 0), (1, .int 0), (0, .ref (ad 0))]) [0, 1, 2] rfl (LP1 36 0 0 0 (Nat.zero_add _) nI_0.symm (lp_zero _ _).symm)
  intro j1
  induction j1 with
  | zero =>
    intro i1 x1 n_L1 hi1 hx1 hs_L1
    have hi1 : 36 = i1 := by omega
    subst hi1
    subst hx1
    refine v_iload_n C0 (pc' := 5) 0 rfl rfl dX0_countWays_4 rfl ?_
    refine v_bipush C0 (pc' := 7) 36 (by decide) dX0_countWays_5 rfl ?_
    refine v_icmp_ge C0 52 (pc' := 10) dX0_countWays_7 (by decide) rfl (fun h1 => ?_) (fun h1 => ?_)
    · refine v_iload_n C0 (pc' := 53) 1 rfl rfl dX0_countWays_52 rfl ?_
      exact v_iret C0 hr hlk hK (by simp only [s_X0_countWays, if_pos h1, ← hs_L1]) dX0_countWays_53
    · exact absurd (by decide +kernel) h1
  | succ j1 ih1 =>
    intro i1 x1 n_L1 hi1 hx1 hs_L1
    subst hx1
    refine v_iload_n C0 (pc' := 5) 0 rfl rfl dX0_countWays_4 rfl ?_
    refine v_bipush C0 (pc' := 7) 36 (by decide) dX0_countWays_5 rfl ?_
    refine v_icmp_ge C0 52 (pc' := 10) dX0_countWays_7 (by decide) rfl (fun h2 => ?_) (fun h2 => ?_)
    · exact absurd h2 (nI_ge (a := i1) (b := 36) (by omega) (by decide))
    · refine v_aload_n C0 (pc' := 11) 2 rfl rfl dX0_countWays_10 rfl ?_
      refine v_iload_n C0 (pc' := 12) 0 rfl rfl dX0_countWays_11 rfl ?_
      refine v_callVi0 C0 (av := [.int (nI i1)]) (rest := []) (ws' := wX cI ad U T F C B RU RC WU ST RP RN WT SM CC TR) (pc' := 15) hK hA (k_X0_hasLiveCable l D cI ad U T F C B RU RC WU ST RP RN WT SM CC TR (nI i1) hb_TR) (cwV 1 C0.2.2.2.2 gX0_countWays_X0_hasLiveCable rfl rfl rfl (by decide +kernel) ⟨Nat.le_of_ble_eq_true rfl, Nat.le_of_ble_eq_true rfl⟩) ⟨0, 0, _, _, _, rfl, rfl⟩ PLs.all rfl rfl (Nat.le_of_ble_eq_true rfl) ⟨Nat.zero_le _, Nat.zero_le _⟩ dX0_countWays_12 rfl ?_
      refine v_if_eq C0 46 (pc' := 18) dX0_countWays_15 (by decide) rfl (fun h3 => ?_) (fun h3 => ?_)
      · refine v_iinc C0 (lv' := [(2, .int ((nI i1) + 1)), (1, .int n_L1), (0, .ref (ad 0))]) (pc' := 49) 0 rfl ((nI i1) + 1) rfl (by decide) rfl dX0_countWays_46 rfl ?_
        refine v_goto C0 4 dX0_countWays_49 (by decide) ?_
        exact v_sub (lv' := [(2, .int ((nI i1) + 1)), (1, .int n_L1), (0, .ref (ad 0))]) [0, 1, 2] rfl (ih1 (i1 + 1) ((nI i1) + 1) n_L1 (by omega) (by rw [nI_1]) (by rw [lp_succ, ← hs_L1]; simp only [s_X0_countWays_L1, if_neg h2, if_pos h3]))
      · refine v_iload_n C0 (pc' := 19) 0 rfl rfl dX0_countWays_18 rfl ?_
        refine v_aload_n C0 (pc' := 20) 2 rfl rfl dX0_countWays_19 rfl ?_
        refine v_get C0 hK (C := RX0) (T := TX0) (N := 15) (pc' := 23) 0 2 rfl rfl rfl (by decide) in_X0_countWays fl_X0_countWays_16 rfl dX0_countWays_20 rfl ?_
        refine v_iload_n C0 (pc' := 24) 0 rfl rfl dX0_countWays_23 rfl ?_
        refine v_callSi0 C0 (av := [.ref (ad 3), .int (nI i1)]) (rest := [.int (nI i1)]) (ws' := wX cI ad U T F C B RU RC WU ST RP RN WT SM CC TR) (pc' := 27) hK hA (k_X0_at l D cI (ad 3) 36 F (nI i1) (by decide)) (va_cwS 2 C0.2.2.2.2 gX0_countWays_X0_at rfl rfl rfl (by decide +kernel) ⟨Nat.le_of_ble_eq_true rfl, Nat.le_of_ble_eq_true rfl⟩) (PLs.one0 3 rfl) rfl rfl (Nat.le_of_ble_eq_true rfl) ⟨Nat.zero_le _, Nat.zero_le _⟩ dX0_countWays_24 rfl ?_
        refine v_icmp_ge C0 46 (pc' := 30) dX0_countWays_27 (by decide) rfl (fun h4 => ?_) (fun h4 => ?_)
        · refine v_iinc C0 (lv' := [(2, .int ((nI i1) + 1)), (1, .int n_L1), (0, .ref (ad 0))]) (pc' := 49) 0 rfl ((nI i1) + 1) rfl (by decide) rfl dX0_countWays_46 rfl ?_
          refine v_goto C0 4 dX0_countWays_49 (by decide) ?_
          exact v_sub (lv' := [(2, .int ((nI i1) + 1)), (1, .int n_L1), (0, .ref (ad 0))]) [0, 1, 2] rfl (ih1 (i1 + 1) ((nI i1) + 1) n_L1 (by omega) (by rw [nI_1]) (by rw [lp_succ, ← hs_L1]; simp only [s_X0_countWays_L1, if_neg h2, if_neg h3, if_pos h4]))
        · refine v_iload_n C0 (pc' := 31) 1 rfl rfl dX0_countWays_30 rfl ?_
          refine v_aload_n C0 (pc' := 32) 2 rfl rfl dX0_countWays_31 rfl ?_
          refine v_iload_n C0 (pc' := 33) 0 rfl rfl dX0_countWays_32 rfl ?_
          refine v_aload_n C0 (pc' := 34) 2 rfl rfl dX0_countWays_33 rfl ?_
          refine v_get C0 hK (C := RX0) (T := TX0) (N := 15) (pc' := 37) 0 2 rfl rfl rfl (by decide) in_X0_countWays fl_X0_countWays_16 rfl dX0_countWays_34 rfl ?_
          refine v_iload_n C0 (pc' := 38) 0 rfl rfl dX0_countWays_37 rfl ?_
          refine v_callSi0 C0 (av := [.ref (ad 3), .int (nI i1)]) (rest := [.int (nI i1), .ref (ad 0), .int n_L1]) (ws' := wX cI ad U T F C B RU RC WU ST RP RN WT SM CC TR) (pc' := 41) hK hA (k_X0_at l D cI (ad 3) 36 F (nI i1) (by decide)) (va_cwS 2 C0.2.2.2.2 gX0_countWays_X0_at rfl rfl rfl (by decide +kernel) ⟨Nat.le_of_ble_eq_true rfl, Nat.le_of_ble_eq_true rfl⟩) (PLs.one0 3 rfl) rfl rfl (Nat.le_of_ble_eq_true rfl) ⟨Nat.zero_le _, Nat.zero_le _⟩ dX0_countWays_38 rfl ?_
          refine v_callVi0 C0 (av := [.int (nI i1), .int (xAt 36 F (nI i1))]) (rest := [.int n_L1]) (ws' := wX cI ad U T F C B RU RC WU ST RP RN WT SM CC TR) (pc' := 44) hK hA (k_X0_waysOver l D cI ad U T F C B RU RC WU ST RP RN WT SM CC TR (nI i1) (xAt 36 F (nI i1))) (cwV 2 C0.2.2.2.2 gX0_countWays_X0_waysOver rfl rfl rfl (by decide +kernel) ⟨Nat.le_of_ble_eq_true rfl, Nat.le_of_ble_eq_true rfl⟩) ⟨0, 0, _, _, _, rfl, rfl⟩ PLs.all rfl rfl (Nat.le_of_ble_eq_true rfl) ⟨Nat.zero_le _, Nat.zero_le _⟩ dX0_countWays_41 rfl ?_
          refine v_iadd C0 (pc' := 45) dX0_countWays_44 rfl ?_
          refine v_istore_n C0 (lv' := [(1, .int (n_L1 + (s_X0_waysOver U T (nI i1) (xAt 36 F (nI i1))))), (2, .int (nI i1)), (0, .ref (ad 0))]) (pc' := 46) rfl (by decide) rfl dX0_countWays_45 rfl ?_
          refine v_iinc C0 (lv' := [(2, .int ((nI i1) + 1)), (1, .int (n_L1 + (s_X0_waysOver U T (nI i1) (xAt 36 F (nI i1))))), (0, .ref (ad 0))]) (pc' := 49) 1 rfl ((nI i1) + 1) rfl (by decide) rfl dX0_countWays_46 rfl ?_
          refine v_goto C0 4 dX0_countWays_49 (by decide) ?_
          exact v_sub (lv' := [(2, .int ((nI i1) + 1)), (1, .int (n_L1 + (s_X0_waysOver U T (nI i1) (xAt 36 F (nI i1))))), (0, .ref (ad 0))]) [0, 1, 2] rfl (ih1 (i1 + 1) ((nI i1) + 1) (n_L1 + (s_X0_waysOver U T (nI i1) (xAt 36 F (nI i1)))) (by omega) (by rw [nI_1]) (by rw [lp_succ, ← hs_L1]; simp only [s_X0_countWays_L1, if_neg h2, if_neg h3, if_neg h4]))
def s_X0_reachNeighbours_L1 (U : Nat → Int32) (T : Nat → Int32) (F : Nat → Int32) (WU : Nat → Int32) (TR : Int32) (place : Int32) (i1 : Nat) (z : (Nat → Int32) × (Nat → Int32) × Int32) : (Nat → Int32) × (Nat → Int32) × Int32 := match z with
  | (ST_L1, RP_L1, RN_L1) => if (s_X0_placeBeyond U T F WU TR (((place / 16) * 6) + (nI i1)) (place - place / 16 * 16)) = (-1) then (ST_L1, RP_L1, RN_L1) else (if (xAt 96 ST_L1 (s_X0_placeBeyond U T F WU TR (((place / 16) * 6) + (nI i1)) (place - place / 16 * 16))) = (-1) then (s_X0_reach_ST ST_L1 (s_X0_placeBeyond U T F WU TR (((place / 16) * 6) + (nI i1)) (place - place / 16 * 16)) ((xAt 96 ST_L1 place) + 1), s_X0_reach_RP RP_L1 RN_L1 (s_X0_placeBeyond U T F WU TR (((place / 16) * 6) + (nI i1)) (place - place / 16 * 16)), s_X0_reach_RN RN_L1) else (ST_L1, RP_L1, RN_L1))
def s_X0_reachNeighbours_ST (U : Nat → Int32) (T : Nat → Int32) (F : Nat → Int32) (WU : Nat → Int32) (ST : Nat → Int32) (RP : Nat → Int32) (RN : Int32) (TR : Int32) (place : Int32) : Nat → Int32 := ((lp (s_X0_reachNeighbours_L1 U T F WU TR place) 6 (ST, RP, RN)).1)
def s_X0_reachNeighbours_RP (U : Nat → Int32) (T : Nat → Int32) (F : Nat → Int32) (WU : Nat → Int32) (ST : Nat → Int32) (RP : Nat → Int32) (RN : Int32) (TR : Int32) (place : Int32) : Nat → Int32 := ((lp (s_X0_reachNeighbours_L1 U T F WU TR place) 6 (ST, RP, RN)).2.1)
def s_X0_reachNeighbours_RN (U : Nat → Int32) (T : Nat → Int32) (F : Nat → Int32) (WU : Nat → Int32) (ST : Nat → Int32) (RP : Nat → Int32) (RN : Int32) (TR : Int32) (place : Int32) : Int32 := ((lp (s_X0_reachNeighbours_L1 U T F WU TR place) 6 (ST, RP, RN)).2.2)
set_option maxHeartbeats 4000000 in
set_option maxRecDepth 100000 in
theorem k_X0_reachNeighbours (l : Launch) (D : va_G) (cI : ClassId) (ad : Nat → Nat) (U : Nat → Int32) (T : Nat → Int32) (F : Nat → Int32) (C : Nat → Int32) (B : Nat → Int32) (RU : Nat → Int32) (RC : Nat → Int32) (WU : Nat → Int32) (ST : Nat → Int32) (RP : Nat → Int32) (RN : Int32) (WT : Nat → Int32) (SM : Nat → Int32) (CC : Int32) (TR : Int32) (place : Int32) (hb_TR : TR = 0 ∨ TR = 1) : Kv l yX0_reachNeighbours wsX0_reachNeighbours 4 90 0 0 D (TI cI) [.ref (ad 0), .int place] (wX cI ad U T F C B RU RC WU ST RP RN WT SM CC TR) (wX cI ad U T F C B RU RC WU (s_X0_reachNeighbours_ST U T F WU ST RP RN TR place) (s_X0_reachNeighbours_RP U T F WU ST RP RN TR place) (s_X0_reachNeighbours_RN U T F WU ST RP RN TR place) WT SM CC TR) := by
  refine Kv.of (cc := cX0_reachNeighbours) (maxL := 5) (lv0 := [(0, .ref (ad 0)), (1, .int place)]) (by decide +kernel) rfl (Nat.le_of_ble_eq_true rfl) rfl ?_
  intro p e s m args below meth c A C0 hr hlk hK hA
  refine v_iload_n C0 (pc' := 1) 1 rfl rfl dX0_reachNeighbours_0 rfl ?_
  refine v_bipush C0 (pc' := 3) 16 (by decide) dX0_reachNeighbours_1 rfl ?_
  refine v_idiv C0 (pc' := 4) (by decide) dX0_reachNeighbours_3 rfl ?_
  refine v_istore_n C0 (lv' := [(2, .int (place / 16)), (0, .ref (ad 0)), (1, .int place)]) (pc' := 5) rfl (by decide) rfl dX0_reachNeighbours_4 rfl ?_
  refine v_iconst C0 (pc' := 6) 0 (by decide) dX0_reachNeighbours_5 rfl ?_
  refine v_istore_n C0 (lv' := [(3, .int 0), (2, .int (place / 16)), (0, .ref (ad 0)), (1, .int place)]) (pc' := 7) rfl (by decide) rfl dX0_reachNeighbours_6 rfl ?_
  suffices LP1 : ∀ (j1 i1 : Nat) (x1 : Int32) (ST_L1 : Nat → Int32) (RP_L1 : Nat → Int32) (RN_L1 : Int32), i1 + j1 = 6 → x1 = nI i1 → (ST_L1, RP_L1, RN_L1) = lp (s_X0_reachNeighbours_L1 U T F WU TR place) i1 (ST, RP, RN) → V p l e { frames := 4, cells := 0, slots := 0, locals := 90 } s m args below meth c D A 5 0 0 (MQ below (QV D (TI cI) (wX cI ad U T F C B RU RC WU (s_X0_reachNeighbours_ST U T F WU ST RP RN TR place) (s_X0_reachNeighbours_RP U T F WU ST RP RN TR place) (s_X0_reachNeighbours_RN U T F WU ST RP RN TR place) WT SM CC TR) A) args s 0 0 A) (wX cI ad U T F C B RU RC WU ST_L1 RP_L1 RN_L1 WT SM CC TR) [(3, .int x1), (2, .int (place / 16)), (0, .ref (ad 0)), (1, .int place)] 7 [] by
    exact v_sub (lv' := [(3, .int 0), (2, .int (place / 16)), (0, .ref (ad 0)), (1, .int place)]) [0, 1, 2, 3] rfl (LP1 6 0 0 ST RP RN (Nat.zero_add _) nI_0.symm (lp_zero _ _).symm)
  intro j1
  induction j1 with
  | zero =>
    intro i1 x1 ST_L1 RP_L1 RN_L1 hi1 hx1 hs_L1
    have hi1 : 6 = i1 := by omega
    subst hi1
    subst hx1
    refine v_iload_n C0 (pc' := 8) 0 rfl rfl dX0_reachNeighbours_7 rfl ?_
    refine v_bipush C0 (pc' := 10) 6 (by decide) dX0_reachNeighbours_8 rfl ?_
    refine v_icmp_ge C0 70 (pc' := 13) dX0_reachNeighbours_10 (by decide) rfl (fun h1 => ?_) (fun h1 => ?_)
    · refine v_world (ws' := wX cI ad U T F C B RU RC WU (s_X0_reachNeighbours_ST U T F WU ST RP RN TR place) (s_X0_reachNeighbours_RP U T F WU ST RP RN TR place) (s_X0_reachNeighbours_RN U T F WU ST RP RN TR place) WT SM CC TR) (by simp only [s_X0_reachNeighbours_ST, s_X0_reachNeighbours_RP, s_X0_reachNeighbours_RN, if_pos h1, ← hs_L1]) ?_
      exact v_vret C0 hr hlk hK dX0_reachNeighbours_70
    · exact absurd (by decide +kernel) h1
  | succ j1 ih1 =>
    intro i1 x1 ST_L1 RP_L1 RN_L1 hi1 hx1 hs_L1
    subst hx1
    refine v_iload_n C0 (pc' := 8) 0 rfl rfl dX0_reachNeighbours_7 rfl ?_
    refine v_bipush C0 (pc' := 10) 6 (by decide) dX0_reachNeighbours_8 rfl ?_
    refine v_icmp_ge C0 70 (pc' := 13) dX0_reachNeighbours_10 (by decide) rfl (fun h2 => ?_) (fun h2 => ?_)
    · exact absurd h2 (nI_ge (a := i1) (b := 6) (by omega) (by decide))
    · refine v_aload_n C0 (pc' := 14) 2 rfl rfl dX0_reachNeighbours_13 rfl ?_
      refine v_iload_n C0 (pc' := 15) 1 rfl rfl dX0_reachNeighbours_14 rfl ?_
      refine v_bipush C0 (pc' := 17) 6 (by decide) dX0_reachNeighbours_15 rfl ?_
      refine v_imul C0 (pc' := 18) dX0_reachNeighbours_17 rfl ?_
      refine v_iload_n C0 (pc' := 19) 0 rfl rfl dX0_reachNeighbours_18 rfl ?_
      refine v_iadd C0 (pc' := 20) dX0_reachNeighbours_19 rfl ?_
      refine v_iload_n C0 (pc' := 21) 3 rfl rfl dX0_reachNeighbours_20 rfl ?_
      refine v_bipush C0 (pc' := 23) 16 (by decide) dX0_reachNeighbours_21 rfl ?_
      refine v_irem C0 (pc' := 24) (by decide) dX0_reachNeighbours_23 rfl ?_
      refine v_callVi0 C0 (av := [.int (((place / 16) * 6) + (nI i1)), .int (place - place / 16 * 16)]) (rest := []) (ws' := wX cI ad U T F C B RU RC WU ST_L1 RP_L1 RN_L1 WT SM CC TR) (pc' := 27) hK hA (k_X0_placeBeyond l D cI ad U T F C B RU RC WU ST_L1 RP_L1 RN_L1 WT SM CC TR (((place / 16) * 6) + (nI i1)) (place - place / 16 * 16) hb_TR) (cwV 2 C0.2.2.2.2 gX0_reachNeighbours_X0_placeBeyond rfl rfl rfl (by decide +kernel) ⟨Nat.le_of_ble_eq_true rfl, Nat.le_of_ble_eq_true rfl⟩) ⟨0, 0, _, _, _, rfl, rfl⟩ PLs.all rfl rfl (Nat.le_of_ble_eq_true rfl) ⟨Nat.zero_le _, Nat.zero_le _⟩ dX0_reachNeighbours_24 rfl ?_
      refine v_istore C0 (lv' := [(4, .int (s_X0_placeBeyond U T F WU TR (((place / 16) * 6) + (nI i1)) (place - place / 16 * 16))), (3, .int (nI i1)), (2, .int (place / 16)), (0, .ref (ad 0)), (1, .int place)]) (pc' := 29) (by decide) rfl dX0_reachNeighbours_27 rfl ?_
      refine v_iload C0 (pc' := 31) 0 rfl dX0_reachNeighbours_29 rfl ?_
      refine v_iconst C0 (pc' := 32) (-1) (by decide) dX0_reachNeighbours_31 rfl ?_
      refine v_icmp_eq C0 64 (pc' := 35) dX0_reachNeighbours_32 (by decide) rfl (fun h3 => ?_) (fun h3 => ?_)
      · refine v_iinc C0 (lv' := [(3, .int ((nI i1) + 1)), (4, .int (s_X0_placeBeyond U T F WU TR (((place / 16) * 6) + (nI i1)) (place - place / 16 * 16))), (2, .int (place / 16)), (0, .ref (ad 0)), (1, .int place)]) (pc' := 67) 1 rfl ((nI i1) + 1) rfl (by decide) rfl dX0_reachNeighbours_64 rfl ?_
        refine v_goto C0 7 dX0_reachNeighbours_67 (by decide) ?_
        exact v_sub (lv' := [(3, .int ((nI i1) + 1)), (2, .int (place / 16)), (0, .ref (ad 0)), (1, .int place)]) [0, 2, 3, 4] rfl (ih1 (i1 + 1) ((nI i1) + 1) ST_L1 RP_L1 RN_L1 (by omega) (by rw [nI_1]) (by rw [lp_succ, ← hs_L1]; simp only [s_X0_reachNeighbours_L1, if_neg h2, if_pos h3]))
      · refine v_aload_n C0 (pc' := 36) 3 rfl rfl dX0_reachNeighbours_35 rfl ?_
        refine v_get C0 hK (C := RX0) (T := TX0) (N := 15) (pc' := 39) 0 8 rfl rfl rfl (by decide) in_X0_reachNeighbours fl_X0_reachNeighbours_34 rfl dX0_reachNeighbours_36 rfl ?_
        refine v_iload C0 (pc' := 41) 0 rfl dX0_reachNeighbours_39 rfl ?_
        refine v_callSi0 C0 (av := [.ref (ad 9), .int (s_X0_placeBeyond U T F WU TR (((place / 16) * 6) + (nI i1)) (place - place / 16 * 16))]) (rest := []) (ws' := wX cI ad U T F C B RU RC WU ST_L1 RP_L1 RN_L1 WT SM CC TR) (pc' := 44) hK hA (k_X0_at l D cI (ad 9) 96 ST_L1 (s_X0_placeBeyond U T F WU TR (((place / 16) * 6) + (nI i1)) (place - place / 16 * 16)) (by decide)) (va_cwS 2 C0.2.2.2.2 gX0_reachNeighbours_X0_at rfl rfl rfl (by decide +kernel) ⟨Nat.le_of_ble_eq_true rfl, Nat.le_of_ble_eq_true rfl⟩) (PLs.one0 9 rfl) rfl rfl (Nat.le_of_ble_eq_true rfl) ⟨Nat.zero_le _, Nat.zero_le _⟩ dX0_reachNeighbours_41 rfl ?_
        refine v_iconst C0 (pc' := 45) (-1) (by decide) dX0_reachNeighbours_44 rfl ?_
        refine v_icmp_ne C0 64 (pc' := 48) dX0_reachNeighbours_45 (by decide) rfl (fun h4 => ?_) (fun h4 => ?_)
        · refine v_iinc C0 (lv' := [(3, .int ((nI i1) + 1)), (4, .int (s_X0_placeBeyond U T F WU TR (((place / 16) * 6) + (nI i1)) (place - place / 16 * 16))), (2, .int (place / 16)), (0, .ref (ad 0)), (1, .int place)]) (pc' := 67) 1 rfl ((nI i1) + 1) rfl (by decide) rfl dX0_reachNeighbours_64 rfl ?_
          refine v_goto C0 7 dX0_reachNeighbours_67 (by decide) ?_
          exact v_sub (lv' := [(3, .int ((nI i1) + 1)), (2, .int (place / 16)), (0, .ref (ad 0)), (1, .int place)]) [0, 2, 3, 4] rfl (ih1 (i1 + 1) ((nI i1) + 1) ST_L1 RP_L1 RN_L1 (by omega) (by rw [nI_1]) (by rw [lp_succ, ← hs_L1]; simp only [s_X0_reachNeighbours_L1, if_neg h2, if_neg h3, if_neg h4]))
        · refine v_aload_n C0 (pc' := 49) 3 rfl rfl dX0_reachNeighbours_48 rfl ?_
          refine v_iload C0 (pc' := 51) 0 rfl dX0_reachNeighbours_49 rfl ?_
          refine v_aload_n C0 (pc' := 52) 3 rfl rfl dX0_reachNeighbours_51 rfl ?_
          refine v_get C0 hK (C := RX0) (T := TX0) (N := 15) (pc' := 55) 0 8 rfl rfl rfl (by decide) in_X0_reachNeighbours fl_X0_reachNeighbours_34 rfl dX0_reachNeighbours_52 rfl ?_
          refine v_iload_n C0 (pc' := 56) 4 rfl rfl dX0_reachNeighbours_55 rfl ?_
          refine v_callSi0 C0 (av := [.ref (ad 9), .int place]) (rest := [.int (s_X0_placeBeyond U T F WU TR (((place / 16) * 6) + (nI i1)) (place - place / 16 * 16)), .ref (ad 0)]) (ws' := wX cI ad U T F C B RU RC WU ST_L1 RP_L1 RN_L1 WT SM CC TR) (pc' := 59) hK hA (k_X0_at l D cI (ad 9) 96 ST_L1 place (by decide)) (va_cwS 2 C0.2.2.2.2 gX0_reachNeighbours_X0_at rfl rfl rfl (by decide +kernel) ⟨Nat.le_of_ble_eq_true rfl, Nat.le_of_ble_eq_true rfl⟩) (PLs.one0 9 rfl) rfl rfl (Nat.le_of_ble_eq_true rfl) ⟨Nat.zero_le _, Nat.zero_le _⟩ dX0_reachNeighbours_56 rfl ?_
          refine v_iconst C0 (pc' := 60) 1 (by decide) dX0_reachNeighbours_59 rfl ?_
          refine v_iadd C0 (pc' := 61) dX0_reachNeighbours_60 rfl ?_
          refine v_callVv0 C0 (av := [.int (s_X0_placeBeyond U T F WU TR (((place / 16) * 6) + (nI i1)) (place - place / 16 * 16)), .int ((xAt 96 ST_L1 place) + 1)]) (rest := []) (ws' := wX cI ad U T F C B RU RC WU (s_X0_reach_ST ST_L1 (s_X0_placeBeyond U T F WU TR (((place / 16) * 6) + (nI i1)) (place - place / 16 * 16)) ((xAt 96 ST_L1 place) + 1)) (s_X0_reach_RP RP_L1 RN_L1 (s_X0_placeBeyond U T F WU TR (((place / 16) * 6) + (nI i1)) (place - place / 16 * 16))) (s_X0_reach_RN RN_L1) WT SM CC TR) (pc' := 64) hK hA (k_X0_reach l D cI ad U T F C B RU RC WU ST_L1 RP_L1 RN_L1 WT SM CC TR (s_X0_placeBeyond U T F WU TR (((place / 16) * 6) + (nI i1)) (place - place / 16 * 16)) ((xAt 96 ST_L1 place) + 1)) (cwV 2 C0.2.2.2.2 gX0_reachNeighbours_X0_reach rfl rfl rfl (by decide +kernel) ⟨Nat.le_of_ble_eq_true rfl, Nat.le_of_ble_eq_true rfl⟩) ⟨0, 0, _, _, _, rfl, rfl⟩ PLs.all rfl rfl (Nat.le_of_ble_eq_true rfl) ⟨Nat.zero_le _, Nat.zero_le _⟩ dX0_reachNeighbours_61 rfl ?_
          refine v_iinc C0 (lv' := [(3, .int ((nI i1) + 1)), (4, .int (s_X0_placeBeyond U T F WU TR (((place / 16) * 6) + (nI i1)) (place - place / 16 * 16))), (2, .int (place / 16)), (0, .ref (ad 0)), (1, .int place)]) (pc' := 67) 1 rfl ((nI i1) + 1) rfl (by decide) rfl dX0_reachNeighbours_64 rfl ?_
          refine v_goto C0 7 dX0_reachNeighbours_67 (by decide) ?_
          exact v_sub (lv' := [(3, .int ((nI i1) + 1)), (2, .int (place / 16)), (0, .ref (ad 0)), (1, .int place)]) [0, 2, 3, 4] rfl (ih1 (i1 + 1) ((nI i1) + 1) (s_X0_reach_ST ST_L1 (s_X0_placeBeyond U T F WU TR (((place / 16) * 6) + (nI i1)) (place - place / 16 * 16)) ((xAt 96 ST_L1 place) + 1)) (s_X0_reach_RP RP_L1 RN_L1 (s_X0_placeBeyond U T F WU TR (((place / 16) * 6) + (nI i1)) (place - place / 16 * 16))) (s_X0_reach_RN RN_L1) (by omega) (by rw [nI_1]) (by rw [lp_succ, ← hs_L1]; simp only [s_X0_reachNeighbours_L1, if_neg h2, if_neg h3, if_pos h4]))
def s_X0_bestWayUp_L1 (F : Nat → Int32) (C : Nat → Int32) (RC : Nat → Int32) (unit : Int32) (i1 : Nat) (z : Int32 × Int32) : Int32 × Int32 := match z with
  | (best_L1, bu_L1) => if (xAt 36 F ((unit * 6) + (nI i1))) = (-1) then (best_L1, bu_L1) else (if ((xAt 36 C ((unit * 6) + (nI i1))) + (xAt 6 RC ((xAt 36 F ((unit * 6) + (nI i1))) / 6))) = (xAt 6 RC unit) then (if bu_L1 ≤ ((xAt 36 F ((unit * 6) + (nI i1))) / 6) then (best_L1, bu_L1) else ((unit * 6) + (nI i1), (xAt 36 F ((unit * 6) + (nI i1))) / 6)) else (best_L1, bu_L1))
def s_X0_bestWayUp (F : Nat → Int32) (C : Nat → Int32) (RC : Nat → Int32) (unit : Int32) : Int32 := ((lp (s_X0_bestWayUp_L1 F C RC unit) 6 ((-1), 6)).1)
set_option maxHeartbeats 4000000 in
set_option maxRecDepth 100000 in
theorem k_X0_bestWayUp (l : Launch) (D : va_G) (cI : ClassId) (ad : Nat → Nat) (U : Nat → Int32) (T : Nat → Int32) (F : Nat → Int32) (C : Nat → Int32) (B : Nat → Int32) (RU : Nat → Int32) (RC : Nat → Int32) (WU : Nat → Int32) (ST : Nat → Int32) (RP : Nat → Int32) (RN : Int32) (WT : Nat → Int32) (SM : Nat → Int32) (CC : Int32) (TR : Int32) (unit : Int32) : Ki l yX0_bestWayUp wsX0_bestWayUp 1 21 0 0 D (TI cI) [.ref (ad 0), .int unit] (wX cI ad U T F C B RU RC WU ST RP RN WT SM CC TR) (wX cI ad U T F C B RU RC WU ST RP RN WT SM CC TR) (s_X0_bestWayUp F C RC unit) := by
  refine Ki.of (cc := cX0_bestWayUp) (maxL := 9) (rt := .int) (lv0 := [(0, .ref (ad 0)), (1, .int unit)]) (by decide +kernel) rfl (Nat.le_of_ble_eq_true rfl) rfl ?_
  intro p e s m args below meth c A C0 hr hlk hK hA
  refine v_iconst C0 (pc' := 1) (-1) (by decide) dX0_bestWayUp_0 rfl ?_
  refine v_istore_n C0 (lv' := [(2, .int (-1)), (0, .ref (ad 0)), (1, .int unit)]) (pc' := 2) rfl (by decide) rfl dX0_bestWayUp_1 rfl ?_
  refine v_bipush C0 (pc' := 4) 6 (by decide) dX0_bestWayUp_2 rfl ?_
  refine v_istore_n C0 (lv' := [(3, .int 6), (2, .int (-1)), (0, .ref (ad 0)), (1, .int unit)]) (pc' := 5) rfl (by decide) rfl dX0_bestWayUp_4 rfl ?_
  refine v_iconst C0 (pc' := 6) 0 (by decide) dX0_bestWayUp_5 rfl ?_
  refine v_istore C0 (lv' := [(4, .int 0), (3, .int 6), (2, .int (-1)), (0, .ref (ad 0)), (1, .int unit)]) (pc' := 8) (by decide) rfl dX0_bestWayUp_6 rfl ?_
  suffices LP1 : ∀ (j1 i1 : Nat) (x1 : Int32) (best_L1 : Int32) (bu_L1 : Int32), i1 + j1 = 6 → x1 = nI i1 → (best_L1, bu_L1) = lp (s_X0_bestWayUp_L1 F C RC unit) i1 ((-1), 6) → V p l e { frames := 1, cells := 0, slots := 0, locals := 21 } s m args below meth c D A 9 0 0 (MQ below (QI D (TI cI) (wX cI ad U T F C B RU RC WU ST RP RN WT SM CC TR) A (s_X0_bestWayUp F C RC unit)) args s 0 0 A) (wX cI ad U T F C B RU RC WU ST RP RN WT SM CC TR) [(4, .int x1), (2, .int best_L1), (3, .int bu_L1), (0, .ref (ad 0)), (1, .int unit)] 8 [] by
    exact v_sub (lv' := [(4, .int 0), (2, .int (-1)), (3, .int 6), (0, .ref (ad 0)), (1, .int unit)]) [0, 2, 1, 3, 4] rfl (LP1 6 0 0 (-1) 6 (Nat.zero_add _) nI_0.symm (lp_zero _ _).symm)
  intro j1
  induction j1 with
  | zero =>
    intro i1 x1 best_L1 bu_L1 hi1 hx1 hs_L1
    have hi1 : 6 = i1 := by omega
    subst hi1
    subst hx1
    refine v_iload C0 (pc' := 10) 0 rfl dX0_bestWayUp_8 rfl ?_
    refine v_bipush C0 (pc' := 12) 6 (by decide) dX0_bestWayUp_10 rfl ?_
    refine v_icmp_ge C0 103 (pc' := 15) dX0_bestWayUp_12 (by decide) rfl (fun h1 => ?_) (fun h1 => ?_)
    · refine v_iload_n C0 (pc' := 104) 1 rfl rfl dX0_bestWayUp_103 rfl ?_
      exact v_iret C0 hr hlk hK (by simp only [s_X0_bestWayUp, if_pos h1, ← hs_L1]) dX0_bestWayUp_104
    · exact absurd (by decide +kernel) h1
  | succ j1 ih1 =>
    intro i1 x1 best_L1 bu_L1 hi1 hx1 hs_L1
    subst hx1
    refine v_iload C0 (pc' := 10) 0 rfl dX0_bestWayUp_8 rfl ?_
    refine v_bipush C0 (pc' := 12) 6 (by decide) dX0_bestWayUp_10 rfl ?_
    refine v_icmp_ge C0 103 (pc' := 15) dX0_bestWayUp_12 (by decide) rfl (fun h2 => ?_) (fun h2 => ?_)
    · exact absurd h2 (nI_ge (a := i1) (b := 6) (by omega) (by decide))
    · refine v_iload_n C0 (pc' := 16) 4 rfl rfl dX0_bestWayUp_15 rfl ?_
      refine v_bipush C0 (pc' := 18) 6 (by decide) dX0_bestWayUp_16 rfl ?_
      refine v_imul C0 (pc' := 19) dX0_bestWayUp_18 rfl ?_
      refine v_iload C0 (pc' := 21) 0 rfl dX0_bestWayUp_19 rfl ?_
      refine v_iadd C0 (pc' := 22) dX0_bestWayUp_21 rfl ?_
      refine v_istore C0 (lv' := [(5, .int ((unit * 6) + (nI i1))), (4, .int (nI i1)), (2, .int best_L1), (3, .int bu_L1), (0, .ref (ad 0)), (1, .int unit)]) (pc' := 24) (by decide) rfl dX0_bestWayUp_22 rfl ?_
      refine v_aload_n C0 (pc' := 25) 4 rfl rfl dX0_bestWayUp_24 rfl ?_
      refine v_get C0 hK (C := RX0) (T := TX0) (N := 15) (pc' := 28) 0 2 rfl rfl rfl (by decide) in_X0_bestWayUp fl_X0_bestWayUp_16 rfl dX0_bestWayUp_25 rfl ?_
      refine v_iload C0 (pc' := 30) 0 rfl dX0_bestWayUp_28 rfl ?_
      refine v_callSi0 C0 (av := [.ref (ad 3), .int ((unit * 6) + (nI i1))]) (rest := []) (ws' := wX cI ad U T F C B RU RC WU ST RP RN WT SM CC TR) (pc' := 33) hK hA (k_X0_at l D cI (ad 3) 36 F ((unit * 6) + (nI i1)) (by decide)) (va_cwS 2 C0.2.2.2.2 gX0_bestWayUp_X0_at rfl rfl rfl (by decide +kernel) ⟨Nat.le_of_ble_eq_true rfl, Nat.le_of_ble_eq_true rfl⟩) (PLs.one0 3 rfl) rfl rfl (Nat.le_of_ble_eq_true rfl) ⟨Nat.zero_le _, Nat.zero_le _⟩ dX0_bestWayUp_30 rfl ?_
      refine v_istore C0 (lv' := [(6, .int (xAt 36 F ((unit * 6) + (nI i1)))), (5, .int ((unit * 6) + (nI i1))), (4, .int (nI i1)), (2, .int best_L1), (3, .int bu_L1), (0, .ref (ad 0)), (1, .int unit)]) (pc' := 35) (by decide) rfl dX0_bestWayUp_33 rfl ?_
      refine v_iload C0 (pc' := 37) 0 rfl dX0_bestWayUp_35 rfl ?_
      refine v_iconst C0 (pc' := 38) (-1) (by decide) dX0_bestWayUp_37 rfl ?_
      refine v_icmp_ne C0 44 (pc' := 41) dX0_bestWayUp_38 (by decide) rfl (fun h3 => ?_) (fun h3 => ?_)
      · refine v_iload C0 (pc' := 46) 0 rfl dX0_bestWayUp_44 rfl ?_
        refine v_bipush C0 (pc' := 48) 6 (by decide) dX0_bestWayUp_46 rfl ?_
        refine v_idiv C0 (pc' := 49) (by decide) dX0_bestWayUp_48 rfl ?_
        refine v_istore C0 (lv' := [(7, .int ((xAt 36 F ((unit * 6) + (nI i1))) / 6)), (6, .int (xAt 36 F ((unit * 6) + (nI i1)))), (5, .int ((unit * 6) + (nI i1))), (4, .int (nI i1)), (2, .int best_L1), (3, .int bu_L1), (0, .ref (ad 0)), (1, .int unit)]) (pc' := 51) (by decide) rfl dX0_bestWayUp_49 rfl ?_
        refine v_aload_n C0 (pc' := 52) 6 rfl rfl dX0_bestWayUp_51 rfl ?_
        refine v_get C0 hK (C := RX0) (T := TX0) (N := 15) (pc' := 55) 0 3 rfl rfl rfl (by decide) in_X0_bestWayUp fl_X0_bestWayUp_19 rfl dX0_bestWayUp_52 rfl ?_
        refine v_iload C0 (pc' := 57) 2 rfl dX0_bestWayUp_55 rfl ?_
        refine v_callSi0 C0 (av := [.ref (ad 4), .int ((unit * 6) + (nI i1))]) (rest := []) (ws' := wX cI ad U T F C B RU RC WU ST RP RN WT SM CC TR) (pc' := 60) hK hA (k_X0_at l D cI (ad 4) 36 C ((unit * 6) + (nI i1)) (by decide)) (va_cwS 2 C0.2.2.2.2 gX0_bestWayUp_X0_at rfl rfl rfl (by decide +kernel) ⟨Nat.le_of_ble_eq_true rfl, Nat.le_of_ble_eq_true rfl⟩) (PLs.one0 4 rfl) rfl rfl (Nat.le_of_ble_eq_true rfl) ⟨Nat.zero_le _, Nat.zero_le _⟩ dX0_bestWayUp_57 rfl ?_
        refine v_aload_n C0 (pc' := 61) 6 rfl rfl dX0_bestWayUp_60 rfl ?_
        refine v_get C0 hK (C := RX0) (T := TX0) (N := 15) (pc' := 64) 0 6 rfl rfl rfl (by decide) in_X0_bestWayUp fl_X0_bestWayUp_28 rfl dX0_bestWayUp_61 rfl ?_
        refine v_iload C0 (pc' := 66) 0 rfl dX0_bestWayUp_64 rfl ?_
        refine v_callSi0 C0 (av := [.ref (ad 7), .int ((xAt 36 F ((unit * 6) + (nI i1))) / 6)]) (rest := [.int (xAt 36 C ((unit * 6) + (nI i1)))]) (ws' := wX cI ad U T F C B RU RC WU ST RP RN WT SM CC TR) (pc' := 69) hK hA (k_X0_at l D cI (ad 7) 6 RC ((xAt 36 F ((unit * 6) + (nI i1))) / 6) (by decide)) (va_cwS 2 C0.2.2.2.2 gX0_bestWayUp_X0_at rfl rfl rfl (by decide +kernel) ⟨Nat.le_of_ble_eq_true rfl, Nat.le_of_ble_eq_true rfl⟩) (PLs.one0 7 rfl) rfl rfl (Nat.le_of_ble_eq_true rfl) ⟨Nat.zero_le _, Nat.zero_le _⟩ dX0_bestWayUp_66 rfl ?_
        refine v_iadd C0 (pc' := 70) dX0_bestWayUp_69 rfl ?_
        refine v_istore C0 (lv' := [(8, .int ((xAt 36 C ((unit * 6) + (nI i1))) + (xAt 6 RC ((xAt 36 F ((unit * 6) + (nI i1))) / 6)))), (7, .int ((xAt 36 F ((unit * 6) + (nI i1))) / 6)), (6, .int (xAt 36 F ((unit * 6) + (nI i1)))), (5, .int ((unit * 6) + (nI i1))), (4, .int (nI i1)), (2, .int best_L1), (3, .int bu_L1), (0, .ref (ad 0)), (1, .int unit)]) (pc' := 72) (by decide) rfl dX0_bestWayUp_70 rfl ?_
        refine v_iload C0 (pc' := 74) 0 rfl dX0_bestWayUp_72 rfl ?_
        refine v_aload_n C0 (pc' := 75) 7 rfl rfl dX0_bestWayUp_74 rfl ?_
        refine v_get C0 hK (C := RX0) (T := TX0) (N := 15) (pc' := 78) 0 6 rfl rfl rfl (by decide) in_X0_bestWayUp fl_X0_bestWayUp_28 rfl dX0_bestWayUp_75 rfl ?_
        refine v_iload_n C0 (pc' := 79) 8 rfl rfl dX0_bestWayUp_78 rfl ?_
        refine v_callSi0 C0 (av := [.ref (ad 7), .int unit]) (rest := [.int ((xAt 36 C ((unit * 6) + (nI i1))) + (xAt 6 RC ((xAt 36 F ((unit * 6) + (nI i1))) / 6)))]) (ws' := wX cI ad U T F C B RU RC WU ST RP RN WT SM CC TR) (pc' := 82) hK hA (k_X0_at l D cI (ad 7) 6 RC unit (by decide)) (va_cwS 2 C0.2.2.2.2 gX0_bestWayUp_X0_at rfl rfl rfl (by decide +kernel) ⟨Nat.le_of_ble_eq_true rfl, Nat.le_of_ble_eq_true rfl⟩) (PLs.one0 7 rfl) rfl rfl (Nat.le_of_ble_eq_true rfl) ⟨Nat.zero_le _, Nat.zero_le _⟩ dX0_bestWayUp_79 rfl ?_
        refine v_icmp_ne C0 97 (pc' := 85) dX0_bestWayUp_82 (by decide) rfl (fun h4 => ?_) (fun h4 => ?_)
        · refine v_iinc C0 (lv' := [(4, .int ((nI i1) + 1)), (8, .int ((xAt 36 C ((unit * 6) + (nI i1))) + (xAt 6 RC ((xAt 36 F ((unit * 6) + (nI i1))) / 6)))), (7, .int ((xAt 36 F ((unit * 6) + (nI i1))) / 6)), (6, .int (xAt 36 F ((unit * 6) + (nI i1)))), (5, .int ((unit * 6) + (nI i1))), (2, .int best_L1), (3, .int bu_L1), (0, .ref (ad 0)), (1, .int unit)]) (pc' := 100) 4 rfl ((nI i1) + 1) rfl (by decide) rfl dX0_bestWayUp_97 rfl ?_
          refine v_goto C0 8 dX0_bestWayUp_100 (by decide) ?_
          exact v_sub (lv' := [(4, .int ((nI i1) + 1)), (2, .int best_L1), (3, .int bu_L1), (0, .ref (ad 0)), (1, .int unit)]) [0, 5, 6, 7, 8] rfl (ih1 (i1 + 1) ((nI i1) + 1) best_L1 bu_L1 (by omega) (by rw [nI_1]) (by rw [lp_succ, ← hs_L1]; simp only [s_X0_bestWayUp_L1, if_neg h2, if_neg h3, if_neg h4]))
        · refine v_iload C0 (pc' := 87) 1 rfl dX0_bestWayUp_85 rfl ?_
          refine v_iload_n C0 (pc' := 88) 6 rfl rfl dX0_bestWayUp_87 rfl ?_
          refine v_icmp_ge C0 97 (pc' := 91) dX0_bestWayUp_88 (by decide) rfl (fun h5 => ?_) (fun h5 => ?_)
          · refine v_iinc C0 (lv' := [(4, .int ((nI i1) + 1)), (8, .int ((xAt 36 C ((unit * 6) + (nI i1))) + (xAt 6 RC ((xAt 36 F ((unit * 6) + (nI i1))) / 6)))), (7, .int ((xAt 36 F ((unit * 6) + (nI i1))) / 6)), (6, .int (xAt 36 F ((unit * 6) + (nI i1)))), (5, .int ((unit * 6) + (nI i1))), (2, .int best_L1), (3, .int bu_L1), (0, .ref (ad 0)), (1, .int unit)]) (pc' := 100) 4 rfl ((nI i1) + 1) rfl (by decide) rfl dX0_bestWayUp_97 rfl ?_
            refine v_goto C0 8 dX0_bestWayUp_100 (by decide) ?_
            exact v_sub (lv' := [(4, .int ((nI i1) + 1)), (2, .int best_L1), (3, .int bu_L1), (0, .ref (ad 0)), (1, .int unit)]) [0, 5, 6, 7, 8] rfl (ih1 (i1 + 1) ((nI i1) + 1) best_L1 bu_L1 (by omega) (by rw [nI_1]) (by rw [lp_succ, ← hs_L1]; simp only [s_X0_bestWayUp_L1, if_neg h2, if_neg h3, if_pos h4, if_pos h5]))
          · refine v_iload C0 (pc' := 93) 3 rfl dX0_bestWayUp_91 rfl ?_
            refine v_istore_n C0 (lv' := [(2, .int ((unit * 6) + (nI i1))), (8, .int ((xAt 36 C ((unit * 6) + (nI i1))) + (xAt 6 RC ((xAt 36 F ((unit * 6) + (nI i1))) / 6)))), (7, .int ((xAt 36 F ((unit * 6) + (nI i1))) / 6)), (6, .int (xAt 36 F ((unit * 6) + (nI i1)))), (5, .int ((unit * 6) + (nI i1))), (4, .int (nI i1)), (3, .int bu_L1), (0, .ref (ad 0)), (1, .int unit)]) (pc' := 94) rfl (by decide) rfl dX0_bestWayUp_93 rfl ?_
            refine v_iload C0 (pc' := 96) 2 rfl dX0_bestWayUp_94 rfl ?_
            refine v_istore_n C0 (lv' := [(3, .int ((xAt 36 F ((unit * 6) + (nI i1))) / 6)), (2, .int ((unit * 6) + (nI i1))), (8, .int ((xAt 36 C ((unit * 6) + (nI i1))) + (xAt 6 RC ((xAt 36 F ((unit * 6) + (nI i1))) / 6)))), (7, .int ((xAt 36 F ((unit * 6) + (nI i1))) / 6)), (6, .int (xAt 36 F ((unit * 6) + (nI i1)))), (5, .int ((unit * 6) + (nI i1))), (4, .int (nI i1)), (0, .ref (ad 0)), (1, .int unit)]) (pc' := 97) rfl (by decide) rfl dX0_bestWayUp_96 rfl ?_
            refine v_iinc C0 (lv' := [(4, .int ((nI i1) + 1)), (3, .int ((xAt 36 F ((unit * 6) + (nI i1))) / 6)), (2, .int ((unit * 6) + (nI i1))), (8, .int ((xAt 36 C ((unit * 6) + (nI i1))) + (xAt 6 RC ((xAt 36 F ((unit * 6) + (nI i1))) / 6)))), (7, .int ((xAt 36 F ((unit * 6) + (nI i1))) / 6)), (6, .int (xAt 36 F ((unit * 6) + (nI i1)))), (5, .int ((unit * 6) + (nI i1))), (0, .ref (ad 0)), (1, .int unit)]) (pc' := 100) 6 rfl ((nI i1) + 1) rfl (by decide) rfl dX0_bestWayUp_97 rfl ?_
            refine v_goto C0 8 dX0_bestWayUp_100 (by decide) ?_
            exact v_sub (lv' := [(4, .int ((nI i1) + 1)), (2, .int ((unit * 6) + (nI i1))), (3, .int ((xAt 36 F ((unit * 6) + (nI i1))) / 6)), (0, .ref (ad 0)), (1, .int unit)]) [0, 2, 1, 7, 8] rfl (ih1 (i1 + 1) ((nI i1) + 1) ((unit * 6) + (nI i1)) ((xAt 36 F ((unit * 6) + (nI i1))) / 6) (by omega) (by rw [nI_1]) (by rw [lp_succ, ← hs_L1]; simp only [s_X0_bestWayUp_L1, if_neg h2, if_neg h3, if_pos h4, if_neg h5]))
      · refine v_goto C0 97 dX0_bestWayUp_41 (by decide) ?_
        refine v_iinc C0 (lv' := [(4, .int ((nI i1) + 1)), (6, .int (xAt 36 F ((unit * 6) + (nI i1)))), (5, .int ((unit * 6) + (nI i1))), (2, .int best_L1), (3, .int bu_L1), (0, .ref (ad 0)), (1, .int unit)]) (pc' := 100) 2 rfl ((nI i1) + 1) rfl (by decide) rfl dX0_bestWayUp_97 rfl ?_
        refine v_goto C0 8 dX0_bestWayUp_100 (by decide) ?_
        exact v_sub (lv' := [(4, .int ((nI i1) + 1)), (2, .int best_L1), (3, .int bu_L1), (0, .ref (ad 0)), (1, .int unit)]) [0, 3, 4, 5, 6] rfl (ih1 (i1 + 1) ((nI i1) + 1) best_L1 bu_L1 (by omega) (by rw [nI_1]) (by rw [lp_succ, ← hs_L1]; simp only [s_X0_bestWayUp_L1, if_neg h2, if_pos h3]))
