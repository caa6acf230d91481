def s_uS (U T : Nat → Int32) (unit lane : Int32) : Nat → Nat → Int32
  | 0, _ => 0
  | n + 1, i => if (s_X0_isTagged T ((unit * 6) + (nI i)) lane) = 0 then (if (xAt 36 U ((unit * 6) + (nI i))) = lane then 1 else s_uS U T unit lane n (i + 1)) else 1
def s_X0_isUsed (U T : Nat → Int32) (unit lane : Int32) : Int32 := s_uS U T unit lane 6 0
theorem s_uS_b (U T : Nat → Int32) (unit lane : Int32) : ∀ (n i : Nat), s_uS U T unit lane n i = 0 ∨ s_uS U T unit lane n i = 1
  | 0, _ => Or.inl rfl
  | n + 1, i => by
    unfold s_uS
    split
    · split
      · exact Or.inr rfl
      · exact s_uS_b U T unit lane n (i + 1)
    · exact Or.inr rfl
theorem b_X0_isUsed (U T : Nat → Int32) (unit lane : Int32) : s_X0_isUsed U T unit lane = 0 ∨ s_X0_isUsed U T unit lane = 1 := s_uS_b U T unit lane 6 0
set_option maxHeartbeats 4000000 in
set_option maxRecDepth 100000 in
theorem k_X0_isUsed (l : Launch) (D : va_G) (cI : ClassId) (ad : Nat → Nat) (U : Nat → Int32) (T : Nat → Int32) (F : Nat → Int32) (C : Nat → Int32) (B : Nat → Int32) (RU : Nat → Int32) (RC : Nat → Int32) (WU : Nat → Int32) (ST : Nat → Int32) (RP : Nat → Int32) (RN : Int32) (WT : Nat → Int32) (SM : Nat → Int32) (CC : Int32) (TR : Int32) (unit : Int32) (lane : Int32) : Ki l yX0_isUsed wsX0_isUsed 2 43 0 0 D (TI cI) [.ref (ad 0), .int unit, .int lane] (wX cI ad U T F C B RU RC WU ST RP RN WT SM CC TR) (wX cI ad U T F C B RU RC WU ST RP RN WT SM CC TR) (s_X0_isUsed U T unit lane) := by
  refine Ki.of (cc := cX0_isUsed) (maxL := 5) (rt := .boolean) (lv0 := [(0, .ref (ad 0)), (1, .int unit), (2, .int lane)]) (by decide +kernel) rfl (Nat.le_of_ble_eq_true rfl) rfl ?_
  intro p e s m args below meth c A C0 hr hlk hK hA
  refine v_iconst C0 (pc' := 1) 0 (by decide) dX0_isUsed_0 rfl ?_
  refine v_istore_n C0 (lv' := [(3, .int 0), (0, .ref (ad 0)), (1, .int unit), (2, .int lane)]) (pc' := 2) rfl (by decide) rfl dX0_isUsed_1 rfl ?_
  suffices LP : ∀ (j i : Nat) (x : Int32), i + j = 6 → x = nI i → s_uS U T unit lane j i = s_uS U T unit lane 6 0 → V p l e { frames := 2, cells := 0, slots := 0, locals := 43 } s m args below meth c D A 5 0 0 (MQ below (QI D (TI cI) (wX cI ad U T F C B RU RC WU ST RP RN WT SM CC TR) A (s_X0_isUsed U T unit lane)) args s 0 0 A) (wX cI ad U T F C B RU RC WU ST RP RN WT SM CC TR) [(3, .int x), (0, .ref (ad 0)), (1, .int unit), (2, .int lane)] 2 [] by
    exact v_sub (lv' := [(3, .int 0), (0, .ref (ad 0)), (1, .int unit), (2, .int lane)]) [0, 1, 2, 3] rfl (LP 6 0 0 rfl nI_0.symm rfl)
  intro j
  induction j with
  | zero =>
    intro i x hi hx hs
    have hi : i = 6 := by omega
    subst hi
    subst hx
    refine v_iload_n C0 (pc' := 3) 0 rfl rfl dX0_isUsed_2 rfl ?_
    refine v_bipush C0 (pc' := 5) 6 (by decide) dX0_isUsed_3 rfl ?_
    refine v_icmp_ge C0 47 (pc' := 8) dX0_isUsed_5 (by decide) rfl (fun h2 => ?_) (fun h2 => ?_)
    · refine v_iconst C0 (pc' := 48) 0 (by decide) dX0_isUsed_47 rfl ?_
      exact v_zret C0 hr hlk hK (Or.inl rfl : (0 : Int32) = 0 ∨ (0 : Int32) = 1) (by rw [s_X0_isUsed, ← hs]; simp only [s_uS, if_pos h2]) dX0_isUsed_48
    · exact absurd (by decide +kernel) h2
  | succ j ih =>
    intro i x hi hx hs
    subst hx
    refine v_iload_n C0 (pc' := 3) 0 rfl rfl dX0_isUsed_2 rfl ?_
    refine v_bipush C0 (pc' := 5) 6 (by decide) dX0_isUsed_3 rfl ?_
    refine v_icmp_ge C0 47 (pc' := 8) dX0_isUsed_5 (by decide) rfl (fun h2 => ?_) (fun h2 => ?_)
    · exact absurd h2 (nI_ge (a := i) (b := 6) (by omega) (by decide))
    · refine v_iload_n C0 (pc' := 9) 2 rfl rfl dX0_isUsed_8 rfl ?_
      refine v_bipush C0 (pc' := 11) 6 (by decide) dX0_isUsed_9 rfl ?_
      refine v_imul C0 (pc' := 12) dX0_isUsed_11 rfl ?_
      refine v_iload_n C0 (pc' := 13) 0 rfl rfl dX0_isUsed_12 rfl ?_
      refine v_iadd C0 (pc' := 14) dX0_isUsed_13 rfl ?_
      refine v_istore C0 (lv' := [(4, .int ((unit * 6) + (nI i))), (3, .int (nI i)), (0, .ref (ad 0)), (1, .int unit), (2, .int lane)]) (pc' := 16) (by decide) rfl dX0_isUsed_14 rfl ?_
      refine v_aload_n C0 (pc' := 17) 2 rfl rfl dX0_isUsed_16 rfl ?_
      refine v_iload C0 (pc' := 19) 0 rfl dX0_isUsed_17 rfl ?_
      refine v_iload_n C0 (pc' := 20) 4 rfl rfl dX0_isUsed_19 rfl ?_
      refine v_callVi0 C0 (av := [.int ((unit * 6) + (nI i)), .int lane]) (rest := []) (ws' := wX cI ad U T F C B RU RC WU ST RP RN WT SM CC TR) (pc' := 23) hK hA (k_X0_isTagged l D cI ad U T F C B RU RC WU ST RP RN WT SM CC TR ((unit * 6) + (nI i)) lane) (cwV 2 C0.2.2.2.2 gX0_isUsed_X0_isTagged rfl rfl rfl (by decide +kernel) ⟨Nat.le_of_ble_eq_true rfl, Nat.le_of_ble_eq_true rfl⟩) ⟨0, 0, _, _, _, rfl, rfl⟩ PLs.all rfl rfl (Nat.le_of_ble_eq_true rfl) ⟨Nat.zero_le _, Nat.zero_le _⟩ dX0_isUsed_20 rfl ?_
      refine v_if_ne C0 39 (pc' := 26) dX0_isUsed_23 (by decide) rfl (fun h3 => ?_) (fun h3 => ?_)
      · refine v_iconst C0 (pc' := 40) 1 (by decide) dX0_isUsed_39 rfl ?_
        exact v_zret C0 hr hlk hK (Or.inr rfl : (1 : Int32) = 0 ∨ (1 : Int32) = 1) (by rw [s_X0_isUsed, ← hs]; simp only [s_uS, if_neg h2, if_neg h3]) dX0_isUsed_40
      · refine v_aload_n C0 (pc' := 27) 2 rfl rfl dX0_isUsed_26 rfl ?_
        refine v_get C0 hK (C := RX0) (T := TX0) (N := 15) (pc' := 30) 0 0 rfl rfl rfl (by decide) in_X0_isUsed fl_X0_isUsed_9 rfl dX0_isUsed_27 rfl ?_
        refine v_iload C0 (pc' := 32) 0 rfl dX0_isUsed_30 rfl ?_
        refine v_callSi0 C0 (av := [.ref (ad 1), .int ((unit * 6) + (nI i))]) (rest := []) (ws' := wX cI ad U T F C B RU RC WU ST RP RN WT SM CC TR) (pc' := 35) hK hA (k_X0_at l D cI (ad 1) 36 U ((unit * 6) + (nI i)) (by decide)) (va_cwS 2 C0.2.2.2.2 gX0_isUsed_X0_at rfl rfl rfl (by decide +kernel) ⟨Nat.le_of_ble_eq_true rfl, Nat.le_of_ble_eq_true rfl⟩) (PLs.one0 1 rfl) rfl rfl (Nat.le_of_ble_eq_true rfl) ⟨Nat.zero_le _, Nat.zero_le _⟩ dX0_isUsed_32 rfl ?_
        refine v_iload_n C0 (pc' := 36) 4 rfl rfl dX0_isUsed_35 rfl ?_
        refine v_icmp_ne C0 41 (pc' := 39) dX0_isUsed_36 (by decide) rfl (fun h4 => ?_) (fun h4 => ?_)
        · refine v_iinc C0 (lv' := [(3, .int ((nI i) + 1)), (4, .int ((unit * 6) + (nI i))), (0, .ref (ad 0)), (1, .int unit), (2, .int lane)]) (pc' := 44) 1 rfl ((nI i) + 1) rfl (by decide) rfl dX0_isUsed_41 rfl ?_
          refine v_goto C0 2 dX0_isUsed_44 (by decide) ?_
          exact v_sub (lv' := [(3, .int ((nI i) + 1)), (0, .ref (ad 0)), (1, .int unit), (2, .int lane)]) [0, 2, 3, 4] rfl (ih (i + 1) ((nI i) + 1) (by omega) (by rw [nI_1]) (by rw [← hs]; simp only [s_uS, if_neg h2, if_pos h3, if_neg h4]))
        · refine v_iconst C0 (pc' := 40) 1 (by decide) dX0_isUsed_39 rfl ?_
          exact v_zret C0 hr hlk hK (Or.inr rfl : (1 : Int32) = 0 ∨ (1 : Int32) = 1) (by rw [s_X0_isUsed, ← hs]; simp only [s_uS, if_neg h2, if_pos h3, if_pos h4]) dX0_isUsed_40
def s_X0_countUsedPlaces_L2 (U : Nat → Int32) (T : Nat → Int32) (i1 : Nat) (i2 : Nat) (n_L2 : Int32) : Int32 := if (s_X0_isUsed U T (nI i1) (nI (i2 + 1))) = 0 then n_L2 else (n_L2 + 1)
def s_X0_countUsedPlaces_L1 (U : Nat → Int32) (T : Nat → Int32) (i1 : Nat) (n_L1 : Int32) : Int32 := (lp (s_X0_countUsedPlaces_L2 U T i1) 15 n_L1)
def s_X0_countUsedPlaces (U : Nat → Int32) (T : Nat → Int32) : Int32 := (lp (s_X0_countUsedPlaces_L1 U T) 6 0)
set_option maxHeartbeats 4000000 in
set_option maxRecDepth 100000 in
theorem k_X0_countUsedPlaces (l : Launch) (D : va_G) (cI : ClassId) (ad : Nat → Nat) (U : Nat → Int32) (T : Nat → Int32) (F : Nat → Int32) (C : Nat → Int32) (B : Nat → Int32) (RU : Nat → Int32) (RC : Nat → Int32) (WU : Nat → Int32) (ST : Nat → Int32) (RP : Nat → Int32) (RN : Int32) (WT : Nat → Int32) (SM : Nat → Int32) (CC : Int32) (TR : Int32)  : Ki l yX0_countUsedPlaces wsX0_countUsedPlaces 3 67 0 0 D (TI cI) [.ref (ad 0)] (wX cI ad U T F C B RU RC WU ST RP RN WT SM CC TR) (wX cI ad U T F C B RU RC WU ST RP RN WT SM CC TR) (s_X0_countUsedPlaces U T) := by
  refine Ki.of (cc := cX0_countUsedPlaces) (maxL := 4) (rt := .int) (lv0 := [(0, .ref (ad 0))]) (by decide +kernel) rfl (Nat.le_of_ble_eq_true rfl) rfl ?_
  intro p e s m args below meth c A C0 hr hlk hK hA
  refine v_iconst C0 (pc' := 1) 0 (by decide) dX0_countUsedPlaces_0 rfl ?_
  refine v_istore_n C0 (lv' := [(1, .int 0), (0, .ref (ad 0))]) (pc' := 2) rfl (by decide) rfl dX0_countUsedPlaces_1 rfl ?_
  refine v_iconst C0 (pc' := 3) 0 (by decide) dX0_countUsedPlaces_2 rfl ?_
  refine v_istore_n C0 (lv' := [(2, .int 0), (1, .int 0), (0, .ref (ad 0))]) (pc' := 4) rfl (by decide) rfl dX0_countUsedPlaces_3 rfl ?_
  suffices LP1 : ∀ (j1 i1 : Nat) (x1 : Int32) (n_L1 : Int32), i1 + j1 = 6 → x1 = nI i1 → n_L1 = lp (s_X0_countUsedPlaces_L1 U T) i1 0 → V p l e { frames := 3, cells := 0, slots := 0, locals := 67 } s m args below meth c D A 4 0 0 (MQ below (QI D (TI cI) (wX cI ad U T F C B RU RC WU ST RP RN WT SM CC TR) A (s_X0_countUsedPlaces U T)) args s 0 0 A) (wX cI ad U T F C B RU RC WU ST RP RN WT SM CC TR) [(2, .int x1), (1, .int n_L1), (0, .ref (ad 0))] 4 [] by
    exact v_sub (lv' := [(2, .int 0), (1, .int 0), (0, .ref (ad 0))]) [0, 1, 2] rfl (LP1 6 0 0 0 (Nat.zero_add _) nI_0.symm (lp_zero _ _).symm)
  intro j1
  induction j1 with
  | zero =>
    intro i1 x1 n_L1 hi1 hx1 hs_L1
    have hi1 : 6 = i1 := by omega
    subst hi1
    subst hx1
    refine v_iload_n C0 (pc' := 5) 0 rfl rfl dX0_countUsedPlaces_4 rfl ?_
    refine v_bipush C0 (pc' := 7) 6 (by decide) dX0_countUsedPlaces_5 rfl ?_
    refine v_icmp_ge C0 42 (pc' := 10) dX0_countUsedPlaces_7 (by decide) rfl (fun h1 => ?_) (fun h1 => ?_)
    · refine v_iload_n C0 (pc' := 43) 1 rfl rfl dX0_countUsedPlaces_42 rfl ?_
      exact v_iret C0 hr hlk hK (by simp only [s_X0_countUsedPlaces, if_pos h1, ← hs_L1]) dX0_countUsedPlaces_43
    · exact absurd (by decide +kernel) h1
  | succ j1 ih1 =>
    intro i1 x1 n_L1 hi1 hx1 hs_L1
    subst hx1
    refine v_iload_n C0 (pc' := 5) 0 rfl rfl dX0_countUsedPlaces_4 rfl ?_
    refine v_bipush C0 (pc' := 7) 6 (by decide) dX0_countUsedPlaces_5 rfl ?_
    refine v_icmp_ge C0 42 (pc' := 10) dX0_countUsedPlaces_7 (by decide) rfl (fun h2 => ?_) (fun h2 => ?_)
    · exact absurd h2 (nI_ge (a := i1) (b := 6) (by omega) (by decide))
    · refine v_iconst C0 (pc' := 11) 1 (by decide) dX0_countUsedPlaces_10 rfl ?_
      refine v_istore_n C0 (lv' := [(3, .int 1), (2, .int (nI i1)), (1, .int n_L1), (0, .ref (ad 0))]) (pc' := 12) rfl (by decide) rfl dX0_countUsedPlaces_11 rfl ?_
      suffices LP2 : ∀ (j2 i2 : Nat) (x2 : Int32) (n_L2 : Int32), i2 + j2 = 15 → x2 = nI (i2 + 1) → n_L2 = lp (s_X0_countUsedPlaces_L2 U T i1) i2 n_L1 → V p l e { frames := 3, cells := 0, slots := 0, locals := 67 } s m args below meth c D A 4 0 0 (MQ below (QI D (TI cI) (wX cI ad U T F C B RU RC WU ST RP RN WT SM CC TR) A (s_X0_countUsedPlaces U T)) args s 0 0 A) (wX cI ad U T F C B RU RC WU ST RP RN WT SM CC TR) [(3, .int x2), (1, .int n_L2), (2, .int (nI i1)), (0, .ref (ad 0))] 12 [] by
        exact v_sub (lv' := [(3, .int 1), (1, .int n_L1), (2, .int (nI i1)), (0, .ref (ad 0))]) [0, 2, 1, 3] rfl (LP2 15 0 1 n_L1 (Nat.zero_add _) (by decide +kernel) (lp_zero _ _).symm)
      intro j2
      induction j2 with
      | zero =>
        intro i2 x2 n_L2 hi2 hx2 hs_L2
        have hi2 : 15 = i2 := by omega
        subst hi2
        subst hx2
        refine v_iload_n C0 (pc' := 13) 0 rfl rfl dX0_countUsedPlaces_12 rfl ?_
        refine v_bipush C0 (pc' := 15) 15 (by decide) dX0_countUsedPlaces_13 rfl ?_
        refine v_icmp_gt C0 36 (pc' := 18) dX0_countUsedPlaces_15 (by decide) rfl (fun h3 => ?_) (fun h3 => ?_)
        · refine v_iinc C0 (lv' := [(2, .int ((nI i1) + 1)), (3, .int (nI (15 + 1))), (1, .int n_L2), (0, .ref (ad 0))]) (pc' := 39) 2 rfl ((nI i1) + 1) rfl (by decide) rfl dX0_countUsedPlaces_36 rfl ?_
          refine v_goto C0 4 dX0_countUsedPlaces_39 (by decide) ?_
          exact v_sub (lv' := [(2, .int ((nI i1) + 1)), (1, .int n_L2), (0, .ref (ad 0))]) [0, 2, 3] rfl (ih1 (i1 + 1) ((nI i1) + 1) n_L2 (by omega) (by rw [nI_1]) (by rw [lp_succ, ← hs_L1]; simp only [s_X0_countUsedPlaces_L1, if_neg h2, if_pos h3, ← hs_L2]))
        · exact absurd (by decide +kernel) h3
      | succ j2 ih2 =>
        intro i2 x2 n_L2 hi2 hx2 hs_L2
        subst hx2
        refine v_iload_n C0 (pc' := 13) 0 rfl rfl dX0_countUsedPlaces_12 rfl ?_
        refine v_bipush C0 (pc' := 15) 15 (by decide) dX0_countUsedPlaces_13 rfl ?_
        refine v_icmp_gt C0 36 (pc' := 18) dX0_countUsedPlaces_15 (by decide) rfl (fun h4 => ?_) (fun h4 => ?_)
        · exact absurd h4 (nI_nlt (a := 15) (b := i2 + 1) (by omega) (by decide))
        · refine v_aload_n C0 (pc' := 19) 3 rfl rfl dX0_countUsedPlaces_18 rfl ?_
          refine v_iload_n C0 (pc' := 20) 2 rfl rfl dX0_countUsedPlaces_19 rfl ?_
          refine v_iload_n C0 (pc' := 21) 0 rfl rfl dX0_countUsedPlaces_20 rfl ?_
          refine v_callVi0 C0 (av := [.int (nI i1), .int (nI (i2 + 1))]) (rest := []) (ws' := wX cI ad U T F C B RU RC WU ST RP RN WT SM CC TR) (pc' := 24) hK hA (k_X0_isUsed l D cI ad U T F C B RU RC WU ST RP RN WT SM CC TR (nI i1) (nI (i2 + 1))) (cwV 2 C0.2.2.2.2 gX0_countUsedPlaces_X0_isUsed rfl rfl rfl (by decide +kernel) ⟨Nat.le_of_ble_eq_true rfl, Nat.le_of_ble_eq_true rfl⟩) ⟨0, 0, _, _, _, rfl, rfl⟩ PLs.all rfl rfl (Nat.le_of_ble_eq_true rfl) ⟨Nat.zero_le _, Nat.zero_le _⟩ dX0_countUsedPlaces_21 rfl ?_
          refine v_if_eq C0 30 (pc' := 27) dX0_countUsedPlaces_24 (by decide) rfl (fun h5 => ?_) (fun h5 => ?_)
          · refine v_iinc C0 (lv' := [(3, .int ((nI (i2 + 1)) + 1)), (1, .int n_L2), (2, .int (nI i1)), (0, .ref (ad 0))]) (pc' := 33) 0 rfl ((nI (i2 + 1)) + 1) rfl (by decide) rfl dX0_countUsedPlaces_30 rfl ?_
            refine v_goto C0 12 dX0_countUsedPlaces_33 (by decide) ?_
            exact v_sub (lv' := [(3, .int ((nI (i2 + 1)) + 1)), (1, .int n_L2), (2, .int (nI i1)), (0, .ref (ad 0))]) [0, 1, 2, 3] rfl (ih2 (i2 + 1) ((nI (i2 + 1)) + 1) n_L2 (by omega) (by rw [nI_1]) (by rw [lp_succ, ← hs_L2]; simp only [s_X0_countUsedPlaces_L2, if_neg h2, if_neg h4, if_pos h5]))
          · refine v_iinc C0 (lv' := [(1, .int (n_L2 + 1)), (3, .int (nI (i2 + 1))), (2, .int (nI i1)), (0, .ref (ad 0))]) (pc' := 30) 1 rfl (n_L2 + 1) rfl (by decide) rfl dX0_countUsedPlaces_27 rfl ?_
            refine v_iinc C0 (lv' := [(3, .int ((nI (i2 + 1)) + 1)), (1, .int (n_L2 + 1)), (2, .int (nI i1)), (0, .ref (ad 0))]) (pc' := 33) 1 rfl ((nI (i2 + 1)) + 1) rfl (by decide) rfl dX0_countUsedPlaces_30 rfl ?_
            refine v_goto C0 12 dX0_countUsedPlaces_33 (by decide) ?_
            exact v_sub (lv' := [(3, .int ((nI (i2 + 1)) + 1)), (1, .int (n_L2 + 1)), (2, .int (nI i1)), (0, .ref (ad 0))]) [0, 1, 2, 3] rfl (ih2 (i2 + 1) ((nI (i2 + 1)) + 1) (n_L2 + 1) (by omega) (by rw [nI_1]) (by rw [lp_succ, ← hs_L2]; simp only [s_X0_countUsedPlaces_L2, if_neg h2, if_neg h4, if_neg h5]))
def s_X0_islands_L2 (U : Nat → Int32) (T : Nat → Int32) (F : Nat → Int32) (WU : Nat → Int32) (TR : Int32) (i1 : Nat) (i2 : Nat) (z : Int32 × (Nat → Int32) × (Nat → Int32) × Int32) : Int32 × (Nat → Int32) × (Nat → Int32) × Int32 := match z with
  | (n_L2, ST_L2, RP_L2, RN_L2) => if (s_X0_isUsed U T (nI i1) (nI (i2 + 1))) = 0 then (n_L2, ST_L2, RP_L2, RN_L2) else (if (xAt 96 ST_L2 (((nI i1) * 16) + (nI (i2 + 1)))) = (-1) then (n_L2 + 1, s_X0_walkFrom_ST U T F WU ST_L2 RP_L2 RN_L2 TR (((nI i1) * 16) + (nI (i2 + 1))), s_X0_walkFrom_RP U T F WU ST_L2 RP_L2 RN_L2 TR (((nI i1) * 16) + (nI (i2 + 1))), s_X0_walkFrom_RN U T F WU ST_L2 RP_L2 RN_L2 TR (((nI i1) * 16) + (nI (i2 + 1)))) else (n_L2, ST_L2, RP_L2, RN_L2))
def s_X0_islands_L1 (U : Nat → Int32) (T : Nat → Int32) (F : Nat → Int32) (WU : Nat → Int32) (TR : Int32) (i1 : Nat) (z : Int32 × (Nat → Int32) × (Nat → Int32) × Int32) : Int32 × (Nat → Int32) × (Nat → Int32) × Int32 := match z with
  | (n_L1, ST_L1, RP_L1, RN_L1) => (((lp (s_X0_islands_L2 U T F WU TR i1) 15 (n_L1, ST_L1, RP_L1, RN_L1)).1), ((lp (s_X0_islands_L2 U T F WU TR i1) 15 (n_L1, ST_L1, RP_L1, RN_L1)).2.1), ((lp (s_X0_islands_L2 U T F WU TR i1) 15 (n_L1, ST_L1, RP_L1, RN_L1)).2.2.1), ((lp (s_X0_islands_L2 U T F WU TR i1) 15 (n_L1, ST_L1, RP_L1, RN_L1)).2.2.2))
def s_X0_islands (U : Nat → Int32) (T : Nat → Int32) (F : Nat → Int32) (WU : Nat → Int32) (ST : Nat → Int32) (RP : Nat → Int32) (TR : Int32) : Int32 := ((lp (s_X0_islands_L1 U T F WU TR) 6 (0, s_X0_forgetWalks_ST ST, RP, s_X0_forgetWalks_RN )).1)
def s_X0_islands_ST (U : Nat → Int32) (T : Nat → Int32) (F : Nat → Int32) (WU : Nat → Int32) (ST : Nat → Int32) (RP : Nat → Int32) (TR : Int32) : Nat → Int32 := ((lp (s_X0_islands_L1 U T F WU TR) 6 (0, s_X0_forgetWalks_ST ST, RP, s_X0_forgetWalks_RN )).2.1)
def s_X0_islands_RP (U : Nat → Int32) (T : Nat → Int32) (F : Nat → Int32) (WU : Nat → Int32) (ST : Nat → Int32) (RP : Nat → Int32) (TR : Int32) : Nat → Int32 := ((lp (s_X0_islands_L1 U T F WU TR) 6 (0, s_X0_forgetWalks_ST ST, RP, s_X0_forgetWalks_RN )).2.2.1)
def s_X0_islands_RN (U : Nat → Int32) (T : Nat → Int32) (F : Nat → Int32) (WU : Nat → Int32) (ST : Nat → Int32) (RP : Nat → Int32) (TR : Int32) : Int32 := ((lp (s_X0_islands_L1 U T F WU TR) 6 (0, s_X0_forgetWalks_ST ST, RP, s_X0_forgetWalks_RN )).2.2.2)
set_option maxHeartbeats 4000000 in
set_option maxRecDepth 100000 in
theorem k_X0_islands (l : Launch) (D : va_G) (cI : ClassId) (ad : Nat → Nat) (U : Nat → Int32) (T : Nat → Int32) (F : Nat → Int32) (C : Nat → Int32) (B : Nat → Int32) (RU : Nat → Int32) (RC : Nat → Int32) (WU : Nat → Int32) (ST : Nat → Int32) (RP : Nat → Int32) (RN : Int32) (WT : Nat → Int32) (SM : Nat → Int32) (CC : Int32) (TR : Int32)  (hb_TR : TR = 0 ∨ TR = 1) : Ki l yX0_islands wsX0_islands 6 137 0 0 D (TI cI) [.ref (ad 0)] (wX cI ad U T F C B RU RC WU ST RP RN WT SM CC TR) (wX cI ad U T F C B RU RC WU (s_X0_islands_ST U T F WU ST RP TR) (s_X0_islands_RP U T F WU ST RP TR) (s_X0_islands_RN U T F WU ST RP TR) WT SM CC TR) (s_X0_islands U T F WU ST RP TR) := by
  refine Ki.of (cc := cX0_islands) (maxL := 5) (rt := .int) (lv0 := [(0, .ref (ad 0))]) (by decide +kernel) rfl (Nat.le_of_ble_eq_true rfl) rfl ?_
  intro p e s m args below meth c A C0 hr hlk hK hA
  refine v_iconst C0 (pc' := 1) 0 (by decide) dX0_islands_0 rfl ?_
  refine v_istore_n C0 (lv' := [(1, .int 0), (0, .ref (ad 0))]) (pc' := 2) rfl (by decide) rfl dX0_islands_1 rfl ?_
  refine v_aload_n C0 (pc' := 3) 1 rfl rfl dX0_islands_2 rfl ?_
  refine v_callVv0 C0 (av := []) (rest := []) (ws' := wX cI ad U T F C B RU RC WU (s_X0_forgetWalks_ST ST) RP (s_X0_forgetWalks_RN ) WT SM CC TR) (pc' := 6) hK hA (k_X0_forgetWalks l D cI ad U T F C B RU RC WU ST RP RN WT SM CC TR ) (cwV 0 C0.2.2.2.2 gX0_islands_X0_forgetWalks rfl rfl rfl (by decide +kernel) ⟨Nat.le_of_ble_eq_true rfl, Nat.le_of_ble_eq_true rfl⟩) ⟨0, 0, _, _, _, rfl, rfl⟩ PLs.all rfl rfl (Nat.le_of_ble_eq_true rfl) ⟨Nat.zero_le _, Nat.zero_le _⟩ dX0_islands_3 rfl ?_
  refine v_iconst C0 (pc' := 7) 0 (by decide) dX0_islands_6 rfl ?_
  refine v_istore_n C0 (lv' := [(2, .int 0), (1, .int 0), (0, .ref (ad 0))]) (pc' := 8) rfl (by decide) rfl dX0_islands_7 rfl ?_
  suffices LP1 : ∀ (j1 i1 : Nat) (x1 : Int32) (n_L1 : Int32) (ST_L1 : Nat → Int32) (RP_L1 : Nat → Int32) (RN_L1 : Int32), i1 + j1 = 6 → x1 = nI i1 → (n_L1, ST_L1, RP_L1, RN_L1) = lp (s_X0_islands_L1 U T F WU TR) i1 (0, s_X0_forgetWalks_ST ST, RP, s_X0_forgetWalks_RN ) → V p l e { frames := 6, cells := 0, slots := 0, locals := 137 } s m args below meth c D A 5 0 0 (MQ below (QI D (TI cI) (wX cI ad U T F C B RU RC WU (s_X0_islands_ST U T F WU ST RP TR) (s_X0_islands_RP U T F WU ST RP TR) (s_X0_islands_RN U T F WU ST RP TR) WT SM CC TR) A (s_X0_islands U T F WU ST RP TR)) args s 0 0 A) (wX cI ad U T F C B RU RC WU ST_L1 RP_L1 RN_L1 WT SM CC TR) [(2, .int x1), (1, .int n_L1), (0, .ref (ad 0))] 8 [] by
    exact v_sub (lv' := [(2, .int 0), (1, .int 0), (0, .ref (ad 0))]) [0, 1, 2] rfl (LP1 6 0 0 0 (s_X0_forgetWalks_ST ST) RP (s_X0_forgetWalks_RN ) (Nat.zero_add _) nI_0.symm (lp_zero _ _).symm)
  intro j1
  induction j1 with
  | zero =>
    intro i1 x1 n_L1 ST_L1 RP_L1 RN_L1 hi1 hx1 hs_L1
    have hi1 : 6 = i1 := by omega
    subst hi1
    subst hx1
    refine v_iload_n C0 (pc' := 9) 0 rfl rfl dX0_islands_8 rfl ?_
    refine v_bipush C0 (pc' := 11) 6 (by decide) dX0_islands_9 rfl ?_
    refine v_icmp_ge C0 73 (pc' := 14) dX0_islands_11 (by decide) rfl (fun h1 => ?_) (fun h1 => ?_)
    · refine v_iload_n C0 (pc' := 74) 1 rfl rfl dX0_islands_73 rfl ?_
      refine v_world (ws' := wX cI ad U T F C B RU RC WU (s_X0_islands_ST U T F WU ST RP TR) (s_X0_islands_RP U T F WU ST RP TR) (s_X0_islands_RN U T F WU ST RP TR) WT SM CC TR) (by simp only [s_X0_islands, s_X0_islands_ST, s_X0_islands_RP, s_X0_islands_RN, if_pos h1, ← hs_L1]) ?_
      exact v_iret C0 hr hlk hK (by simp only [s_X0_islands, s_X0_islands_ST, s_X0_islands_RP, s_X0_islands_RN, if_pos h1, ← hs_L1]) dX0_islands_74
    · exact absurd (by decide +kernel) h1
  | succ j1 ih1 =>
    intro i1 x1 n_L1 ST_L1 RP_L1 RN_L1 hi1 hx1 hs_L1
    subst hx1
    refine v_iload_n C0 (pc' := 9) 0 rfl rfl dX0_islands_8 rfl ?_
    refine v_bipush C0 (pc' := 11) 6 (by decide) dX0_islands_9 rfl ?_
    refine v_icmp_ge C0 73 (pc' := 14) dX0_islands_11 (by decide) rfl (fun h2 => ?_) (fun h2 => ?_)
    · exact absurd h2 (nI_ge (a := i1) (b := 6) (by omega) (by decide))
    · refine v_iconst C0 (pc' := 15) 1 (by decide) dX0_islands_14 rfl ?_
      refine v_istore_n C0 (lv' := [(3, .int 1), (2, .int (nI i1)), (1, .int n_L1), (0, .ref (ad 0))]) (pc' := 16) rfl (by decide) rfl dX0_islands_15 rfl ?_
      suffices LP2 : ∀ (j2 i2 : Nat) (x2 : Int32) (n_L2 : Int32) (ST_L2 : Nat → Int32) (RP_L2 : Nat → Int32) (RN_L2 : Int32), i2 + j2 = 15 → x2 = nI (i2 + 1) → (n_L2, ST_L2, RP_L2, RN_L2) = lp (s_X0_islands_L2 U T F WU TR i1) i2 (n_L1, ST_L1, RP_L1, RN_L1) → V p l e { frames := 6, cells := 0, slots := 0, locals := 137 } s m args below meth c D A 5 0 0 (MQ below (QI D (TI cI) (wX cI ad U T F C B RU RC WU (s_X0_islands_ST U T F WU ST RP TR) (s_X0_islands_RP U T F WU ST RP TR) (s_X0_islands_RN U T F WU ST RP TR) WT SM CC TR) A (s_X0_islands U T F WU ST RP TR)) args s 0 0 A) (wX cI ad U T F C B RU RC WU ST_L2 RP_L2 RN_L2 WT SM CC TR) [(3, .int x2), (1, .int n_L2), (2, .int (nI i1)), (0, .ref (ad 0))] 16 [] by
        exact v_sub (lv' := [(3, .int 1), (1, .int n_L1), (2, .int (nI i1)), (0, .ref (ad 0))]) [0, 2, 1, 3] rfl (LP2 15 0 1 n_L1 ST_L1 RP_L1 RN_L1 (Nat.zero_add _) (by decide +kernel) (lp_zero _ _).symm)
      intro j2
      induction j2 with
      | zero =>
        intro i2 x2 n_L2 ST_L2 RP_L2 RN_L2 hi2 hx2 hs_L2
        have hi2 : 15 = i2 := by omega
        subst hi2
        subst hx2
        refine v_iload_n C0 (pc' := 17) 0 rfl rfl dX0_islands_16 rfl ?_
        refine v_bipush C0 (pc' := 19) 15 (by decide) dX0_islands_17 rfl ?_
        refine v_icmp_gt C0 67 (pc' := 22) dX0_islands_19 (by decide) rfl (fun h3 => ?_) (fun h3 => ?_)
        · refine v_iinc C0 (lv' := [(2, .int ((nI i1) + 1)), (3, .int (nI (15 + 1))), (1, .int n_L2), (0, .ref (ad 0))]) (pc' := 70) 2 rfl ((nI i1) + 1) rfl (by decide) rfl dX0_islands_67 rfl ?_
          refine v_goto C0 8 dX0_islands_70 (by decide) ?_
          exact v_sub (lv' := [(2, .int ((nI i1) + 1)), (1, .int n_L2), (0, .ref (ad 0))]) [0, 2, 3] rfl (ih1 (i1 + 1) ((nI i1) + 1) n_L2 ST_L2 RP_L2 RN_L2 (by omega) (by rw [nI_1]) (by rw [lp_succ, ← hs_L1]; simp only [s_X0_islands_L1, if_neg h2, if_pos h3, ← hs_L2]))
        · exact absurd (by decide +kernel) h3
      | succ j2 ih2 =>
        intro i2 x2 n_L2 ST_L2 RP_L2 RN_L2 hi2 hx2 hs_L2
        subst hx2
        refine v_iload_n C0 (pc' := 17) 0 rfl rfl dX0_islands_16 rfl ?_
        refine v_bipush C0 (pc' := 19) 15 (by decide) dX0_islands_17 rfl ?_
        refine v_icmp_gt C0 67 (pc' := 22) dX0_islands_19 (by decide) rfl (fun h4 => ?_) (fun h4 => ?_)
        · exact absurd h4 (nI_nlt (a := 15) (b := i2 + 1) (by omega) (by decide))
        · refine v_iload_n C0 (pc' := 23) 2 rfl rfl dX0_islands_22 rfl ?_
          refine v_bipush C0 (pc' := 25) 16 (by decide) dX0_islands_23 rfl ?_
          refine v_imul C0 (pc' := 26) dX0_islands_25 rfl ?_
          refine v_iload_n C0 (pc' := 27) 0 rfl rfl dX0_islands_26 rfl ?_
          refine v_iadd C0 (pc' := 28) dX0_islands_27 rfl ?_
          refine v_istore C0 (lv' := [(4, .int (((nI i1) * 16) + (nI (i2 + 1)))), (3, .int (nI (i2 + 1))), (1, .int n_L2), (2, .int (nI i1)), (0, .ref (ad 0))]) (pc' := 30) (by decide) rfl dX0_islands_28 rfl ?_
          refine v_aload_n C0 (pc' := 31) 4 rfl rfl dX0_islands_30 rfl ?_
          refine v_iload_n C0 (pc' := 32) 3 rfl rfl dX0_islands_31 rfl ?_
          refine v_iload_n C0 (pc' := 33) 1 rfl rfl dX0_islands_32 rfl ?_
          refine v_callVi0 C0 (av := [.int (nI i1), .int (nI (i2 + 1))]) (rest := []) (ws' := wX cI ad U T F C B RU RC WU ST_L2 RP_L2 RN_L2 WT SM CC TR) (pc' := 36) hK hA (k_X0_isUsed l D cI ad U T F C B RU RC WU ST_L2 RP_L2 RN_L2 WT SM CC TR (nI i1) (nI (i2 + 1))) (cwV 2 C0.2.2.2.2 gX0_islands_X0_isUsed rfl rfl rfl (by decide +kernel) ⟨Nat.le_of_ble_eq_true rfl, Nat.le_of_ble_eq_true rfl⟩) ⟨0, 0, _, _, _, rfl, rfl⟩ PLs.all rfl rfl (Nat.le_of_ble_eq_true rfl) ⟨Nat.zero_le _, Nat.zero_le _⟩ dX0_islands_33 rfl ?_
          refine v_if_eq C0 61 (pc' := 39) dX0_islands_36 (by decide) rfl (fun h5 => ?_) (fun h5 => ?_)
          · refine v_iinc C0 (lv' := [(3, .int ((nI (i2 + 1)) + 1)), (4, .int (((nI i1) * 16) + (nI (i2 + 1)))), (1, .int n_L2), (2, .int (nI i1)), (0, .ref (ad 0))]) (pc' := 64) 1 rfl ((nI (i2 + 1)) + 1) rfl (by decide) rfl dX0_islands_61 rfl ?_
            refine v_goto C0 16 dX0_islands_64 (by decide) ?_
            exact v_sub (lv' := [(3, .int ((nI (i2 + 1)) + 1)), (1, .int n_L2), (2, .int (nI i1)), (0, .ref (ad 0))]) [0, 2, 3, 4] rfl (ih2 (i2 + 1) ((nI (i2 + 1)) + 1) n_L2 ST_L2 RP_L2 RN_L2 (by omega) (by rw [nI_1]) (by rw [lp_succ, ← hs_L2]; simp only [s_X0_islands_L2, if_neg h2, if_neg h4, if_pos h5]))
          · refine v_aload_n C0 (pc' := 40) 4 rfl rfl dX0_islands_39 rfl ?_
            refine v_get C0 hK (C := RX0) (T := TX0) (N := 15) (pc' := 43) 0 8 rfl rfl rfl (by decide) in_X0_islands fl_X0_islands_34 rfl dX0_islands_40 rfl ?_
            refine v_iload C0 (pc' := 45) 0 rfl dX0_islands_43 rfl ?_
            refine v_callSi0 C0 (av := [.ref (ad 9), .int (((nI i1) * 16) + (nI (i2 + 1)))]) (rest := []) (ws' := wX cI ad U T F C B RU RC WU ST_L2 RP_L2 RN_L2 WT SM CC TR) (pc' := 48) hK hA (k_X0_at l D cI (ad 9) 96 ST_L2 (((nI i1) * 16) + (nI (i2 + 1))) (by decide)) (va_cwS 2 C0.2.2.2.2 gX0_islands_X0_at rfl rfl rfl (by decide +kernel) ⟨Nat.le_of_ble_eq_true rfl, Nat.le_of_ble_eq_true rfl⟩) (PLs.one0 9 rfl) rfl rfl (Nat.le_of_ble_eq_true rfl) ⟨Nat.zero_le _, Nat.zero_le _⟩ dX0_islands_45 rfl ?_
            refine v_iconst C0 (pc' := 49) (-1) (by decide) dX0_islands_48 rfl ?_
            refine v_icmp_ne C0 61 (pc' := 52) dX0_islands_49 (by decide) rfl (fun h6 => ?_) (fun h6 => ?_)
            · refine v_iinc C0 (lv' := [(3, .int ((nI (i2 + 1)) + 1)), (4, .int (((nI i1) * 16) + (nI (i2 + 1)))), (1, .int n_L2), (2, .int (nI i1)), (0, .ref (ad 0))]) (pc' := 64) 1 rfl ((nI (i2 + 1)) + 1) rfl (by decide) rfl dX0_islands_61 rfl ?_
              refine v_goto C0 16 dX0_islands_64 (by decide) ?_
              exact v_sub (lv' := [(3, .int ((nI (i2 + 1)) + 1)), (1, .int n_L2), (2, .int (nI i1)), (0, .ref (ad 0))]) [0, 2, 3, 4] rfl (ih2 (i2 + 1) ((nI (i2 + 1)) + 1) n_L2 ST_L2 RP_L2 RN_L2 (by omega) (by rw [nI_1]) (by rw [lp_succ, ← hs_L2]; simp only [s_X0_islands_L2, if_neg h2, if_neg h4, if_neg h5, if_neg h6]))
            · refine v_aload_n C0 (pc' := 53) 4 rfl rfl dX0_islands_52 rfl ?_
              refine v_iload C0 (pc' := 55) 0 rfl dX0_islands_53 rfl ?_
              refine v_callVv0 C0 (av := [.int (((nI i1) * 16) + (nI (i2 + 1)))]) (rest := []) (ws' := wX cI ad U T F C B RU RC WU (s_X0_walkFrom_ST U T F WU ST_L2 RP_L2 RN_L2 TR (((nI i1) * 16) + (nI (i2 + 1)))) (s_X0_walkFrom_RP U T F WU ST_L2 RP_L2 RN_L2 TR (((nI i1) * 16) + (nI (i2 + 1)))) (s_X0_walkFrom_RN U T F WU ST_L2 RP_L2 RN_L2 TR (((nI i1) * 16) + (nI (i2 + 1)))) WT SM CC TR) (pc' := 58) hK hA (k_X0_walkFrom l D cI ad U T F C B RU RC WU ST_L2 RP_L2 RN_L2 WT SM CC TR (((nI i1) * 16) + (nI (i2 + 1))) hb_TR) (cwV 1 C0.2.2.2.2 gX0_islands_X0_walkFrom rfl rfl rfl (by decide +kernel) ⟨Nat.le_of_ble_eq_true rfl, Nat.le_of_ble_eq_true rfl⟩) ⟨0, 0, _, _, _, rfl, rfl⟩ PLs.all rfl rfl (Nat.le_of_ble_eq_true rfl) ⟨Nat.zero_le _, Nat.zero_le _⟩ dX0_islands_55 rfl ?_
              refine v_iinc C0 (lv' := [(1, .int (n_L2 + 1)), (4, .int (((nI i1) * 16) + (nI (i2 + 1)))), (3, .int (nI (i2 + 1))), (2, .int (nI i1)), (0, .ref (ad 0))]) (pc' := 61) 2 rfl (n_L2 + 1) rfl (by decide) rfl dX0_islands_58 rfl ?_
              refine v_iinc C0 (lv' := [(3, .int ((nI (i2 + 1)) + 1)), (1, .int (n_L2 + 1)), (4, .int (((nI i1) * 16) + (nI (i2 + 1)))), (2, .int (nI i1)), (0, .ref (ad 0))]) (pc' := 64) 2 rfl ((nI (i2 + 1)) + 1) rfl (by decide) rfl dX0_islands_61 rfl ?_
              refine v_goto C0 16 dX0_islands_64 (by decide) ?_
              exact v_sub (lv' := [(3, .int ((nI (i2 + 1)) + 1)), (1, .int (n_L2 + 1)), (2, .int (nI i1)), (0, .ref (ad 0))]) [0, 1, 3, 4] rfl (ih2 (i2 + 1) ((nI (i2 + 1)) + 1) (n_L2 + 1) (s_X0_walkFrom_ST U T F WU ST_L2 RP_L2 RN_L2 TR (((nI i1) * 16) + (nI (i2 + 1)))) (s_X0_walkFrom_RP U T F WU ST_L2 RP_L2 RN_L2 TR (((nI i1) * 16) + (nI (i2 + 1)))) (s_X0_walkFrom_RN U T F WU ST_L2 RP_L2 RN_L2 TR (((nI i1) * 16) + (nI (i2 + 1)))) (by omega) (by rw [nI_1]) (by rw [lp_succ, ← hs_L2]; simp only [s_X0_islands_L2, if_neg h2, if_neg h4, if_neg h5, if_pos h6]))
def s_X0_loops (U : Nat → Int32) (T : Nat → Int32) (F : Nat → Int32) (WU : Nat → Int32) (ST : Nat → Int32) (RP : Nat → Int32) (TR : Int32) : Int32 := ((s_X0_countWays U T F WU TR) - (s_X0_countUsedPlaces U T)) + (s_X0_islands U T F WU ST RP TR)
def s_X0_loops_ST (U : Nat → Int32) (T : Nat → Int32) (F : Nat → Int32) (WU : Nat → Int32) (ST : Nat → Int32) (RP : Nat → Int32) (TR : Int32) : Nat → Int32 := (s_X0_islands_ST U T F WU ST RP TR)
def s_X0_loops_RP (U : Nat → Int32) (T : Nat → Int32) (F : Nat → Int32) (WU : Nat → Int32) (ST : Nat → Int32) (RP : Nat → Int32) (TR : Int32) : Nat → Int32 := (s_X0_islands_RP U T F WU ST RP TR)
def s_X0_loops_RN (U : Nat → Int32) (T : Nat → Int32) (F : Nat → Int32) (WU : Nat → Int32) (ST : Nat → Int32) (RP : Nat → Int32) (TR : Int32) : Int32 := (s_X0_islands_RN U T F WU ST RP TR)
set_option maxHeartbeats 4000000 in
set_option maxRecDepth 100000 in
theorem k_X0_loops (l : Launch) (D : va_G) (cI : ClassId) (ad : Nat → Nat) (U : Nat → Int32) (T : Nat → Int32) (F : Nat → Int32) (C : Nat → Int32) (B : Nat → Int32) (RU : Nat → Int32) (RC : Nat → Int32) (WU : Nat → Int32) (ST : Nat → Int32) (RP : Nat → Int32) (RN : Int32) (WT : Nat → Int32) (SM : Nat → Int32) (CC : Int32) (TR : Int32)  (hb_TR : TR = 0 ∨ TR = 1) : Ki l yX0_loops wsX0_loops 7 161 0 0 D (TI cI) [.ref (ad 0)] (wX cI ad U T F C B RU RC WU ST RP RN WT SM CC TR) (wX cI ad U T F C B RU RC WU (s_X0_loops_ST U T F WU ST RP TR) (s_X0_loops_RP U T F WU ST RP TR) (s_X0_loops_RN U T F WU ST RP TR) WT SM CC TR) (s_X0_loops U T F WU ST RP TR) := by
  refine Ki.of (cc := cX0_loops) (maxL := 1) (rt := .int) (lv0 := [(0, .ref (ad 0))]) (by decide +kernel) rfl (Nat.le_of_ble_eq_true rfl) rfl ?_
  intro p e s m args below meth c A C0 hr hlk hK hA
  refine v_aload_n C0 (pc' := 1) 0 rfl rfl dX0_loops_0 rfl ?_
  refine v_callVi0 C0 (av := []) (rest := []) (ws' := wX cI ad U T F C B RU RC WU ST RP RN WT SM CC TR) (pc' := 4) hK hA (k_X0_countWays l D cI ad U T F C B RU RC WU ST RP RN WT SM CC TR  hb_TR) (cwV 0 C0.2.2.2.2 gX0_loops_X0_countWays rfl rfl rfl (by decide +kernel) ⟨Nat.le_of_ble_eq_true rfl, Nat.le_of_ble_eq_true rfl⟩) ⟨0, 0, _, _, _, rfl, rfl⟩ PLs.all rfl rfl (Nat.le_of_ble_eq_true rfl) ⟨Nat.zero_le _, Nat.zero_le _⟩ dX0_loops_1 rfl ?_
  refine v_aload_n C0 (pc' := 5) 0 rfl rfl dX0_loops_4 rfl ?_
  refine v_callVi0 C0 (av := []) (rest := [.int (s_X0_countWays U T F WU TR)]) (ws' := wX cI ad U T F C B RU RC WU ST RP RN WT SM CC TR) (pc' := 8) hK hA (k_X0_countUsedPlaces l D cI ad U T F C B RU RC WU ST RP RN WT SM CC TR ) (cwV 0 C0.2.2.2.2 gX0_loops_X0_countUsedPlaces rfl rfl rfl (by decide +kernel) ⟨Nat.le_of_ble_eq_true rfl, Nat.le_of_ble_eq_true rfl⟩) ⟨0, 0, _, _, _, rfl, rfl⟩ PLs.all rfl rfl (Nat.le_of_ble_eq_true rfl) ⟨Nat.zero_le _, Nat.zero_le _⟩ dX0_loops_5 rfl ?_
  refine v_isub C0 (pc' := 9) dX0_loops_8 rfl ?_
  refine v_aload_n C0 (pc' := 10) 0 rfl rfl dX0_loops_9 rfl ?_
  refine v_callVi0 C0 (av := []) (rest := [.int ((s_X0_countWays U T F WU TR) - (s_X0_countUsedPlaces U T))]) (ws' := wX cI ad U T F C B RU RC WU (s_X0_islands_ST U T F WU ST RP TR) (s_X0_islands_RP U T F WU ST RP TR) (s_X0_islands_RN U T F WU ST RP TR) WT SM CC TR) (pc' := 13) hK hA (k_X0_islands l D cI ad U T F C B RU RC WU ST RP RN WT SM CC TR  hb_TR) (cwV 0 C0.2.2.2.2 gX0_loops_X0_islands rfl rfl rfl (by decide +kernel) ⟨Nat.le_of_ble_eq_true rfl, Nat.le_of_ble_eq_true rfl⟩) ⟨0, 0, _, _, _, rfl, rfl⟩ PLs.all rfl rfl (Nat.le_of_ble_eq_true rfl) ⟨Nat.zero_le _, Nat.zero_le _⟩ dX0_loops_10 rfl ?_
  refine v_iadd C0 (pc' := 14) dX0_loops_13 rfl ?_
  refine v_world (ws' := wX cI ad U T F C B RU RC WU (s_X0_loops_ST U T F WU ST RP TR) (s_X0_loops_RP U T F WU ST RP TR) (s_X0_loops_RN U T F WU ST RP TR) WT SM CC TR) rfl ?_
  exact v_iret C0 hr hlk hK rfl dX0_loops_14
