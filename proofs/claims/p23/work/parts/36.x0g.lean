def s_X0_untag (U : Nat → Int32) (unit : Int32) (port : Int32) : Int32 := xAt 36 U (s_X0_slotOf unit port)
def s_X0_untag_U (U : Nat → Int32) (unit : Int32) (port : Int32) (lane : Int32) : Nat → Int32 := (xPut 36 U (s_X0_slotOf unit port) lane)
set_option maxHeartbeats 4000000 in
set_option maxRecDepth 100000 in
theorem k_X0_untag (l : Launch) (D : va_G) (cI : ClassId) (ad : Nat → Nat) (U : Nat → Int32) (T : Nat → Int32) (F : Nat → Int32) (C : Nat → Int32) (B : Nat → Int32) (RU : Nat → Int32) (RC : Nat → Int32) (WU : Nat → Int32) (ST : Nat → Int32) (RP : Nat → Int32) (RN : Int32) (WT : Nat → Int32) (SM : Nat → Int32) (CC : Int32) (TR : Int32) (unit : Int32) (port : Int32) (lane : Int32) (hu : okU unit) (hp : okU port) (hl : lane = 0 ∨ okL lane) (ht : s_X0_isTagged T (s_X0_slotOf unit port) lane = 0) : Ki l yX0_untag wsX0_untag 2 43 0 0 D (TI cI) [.ref (ad 0), .int unit, .int port, .int lane] (wX cI ad U T F C B RU RC WU ST RP RN WT SM CC TR) (wX cI ad (s_X0_untag_U U unit port lane) T F C B RU RC WU ST RP RN WT SM CC TR) (s_X0_untag U unit port) := by
  refine Ki.of (cc := cX0_untag) (maxL := 6) (rt := .int) (lv0 := [(0, .ref (ad 0)), (1, .int unit), (2, .int port), (3, .int lane)]) (by decide +kernel) rfl (Nat.le_of_ble_eq_true rfl) rfl ?_
  intro p e s m args below meth c A C0 hr hlk hK hA
  refine v_iload_n C0 (pc' := 1) 1 rfl rfl dX0_untag_0 rfl ?_
  refine v_iload_n C0 (pc' := 2) 2 rfl rfl dX0_untag_1 rfl ?_
  refine v_callSi0 C0 (av := [.int unit, .int port]) (rest := []) (ws' := wX cI ad U T F C B RU RC WU ST RP RN WT SM CC TR) (pc' := 5) hK hA (k_X0_slotOf l D cI unit port hu hp) (va_cwS 2 C0.2.2.2.2 gX0_untag_X0_slotOf rfl rfl rfl (by decide +kernel) ⟨Nat.le_of_ble_eq_true rfl, Nat.le_of_ble_eq_true rfl⟩) PLs.nil rfl rfl (Nat.le_of_ble_eq_true rfl) ⟨Nat.zero_le _, Nat.zero_le _⟩ dX0_untag_2 rfl ?_
  refine v_istore C0 (lv' := [(4, .int (s_X0_slotOf unit port)), (0, .ref (ad 0)), (1, .int unit), (2, .int port), (3, .int lane)]) (pc' := 7) (by decide) rfl dX0_untag_5 rfl ?_
  refine v_iload_n C0 (pc' := 8) 4 rfl rfl dX0_untag_7 rfl ?_
  refine v_if_eq C0 15 (pc' := 11) dX0_untag_8 (by decide) rfl (fun h1 => ?_) (fun h1 => ?_)
  · refine v_aload_n C0 (pc' := 16) 1 rfl rfl dX0_untag_15 rfl ?_
    refine v_iload C0 (pc' := 18) 0 rfl dX0_untag_16 rfl ?_
    refine v_iload_n C0 (pc' := 19) 4 rfl rfl dX0_untag_18 rfl ?_
    refine v_callVi0 C0 (av := [.int (s_X0_slotOf unit port), .int lane]) (rest := []) (ws' := wX cI ad U T F C B RU RC WU ST RP RN WT SM CC TR) (pc' := 22) hK hA (k_X0_isTagged l D cI ad U T F C B RU RC WU ST RP RN WT SM CC TR (s_X0_slotOf unit port) lane) (cwV 2 C0.2.2.2.2 gX0_untag_X0_isTagged rfl rfl rfl (by decide +kernel) ⟨Nat.le_of_ble_eq_true rfl, Nat.le_of_ble_eq_true rfl⟩) ⟨0, 0, _, _, _, rfl, rfl⟩ PLs.all rfl rfl (Nat.le_of_ble_eq_true rfl) ⟨Nat.zero_le _, Nat.zero_le _⟩ dX0_untag_19 rfl ?_
    refine v_if_eq C0 35 (pc' := 25) dX0_untag_22 (by decide) rfl (fun h2 => ?_) (fun h2 => ?_)
    · refine v_aload_n C0 (pc' := 36) 1 rfl rfl dX0_untag_35 rfl ?_
      refine v_get C0 hK (C := RX0) (T := TX0) (N := 15) (pc' := 39) 0 0 rfl rfl rfl (by decide) in_X0_untag fl_X0_untag_9 rfl dX0_untag_36 rfl ?_
      refine v_iload C0 (pc' := 41) 0 rfl dX0_untag_39 rfl ?_
      refine v_callSi0 C0 (av := [.ref (ad 1), .int (s_X0_slotOf unit port)]) (rest := []) (ws' := wX cI ad U T F C B RU RC WU ST RP RN WT SM CC TR) (pc' := 44) hK hA (k_X0_at l D cI (ad 1) 36 U (s_X0_slotOf unit port) (by decide)) (va_cwS 2 C0.2.2.2.2 gX0_untag_X0_at rfl rfl rfl (by decide +kernel) ⟨Nat.le_of_ble_eq_true rfl, Nat.le_of_ble_eq_true rfl⟩) (PLs.one0 1 rfl) rfl rfl (Nat.le_of_ble_eq_true rfl) ⟨Nat.zero_le _, Nat.zero_le _⟩ dX0_untag_41 rfl ?_
      refine v_istore C0 (lv' := [(5, .int (xAt 36 U (s_X0_slotOf unit port))), (4, .int (s_X0_slotOf unit port)), (0, .ref (ad 0)), (1, .int unit), (2, .int port), (3, .int lane)]) (pc' := 46) (by decide) rfl dX0_untag_44 rfl ?_
      refine v_aload_n C0 (pc' := 47) 2 rfl rfl dX0_untag_46 rfl ?_
      refine v_get C0 hK (C := RX0) (T := TX0) (N := 15) (pc' := 50) 0 0 rfl rfl rfl (by decide) in_X0_untag fl_X0_untag_9 rfl dX0_untag_47 rfl ?_
      refine v_iload C0 (pc' := 52) 1 rfl dX0_untag_50 rfl ?_
      refine v_iload_n C0 (pc' := 53) 5 rfl rfl dX0_untag_52 rfl ?_
      refine v_callSv0 C0 (av := [.ref (ad 1), .int (s_X0_slotOf unit port), .int lane]) (rest := []) (ws' := wX cI ad (xPut 36 U (s_X0_slotOf unit port) lane) T F C B RU RC WU ST RP RN WT SM CC TR) (pc' := 56) hK hA (k_X0_put l D cI (ad 1) 36 U (s_X0_slotOf unit port) lane (by decide)) (va_cwS 3 C0.2.2.2.2 gX0_untag_X0_put rfl rfl rfl (by decide +kernel) ⟨Nat.le_of_ble_eq_true rfl, Nat.le_of_ble_eq_true rfl⟩) (PLs.one 1 rfl) rfl rfl (Nat.le_of_ble_eq_true rfl) ⟨Nat.zero_le _, Nat.zero_le _⟩ dX0_untag_53 rfl ?_
      refine v_iload C0 (pc' := 58) 0 rfl dX0_untag_56 rfl ?_
      refine v_world (ws' := wX cI ad (s_X0_untag_U U unit port lane) T F C B RU RC WU ST RP RN WT SM CC TR) (by simp only [s_X0_untag, s_X0_untag_U, if_pos h1, if_pos h2]) ?_
      exact v_iret C0 hr hlk hK (by simp only [s_X0_untag, s_X0_untag_U, if_pos h1, if_pos h2]) dX0_untag_58
    · exact absurd ht h2
  · refine v_iload_n C0 (pc' := 12) 4 rfl rfl dX0_untag_11 rfl ?_
    refine v_callSv0 C0 (av := [.int lane]) (rest := []) (ws' := wX cI ad U T F C B RU RC WU ST RP RN WT SM CC TR) (pc' := 15) hK hA (k_X0_checkLane l D cI lane (hl.resolve_left h1)) (va_cwS 1 C0.2.2.2.2 gX0_untag_X0_checkLane rfl rfl rfl (by decide +kernel) ⟨Nat.le_of_ble_eq_true rfl, Nat.le_of_ble_eq_true rfl⟩) PLs.nil rfl rfl (Nat.le_of_ble_eq_true rfl) ⟨Nat.zero_le _, Nat.zero_le _⟩ dX0_untag_12 rfl ?_
    refine v_aload_n C0 (pc' := 16) 1 rfl rfl dX0_untag_15 rfl ?_
    refine v_iload C0 (pc' := 18) 0 rfl dX0_untag_16 rfl ?_
    refine v_iload_n C0 (pc' := 19) 4 rfl rfl dX0_untag_18 rfl ?_
    refine v_callVi0 C0 (av := [.int (s_X0_slotOf unit port), .int lane]) (rest := []) (ws' := wX cI ad U T F C B RU RC WU ST RP RN WT SM CC TR) (pc' := 22) hK hA (k_X0_isTagged l D cI ad U T F C B RU RC WU ST RP RN WT SM CC TR (s_X0_slotOf unit port) lane) (cwV 2 C0.2.2.2.2 gX0_untag_X0_isTagged rfl rfl rfl (by decide +kernel) ⟨Nat.le_of_ble_eq_true rfl, Nat.le_of_ble_eq_true rfl⟩) ⟨0, 0, _, _, _, rfl, rfl⟩ PLs.all rfl rfl (Nat.le_of_ble_eq_true rfl) ⟨Nat.zero_le _, Nat.zero_le _⟩ dX0_untag_19 rfl ?_
    refine v_if_eq C0 35 (pc' := 25) dX0_untag_22 (by decide) rfl (fun h3 => ?_) (fun h3 => ?_)
    · refine v_aload_n C0 (pc' := 36) 1 rfl rfl dX0_untag_35 rfl ?_
      refine v_get C0 hK (C := RX0) (T := TX0) (N := 15) (pc' := 39) 0 0 rfl rfl rfl (by decide) in_X0_untag fl_X0_untag_9 rfl dX0_untag_36 rfl ?_
      refine v_iload C0 (pc' := 41) 0 rfl dX0_untag_39 rfl ?_
      refine v_callSi0 C0 (av := [.ref (ad 1), .int (s_X0_slotOf unit port)]) (rest := []) (ws' := wX cI ad U T F C B RU RC WU ST RP RN WT SM CC TR) (pc' := 44) hK hA (k_X0_at l D cI (ad 1) 36 U (s_X0_slotOf unit port) (by decide)) (va_cwS 2 C0.2.2.2.2 gX0_untag_X0_at rfl rfl rfl (by decide +kernel) ⟨Nat.le_of_ble_eq_true rfl, Nat.le_of_ble_eq_true rfl⟩) (PLs.one0 1 rfl) rfl rfl (Nat.le_of_ble_eq_true rfl) ⟨Nat.zero_le _, Nat.zero_le _⟩ dX0_untag_41 rfl ?_
      refine v_istore C0 (lv' := [(5, .int (xAt 36 U (s_X0_slotOf unit port))), (4, .int (s_X0_slotOf unit port)), (0, .ref (ad 0)), (1, .int unit), (2, .int port), (3, .int lane)]) (pc' := 46) (by decide) rfl dX0_untag_44 rfl ?_
      refine v_aload_n C0 (pc' := 47) 2 rfl rfl dX0_untag_46 rfl ?_
      refine v_get C0 hK (C := RX0) (T := TX0) (N := 15) (pc' := 50) 0 0 rfl rfl rfl (by decide) in_X0_untag fl_X0_untag_9 rfl dX0_untag_47 rfl ?_
      refine v_iload C0 (pc' := 52) 1 rfl dX0_untag_50 rfl ?_
      refine v_iload_n C0 (pc' := 53) 5 rfl rfl dX0_untag_52 rfl ?_
      refine v_callSv0 C0 (av := [.ref (ad 1), .int (s_X0_slotOf unit port), .int lane]) (rest := []) (ws' := wX cI ad (xPut 36 U (s_X0_slotOf unit port) lane) T F C B RU RC WU ST RP RN WT SM CC TR) (pc' := 56) hK hA (k_X0_put l D cI (ad 1) 36 U (s_X0_slotOf unit port) lane (by decide)) (va_cwS 3 C0.2.2.2.2 gX0_untag_X0_put rfl rfl rfl (by decide +kernel) ⟨Nat.le_of_ble_eq_true rfl, Nat.le_of_ble_eq_true rfl⟩) (PLs.one 1 rfl) rfl rfl (Nat.le_of_ble_eq_true rfl) ⟨Nat.zero_le _, Nat.zero_le _⟩ dX0_untag_53 rfl ?_
      refine v_iload C0 (pc' := 58) 0 rfl dX0_untag_56 rfl ?_
      refine v_world (ws' := wX cI ad (s_X0_untag_U U unit port lane) T F C B RU RC WU ST RP RN WT SM CC TR) (by simp only [s_X0_untag, s_X0_untag_U, if_neg h1, if_pos h3]) ?_
      exact v_iret C0 hr hlk hK (by simp only [s_X0_untag, s_X0_untag_U, if_neg h1, if_pos h3]) dX0_untag_58
    · exact absurd ht h3
set_option maxHeartbeats 4000000 in
set_option maxRecDepth 100000 in
theorem kx_X0_untag_IAE (l : Launch) (hst : l.stackTraces = false) (D : va_G) (cI : ClassId) (ad : Nat → Nat) (U : Nat → Int32) (T : Nat → Int32) (F : Nat → Int32) (C : Nat → Int32) (B : Nat → Int32) (RU : Nat → Int32) (RC : Nat → Int32) (WU : Nat → Int32) (ST : Nat → Int32) (RP : Nat → Int32) (RN : Int32) (WT : Nat → Int32) (SM : Nat → Int32) (CC : Int32) (TR : Int32) (unit : Int32) (port : Int32) (lane : Int32) (hb : ¬ (okU unit ∧ okU port ∧ (lane = 0 ∨ okL lane))) : Kx l yX0_untag wsX0_untag 8 123 D (TI cI) [.ref (ad 0), .int unit, .int port, .int lane] (wX cI ad U T F C B RU RC WU ST RP RN WT SM CC TR) xIAE := by
  refine Kx.of (cc := cX0_untag) (maxL := 6) (lv0 := [(0, .ref (ad 0)), (1, .int unit), (2, .int port), (3, .int lane)]) (by decide +kernel) rfl (Nat.le_of_ble_eq_true rfl) rfl ?_
  intro p e s m args below meth c A C0 hT0 hlk hK hA hEN
  refine v_iload_n C0 (pc' := 1) 1 rfl rfl dX0_untag_0 rfl ?_
  refine v_iload_n C0 (pc' := 2) 2 rfl rfl dX0_untag_1 rfl ?_
  by_cases hs : okU unit ∧ okU port
  · refine v_callSi0 C0 (av := [.int unit, .int port]) (rest := []) (ws' := wX cI ad U T F C B RU RC WU ST RP RN WT SM CC TR) (pc' := 5) hK hA (k_X0_slotOf l D cI unit port hs.1 hs.2) (va_cwS 2 C0.2.2.2.2 gX0_untag_X0_slotOf rfl rfl rfl (by decide +kernel) ⟨Nat.le_of_ble_eq_true rfl, Nat.le_of_ble_eq_true rfl⟩) PLs.nil rfl rfl (Nat.le_of_ble_eq_true rfl) ⟨Nat.zero_le _, Nat.zero_le _⟩ dX0_untag_2 rfl ?_
    refine v_istore C0 (lv' := [(4, .int (s_X0_slotOf unit port)), (0, .ref (ad 0)), (1, .int unit), (2, .int port), (3, .int lane)]) (pc' := 7) (by decide) rfl dX0_untag_5 rfl ?_
    refine v_iload_n C0 (pc' := 8) 4 rfl rfl dX0_untag_7 rfl ?_
    refine v_if_eq C0 15 (pc' := 11) dX0_untag_8 (by decide) rfl (fun h1 => ?_) (fun h1 => ?_)
    · exact absurd ⟨hs.1, hs.2, Or.inl h1⟩ hb
    · refine v_iload_n C0 (pc' := 12) 4 rfl rfl dX0_untag_11 rfl ?_
      exact v_callSx_out C0 (av := [.int lane]) (rest := []) hK hA hEN (kx_X0_checkLane_IAE l hst D cI lane (fun q => hb ⟨hs.1, hs.2, Or.inr q⟩)) (va_cwS 1 C0.2.2.2.2 gX0_untag_X0_checkLane rfl rfl rfl (by decide +kernel) ⟨Nat.le_of_ble_eq_true rfl, Nat.le_of_ble_eq_true rfl⟩) PLs.nil rfl rfl (Nat.le_of_ble_eq_true rfl) ⟨Nat.le_refl _, Nat.le_refl _⟩ dX0_untag_12 hT0 hlk (Nat.le_refl _) (Nat.le_refl _)
  · exact v_callSx_out C0 (av := [.int unit, .int port]) (rest := []) hK hA hEN (kx_X0_slotOf_IAE l hst D cI unit port hs) (va_cwS 2 C0.2.2.2.2 gX0_untag_X0_slotOf rfl rfl rfl (by decide +kernel) ⟨Nat.le_of_ble_eq_true rfl, Nat.le_of_ble_eq_true rfl⟩) PLs.nil rfl rfl (Nat.le_of_ble_eq_true rfl) ⟨Nat.le_refl _, Nat.le_refl _⟩ dX0_untag_2 hT0 hlk (Nat.le_refl _) (Nat.le_refl _)
set_option maxHeartbeats 4000000 in
set_option maxRecDepth 100000 in
theorem kx_X0_untag_ISE (l : Launch) (hst : l.stackTraces = false) (D : va_G) (cI : ClassId) (ad : Nat → Nat) (U : Nat → Int32) (T : Nat → Int32) (F : Nat → Int32) (C : Nat → Int32) (B : Nat → Int32) (RU : Nat → Int32) (RC : Nat → Int32) (WU : Nat → Int32) (ST : Nat → Int32) (RP : Nat → Int32) (RN : Int32) (WT : Nat → Int32) (SM : Nat → Int32) (CC : Int32) (TR : Int32) (unit : Int32) (port : Int32) (lane : Int32) (hu : okU unit) (hp : okU port) (hl : lane = 0 ∨ okL lane) (ht : ¬ s_X0_isTagged T (s_X0_slotOf unit port) lane = 0) : Kx l yX0_untag wsX0_untag 6 82 D (TI cI) [.ref (ad 0), .int unit, .int port, .int lane] (wX cI ad U T F C B RU RC WU ST RP RN WT SM CC TR) xISE := by
  refine Kx.of (cc := cX0_untag) (maxL := 6) (lv0 := [(0, .ref (ad 0)), (1, .int unit), (2, .int port), (3, .int lane)]) (by decide +kernel) rfl (Nat.le_of_ble_eq_true rfl) rfl ?_
  intro p e s m args below meth c A C0 hT0 hlk hK hA hEN
  refine v_iload_n C0 (pc' := 1) 1 rfl rfl dX0_untag_0 rfl ?_
  refine v_iload_n C0 (pc' := 2) 2 rfl rfl dX0_untag_1 rfl ?_
  refine v_callSi0 C0 (av := [.int unit, .int port]) (rest := []) (ws' := wX cI ad U T F C B RU RC WU ST RP RN WT SM CC TR) (pc' := 5) hK hA (k_X0_slotOf l D cI unit port hu hp) (va_cwS 2 C0.2.2.2.2 gX0_untag_X0_slotOf rfl rfl rfl (by decide +kernel) ⟨Nat.le_of_ble_eq_true rfl, Nat.le_of_ble_eq_true rfl⟩) PLs.nil rfl rfl (Nat.le_of_ble_eq_true rfl) ⟨Nat.zero_le _, Nat.zero_le _⟩ dX0_untag_2 rfl ?_
  refine v_istore C0 (lv' := [(4, .int (s_X0_slotOf unit port)), (0, .ref (ad 0)), (1, .int unit), (2, .int port), (3, .int lane)]) (pc' := 7) (by decide) rfl dX0_untag_5 rfl ?_
  refine v_iload_n C0 (pc' := 8) 4 rfl rfl dX0_untag_7 rfl ?_
  refine v_if_eq C0 15 (pc' := 11) dX0_untag_8 (by decide) rfl (fun h1 => ?_) (fun h1 => ?_)
  · refine v_aload_n C0 (pc' := 16) 1 rfl rfl dX0_untag_15 rfl ?_
    refine v_iload C0 (pc' := 18) 0 rfl dX0_untag_16 rfl ?_
    refine v_iload_n C0 (pc' := 19) 4 rfl rfl dX0_untag_18 rfl ?_
    refine v_callVi0 C0 (av := [.int (s_X0_slotOf unit port), .int lane]) (rest := []) (ws' := wX cI ad U T F C B RU RC WU ST RP RN WT SM CC TR) (pc' := 22) hK hA (k_X0_isTagged l D cI ad U T F C B RU RC WU ST RP RN WT SM CC TR (s_X0_slotOf unit port) lane) (cwV 2 C0.2.2.2.2 gX0_untag_X0_isTagged rfl rfl rfl (by decide +kernel) ⟨Nat.le_of_ble_eq_true rfl, Nat.le_of_ble_eq_true rfl⟩) ⟨0, 0, _, _, _, rfl, rfl⟩ PLs.all rfl rfl (Nat.le_of_ble_eq_true rfl) ⟨Nat.zero_le _, Nat.zero_le _⟩ dX0_untag_19 rfl ?_
    refine v_if_eq C0 35 (pc' := 25) dX0_untag_22 (by decide) rfl (fun h2 => ?_) (fun h2 => ?_)
    · exact absurd h2 ht
    · exact v_throw C0 hst hEN hT0 hlk hK rfl (E := xISE) (text := "the lane is tagged at the port") (by decide +kernel) xk_X0_untag_ISE xi_X0_untag_ISE xa_X0_untag_ISE hng_ISE hgood_ISE (by decide +kernel) (by decide +kernel) dX0_untag_25 dX0_untag_28 dX0_untag_29 dX0_untag_31 dX0_untag_34 (Nat.le_of_ble_eq_true rfl) (Nat.le_of_ble_eq_true rfl) (Nat.le_refl _) (Nat.le_refl _) (Nat.le_refl _) (Nat.le_refl _)
  · refine v_iload_n C0 (pc' := 12) 4 rfl rfl dX0_untag_11 rfl ?_
    refine v_callSv0 C0 (av := [.int lane]) (rest := []) (ws' := wX cI ad U T F C B RU RC WU ST RP RN WT SM CC TR) (pc' := 15) hK hA (k_X0_checkLane l D cI lane (hl.resolve_left h1)) (va_cwS 1 C0.2.2.2.2 gX0_untag_X0_checkLane rfl rfl rfl (by decide +kernel) ⟨Nat.le_of_ble_eq_true rfl, Nat.le_of_ble_eq_true rfl⟩) PLs.nil rfl rfl (Nat.le_of_ble_eq_true rfl) ⟨Nat.zero_le _, Nat.zero_le _⟩ dX0_untag_12 rfl ?_
    refine v_aload_n C0 (pc' := 16) 1 rfl rfl dX0_untag_15 rfl ?_
    refine v_iload C0 (pc' := 18) 0 rfl dX0_untag_16 rfl ?_
    refine v_iload_n C0 (pc' := 19) 4 rfl rfl dX0_untag_18 rfl ?_
    refine v_callVi0 C0 (av := [.int (s_X0_slotOf unit port), .int lane]) (rest := []) (ws' := wX cI ad U T F C B RU RC WU ST RP RN WT SM CC TR) (pc' := 22) hK hA (k_X0_isTagged l D cI ad U T F C B RU RC WU ST RP RN WT SM CC TR (s_X0_slotOf unit port) lane) (cwV 2 C0.2.2.2.2 gX0_untag_X0_isTagged rfl rfl rfl (by decide +kernel) ⟨Nat.le_of_ble_eq_true rfl, Nat.le_of_ble_eq_true rfl⟩) ⟨0, 0, _, _, _, rfl, rfl⟩ PLs.all rfl rfl (Nat.le_of_ble_eq_true rfl) ⟨Nat.zero_le _, Nat.zero_le _⟩ dX0_untag_19 rfl ?_
    refine v_if_eq C0 35 (pc' := 25) dX0_untag_22 (by decide) rfl (fun h3 => ?_) (fun h3 => ?_)
    · exact absurd h3 ht
    · exact v_throw C0 hst hEN hT0 hlk hK rfl (E := xISE) (text := "the lane is tagged at the port") (by decide +kernel) xk_X0_untag_ISE xi_X0_untag_ISE xa_X0_untag_ISE hng_ISE hgood_ISE (by decide +kernel) (by decide +kernel) dX0_untag_25 dX0_untag_28 dX0_untag_29 dX0_untag_31 dX0_untag_34 (Nat.le_of_ble_eq_true rfl) (Nat.le_of_ble_eq_true rfl) (Nat.le_refl _) (Nat.le_refl _) (Nat.le_refl _) (Nat.le_refl _)
def s_X0_tag (T : Nat → Int32) (unit : Int32) (port : Int32) (lane : Int32) : Int32 := s_X0_isTagged T (s_X0_slotOf unit port) lane
def s_X0_tag_T (T : Nat → Int32) (unit : Int32) (port : Int32) (lane : Int32) (ist : Int32) : Nat → Int32 := if ist = 0 then (xPut 36 T (s_X0_slotOf unit port) ((xAt 36 T (s_X0_slotOf unit port)) &&& (((1 : Int32) <<< (lane &&& 31)) ^^^ (-1)))) else (xPut 36 T (s_X0_slotOf unit port) (((xAt 36 T (s_X0_slotOf unit port)) &&& (((1 : Int32) <<< (lane &&& 31)) ^^^ (-1))) ||| ((1 : Int32) <<< (lane &&& 31))))
set_option maxHeartbeats 4000000 in
set_option maxRecDepth 100000 in
theorem k_X0_tag (l : Launch) (D : va_G) (cI : ClassId) (ad : Nat → Nat) (U : Nat → Int32) (T : Nat → Int32) (F : Nat → Int32) (C : Nat → Int32) (B : Nat → Int32) (RU : Nat → Int32) (RC : Nat → Int32) (WU : Nat → Int32) (ST : Nat → Int32) (RP : Nat → Int32) (RN : Int32) (WT : Nat → Int32) (SM : Nat → Int32) (CC : Int32) (TR : Int32) (unit : Int32) (port : Int32) (lane : Int32) (ist : Int32) (hb_ist : ist = 0 ∨ ist = 1) (hu : okU unit) (hp : okU port) (hl : okL lane) (hq : ¬ (¬ ist = 0 ∧ xAt 36 U (s_X0_slotOf unit port) = lane)) : Ki l yX0_tag wsX0_tag 2 43 0 0 D (TI cI) [.ref (ad 0), .int unit, .int port, .int lane, .int ist] (wX cI ad U T F C B RU RC WU ST RP RN WT SM CC TR) (wX cI ad U (s_X0_tag_T T unit port lane ist) F C B RU RC WU ST RP RN WT SM CC TR) (s_X0_tag T unit port lane) := by
  refine Ki.of (cc := cX0_tag) (maxL := 8) (rt := .boolean) (lv0 := [(0, .ref (ad 0)), (1, .int unit), (2, .int port), (3, .int lane), (4, .int ist)]) (by decide +kernel) rfl (Nat.le_of_ble_eq_true rfl) rfl ?_
  intro p e s m args below meth c A C0 hr hlk hK hA
  refine v_iload_n C0 (pc' := 1) 1 rfl rfl dX0_tag_0 rfl ?_
  refine v_iload_n C0 (pc' := 2) 2 rfl rfl dX0_tag_1 rfl ?_
  refine v_callSi0 C0 (av := [.int unit, .int port]) (rest := []) (ws' := wX cI ad U T F C B RU RC WU ST RP RN WT SM CC TR) (pc' := 5) hK hA (k_X0_slotOf l D cI unit port hu hp) (va_cwS 2 C0.2.2.2.2 gX0_tag_X0_slotOf rfl rfl rfl (by decide +kernel) ⟨Nat.le_of_ble_eq_true rfl, Nat.le_of_ble_eq_true rfl⟩) PLs.nil rfl rfl (Nat.le_of_ble_eq_true rfl) ⟨Nat.zero_le _, Nat.zero_le _⟩ dX0_tag_2 rfl ?_
  refine v_istore C0 (lv' := [(5, .int (s_X0_slotOf unit port)), (0, .ref (ad 0)), (1, .int unit), (2, .int port), (3, .int lane), (4, .int ist)]) (pc' := 7) (by decide) rfl dX0_tag_5 rfl ?_
  refine v_iload_n C0 (pc' := 8) 4 rfl rfl dX0_tag_7 rfl ?_
  refine v_callSv0 C0 (av := [.int lane]) (rest := []) (ws' := wX cI ad U T F C B RU RC WU ST RP RN WT SM CC TR) (pc' := 11) hK hA (k_X0_checkLane l D cI lane hl) (va_cwS 1 C0.2.2.2.2 gX0_tag_X0_checkLane rfl rfl rfl (by decide +kernel) ⟨Nat.le_of_ble_eq_true rfl, Nat.le_of_ble_eq_true rfl⟩) PLs.nil rfl rfl (Nat.le_of_ble_eq_true rfl) ⟨Nat.zero_le _, Nat.zero_le _⟩ dX0_tag_8 rfl ?_
  refine v_iload C0 (pc' := 13) 5 rfl dX0_tag_11 rfl ?_
  refine v_if_eq C0 39 (pc' := 16) dX0_tag_13 (by decide) rfl (fun h1 => ?_) (fun h1 => ?_)
  · refine v_aload_n C0 (pc' := 40) 1 rfl rfl dX0_tag_39 rfl ?_
    refine v_iload C0 (pc' := 42) 0 rfl dX0_tag_40 rfl ?_
    refine v_iload_n C0 (pc' := 43) 4 rfl rfl dX0_tag_42 rfl ?_
    refine v_callVi0 C0 (av := [.int (s_X0_slotOf unit port), .int lane]) (rest := []) (ws' := wX cI ad U T F C B RU RC WU ST RP RN WT SM CC TR) (pc' := 46) hK hA (k_X0_isTagged l D cI ad U T F C B RU RC WU ST RP RN WT SM CC TR (s_X0_slotOf unit port) lane) (cwV 2 C0.2.2.2.2 gX0_tag_X0_isTagged rfl rfl rfl (by decide +kernel) ⟨Nat.le_of_ble_eq_true rfl, Nat.le_of_ble_eq_true rfl⟩) ⟨0, 0, _, _, _, rfl, rfl⟩ PLs.all rfl rfl (Nat.le_of_ble_eq_true rfl) ⟨Nat.zero_le _, Nat.zero_le _⟩ dX0_tag_43 rfl ?_
    refine v_istore C0 (lv' := [(6, .int (s_X0_isTagged T (s_X0_slotOf unit port) lane)), (5, .int (s_X0_slotOf unit port)), (0, .ref (ad 0)), (1, .int unit), (2, .int port), (3, .int lane), (4, .int ist)]) (pc' := 48) (by decide) rfl dX0_tag_46 rfl ?_
    refine v_aload_n C0 (pc' := 49) 2 rfl rfl dX0_tag_48 rfl ?_
    refine v_get C0 hK (C := RX0) (T := TX0) (N := 15) (pc' := 52) 0 1 rfl rfl rfl (by decide) in_X0_tag fl_X0_tag_13 rfl dX0_tag_49 rfl ?_
    refine v_iload C0 (pc' := 54) 1 rfl dX0_tag_52 rfl ?_
    refine v_callSi0 C0 (av := [.ref (ad 2), .int (s_X0_slotOf unit port)]) (rest := []) (ws' := wX cI ad U T F C B RU RC WU ST RP RN WT SM CC TR) (pc' := 57) hK hA (k_X0_at l D cI (ad 2) 36 T (s_X0_slotOf unit port) (by decide)) (va_cwS 2 C0.2.2.2.2 gX0_tag_X0_at rfl rfl rfl (by decide +kernel) ⟨Nat.le_of_ble_eq_true rfl, Nat.le_of_ble_eq_true rfl⟩) (PLs.one0 2 rfl) rfl rfl (Nat.le_of_ble_eq_true rfl) ⟨Nat.zero_le _, Nat.zero_le _⟩ dX0_tag_54 rfl ?_
    refine v_iconst C0 (pc' := 58) 1 (by decide) dX0_tag_57 rfl ?_
    refine v_iload_n C0 (pc' := 59) 5 rfl rfl dX0_tag_58 rfl ?_
    refine v_ishl C0 (pc' := 60) dX0_tag_59 rfl ?_
    refine v_iconst C0 (pc' := 61) (-1) (by decide) dX0_tag_60 rfl ?_
    refine v_ixor C0 (pc' := 62) dX0_tag_61 rfl ?_
    refine v_iand C0 (pc' := 63) dX0_tag_62 rfl ?_
    refine v_istore C0 (lv' := [(7, .int ((xAt 36 T (s_X0_slotOf unit port)) &&& (((1 : Int32) <<< (lane &&& 31)) ^^^ (-1)))), (6, .int (s_X0_isTagged T (s_X0_slotOf unit port) lane)), (5, .int (s_X0_slotOf unit port)), (0, .ref (ad 0)), (1, .int unit), (2, .int port), (3, .int lane), (4, .int ist)]) (pc' := 65) (by decide) rfl dX0_tag_63 rfl ?_
    refine v_aload_n C0 (pc' := 66) 3 rfl rfl dX0_tag_65 rfl ?_
    refine v_get C0 hK (C := RX0) (T := TX0) (N := 15) (pc' := 69) 0 1 rfl rfl rfl (by decide) in_X0_tag fl_X0_tag_13 rfl dX0_tag_66 rfl ?_
    refine v_iload C0 (pc' := 71) 2 rfl dX0_tag_69 rfl ?_
    refine v_iload C0 (pc' := 73) 7 rfl dX0_tag_71 rfl ?_
    refine v_if_eq C0 85 (pc' := 76) dX0_tag_73 (by decide) rfl (fun h2 => ?_) (fun h2 => ?_)
    · refine v_iload C0 (pc' := 87) 0 rfl dX0_tag_85 rfl ?_
      refine v_callSv0 C0 (av := [.ref (ad 2), .int (s_X0_slotOf unit port), .int ((xAt 36 T (s_X0_slotOf unit port)) &&& (((1 : Int32) <<< (lane &&& 31)) ^^^ (-1)))]) (rest := []) (ws' := wX cI ad U (xPut 36 T (s_X0_slotOf unit port) ((xAt 36 T (s_X0_slotOf unit port)) &&& (((1 : Int32) <<< (lane &&& 31)) ^^^ (-1)))) F C B RU RC WU ST RP RN WT SM CC TR) (pc' := 90) hK hA (k_X0_put l D cI (ad 2) 36 T (s_X0_slotOf unit port) ((xAt 36 T (s_X0_slotOf unit port)) &&& (((1 : Int32) <<< (lane &&& 31)) ^^^ (-1))) (by decide)) (va_cwS 3 C0.2.2.2.2 gX0_tag_X0_put rfl rfl rfl (by decide +kernel) ⟨Nat.le_of_ble_eq_true rfl, Nat.le_of_ble_eq_true rfl⟩) (PLs.one 2 rfl) rfl rfl (Nat.le_of_ble_eq_true rfl) ⟨Nat.zero_le _, Nat.zero_le _⟩ dX0_tag_87 rfl ?_
      refine v_iload C0 (pc' := 92) 1 rfl dX0_tag_90 rfl ?_
      refine v_world (ws' := wX cI ad U (s_X0_tag_T T unit port lane ist) F C B RU RC WU ST RP RN WT SM CC TR) (by simp only [s_X0_tag, s_X0_tag_T, if_pos h1]) ?_
      exact v_zret C0 hr hlk hK (b_X0_isTagged T (s_X0_slotOf unit port) lane) (by simp only [s_X0_tag, s_X0_tag_T, if_pos h1]) dX0_tag_92
    · exact absurd h1 h2
  · refine v_aload_n C0 (pc' := 17) 1 rfl rfl dX0_tag_16 rfl ?_
    refine v_get C0 hK (C := RX0) (T := TX0) (N := 15) (pc' := 20) 0 0 rfl rfl rfl (by decide) in_X0_tag fl_X0_tag_9 rfl dX0_tag_17 rfl ?_
    refine v_iload C0 (pc' := 22) 0 rfl dX0_tag_20 rfl ?_
    refine v_callSi0 C0 (av := [.ref (ad 1), .int (s_X0_slotOf unit port)]) (rest := []) (ws' := wX cI ad U T F C B RU RC WU ST RP RN WT SM CC TR) (pc' := 25) hK hA (k_X0_at l D cI (ad 1) 36 U (s_X0_slotOf unit port) (by decide)) (va_cwS 2 C0.2.2.2.2 gX0_tag_X0_at rfl rfl rfl (by decide +kernel) ⟨Nat.le_of_ble_eq_true rfl, Nat.le_of_ble_eq_true rfl⟩) (PLs.one0 1 rfl) rfl rfl (Nat.le_of_ble_eq_true rfl) ⟨Nat.zero_le _, Nat.zero_le _⟩ dX0_tag_22 rfl ?_
    refine v_iload_n C0 (pc' := 26) 4 rfl rfl dX0_tag_25 rfl ?_
    refine v_icmp_ne C0 39 (pc' := 29) dX0_tag_26 (by decide) rfl (fun h3 => ?_) (fun h3 => ?_)
    · refine v_aload_n C0 (pc' := 40) 1 rfl rfl dX0_tag_39 rfl ?_
      refine v_iload C0 (pc' := 42) 0 rfl dX0_tag_40 rfl ?_
      refine v_iload_n C0 (pc' := 43) 4 rfl rfl dX0_tag_42 rfl ?_
      refine v_callVi0 C0 (av := [.int (s_X0_slotOf unit port), .int lane]) (rest := []) (ws' := wX cI ad U T F C B RU RC WU ST RP RN WT SM CC TR) (pc' := 46) hK hA (k_X0_isTagged l D cI ad U T F C B RU RC WU ST RP RN WT SM CC TR (s_X0_slotOf unit port) lane) (cwV 2 C0.2.2.2.2 gX0_tag_X0_isTagged rfl rfl rfl (by decide +kernel) ⟨Nat.le_of_ble_eq_true rfl, Nat.le_of_ble_eq_true rfl⟩) ⟨0, 0, _, _, _, rfl, rfl⟩ PLs.all rfl rfl (Nat.le_of_ble_eq_true rfl) ⟨Nat.zero_le _, Nat.zero_le _⟩ dX0_tag_43 rfl ?_
      refine v_istore C0 (lv' := [(6, .int (s_X0_isTagged T (s_X0_slotOf unit port) lane)), (5, .int (s_X0_slotOf unit port)), (0, .ref (ad 0)), (1, .int unit), (2, .int port), (3, .int lane), (4, .int ist)]) (pc' := 48) (by decide) rfl dX0_tag_46 rfl ?_
      refine v_aload_n C0 (pc' := 49) 2 rfl rfl dX0_tag_48 rfl ?_
      refine v_get C0 hK (C := RX0) (T := TX0) (N := 15) (pc' := 52) 0 1 rfl rfl rfl (by decide) in_X0_tag fl_X0_tag_13 rfl dX0_tag_49 rfl ?_
      refine v_iload C0 (pc' := 54) 1 rfl dX0_tag_52 rfl ?_
      refine v_callSi0 C0 (av := [.ref (ad 2), .int (s_X0_slotOf unit port)]) (rest := []) (ws' := wX cI ad U T F C B RU RC WU ST RP RN WT SM CC TR) (pc' := 57) hK hA (k_X0_at l D cI (ad 2) 36 T (s_X0_slotOf unit port) (by decide)) (va_cwS 2 C0.2.2.2.2 gX0_tag_X0_at rfl rfl rfl (by decide +kernel) ⟨Nat.le_of_ble_eq_true rfl, Nat.le_of_ble_eq_true rfl⟩) (PLs.one0 2 rfl) rfl rfl (Nat.le_of_ble_eq_true rfl) ⟨Nat.zero_le _, Nat.zero_le _⟩ dX0_tag_54 rfl ?_
      refine v_iconst C0 (pc' := 58) 1 (by decide) dX0_tag_57 rfl ?_
      refine v_iload_n C0 (pc' := 59) 5 rfl rfl dX0_tag_58 rfl ?_
      refine v_ishl C0 (pc' := 60) dX0_tag_59 rfl ?_
      refine v_iconst C0 (pc' := 61) (-1) (by decide) dX0_tag_60 rfl ?_
      refine v_ixor C0 (pc' := 62) dX0_tag_61 rfl ?_
      refine v_iand C0 (pc' := 63) dX0_tag_62 rfl ?_
      refine v_istore C0 (lv' := [(7, .int ((xAt 36 T (s_X0_slotOf unit port)) &&& (((1 : Int32) <<< (lane &&& 31)) ^^^ (-1)))), (6, .int (s_X0_isTagged T (s_X0_slotOf unit port) lane)), (5, .int (s_X0_slotOf unit port)), (0, .ref (ad 0)), (1, .int unit), (2, .int port), (3, .int lane), (4, .int ist)]) (pc' := 65) (by decide) rfl dX0_tag_63 rfl ?_
      refine v_aload_n C0 (pc' := 66) 3 rfl rfl dX0_tag_65 rfl ?_
      refine v_get C0 hK (C := RX0) (T := TX0) (N := 15) (pc' := 69) 0 1 rfl rfl rfl (by decide) in_X0_tag fl_X0_tag_13 rfl dX0_tag_66 rfl ?_
      refine v_iload C0 (pc' := 71) 2 rfl dX0_tag_69 rfl ?_
      refine v_iload C0 (pc' := 73) 7 rfl dX0_tag_71 rfl ?_
      refine v_if_eq C0 85 (pc' := 76) dX0_tag_73 (by decide) rfl (fun h4 => ?_) (fun h4 => ?_)
      · exact absurd h4 h1
      · refine v_iload C0 (pc' := 78) 0 rfl dX0_tag_76 rfl ?_
        refine v_iconst C0 (pc' := 79) 1 (by decide) dX0_tag_78 rfl ?_
        refine v_iload_n C0 (pc' := 80) 6 rfl rfl dX0_tag_79 rfl ?_
        refine v_ishl C0 (pc' := 81) dX0_tag_80 rfl ?_
        refine v_ior C0 (pc' := 82) dX0_tag_81 rfl ?_
        refine v_goto C0 87 dX0_tag_82 (by decide) ?_
        refine v_callSv0 C0 (av := [.ref (ad 2), .int (s_X0_slotOf unit port), .int (((xAt 36 T (s_X0_slotOf unit port)) &&& (((1 : Int32) <<< (lane &&& 31)) ^^^ (-1))) ||| ((1 : Int32) <<< (lane &&& 31)))]) (rest := []) (ws' := wX cI ad U (xPut 36 T (s_X0_slotOf unit port) (((xAt 36 T (s_X0_slotOf unit port)) &&& (((1 : Int32) <<< (lane &&& 31)) ^^^ (-1))) ||| ((1 : Int32) <<< (lane &&& 31)))) F C B RU RC WU ST RP RN WT SM CC TR) (pc' := 90) hK hA (k_X0_put l D cI (ad 2) 36 T (s_X0_slotOf unit port) (((xAt 36 T (s_X0_slotOf unit port)) &&& (((1 : Int32) <<< (lane &&& 31)) ^^^ (-1))) ||| ((1 : Int32) <<< (lane &&& 31))) (by decide)) (va_cwS 3 C0.2.2.2.2 gX0_tag_X0_put rfl rfl rfl (by decide +kernel) ⟨Nat.le_of_ble_eq_true rfl, Nat.le_of_ble_eq_true rfl⟩) (PLs.one 2 rfl) rfl rfl (Nat.le_of_ble_eq_true rfl) ⟨Nat.zero_le _, Nat.zero_le _⟩ dX0_tag_87 rfl ?_
        refine v_iload C0 (pc' := 92) 1 rfl dX0_tag_90 rfl ?_
        refine v_world (ws' := wX cI ad U (s_X0_tag_T T unit port lane ist) F C B RU RC WU ST RP RN WT SM CC TR) (by simp only [s_X0_tag, s_X0_tag_T, if_neg h1, if_neg h3]) ?_
        exact v_zret C0 hr hlk hK (b_X0_isTagged T (s_X0_slotOf unit port) lane) (by simp only [s_X0_tag, s_X0_tag_T, if_neg h1, if_neg h3]) dX0_tag_92
    · exact absurd ⟨h1, h3⟩ hq
set_option maxHeartbeats 4000000 in
set_option maxRecDepth 100000 in
theorem kx_X0_tag_IAE (l : Launch) (hst : l.stackTraces = false) (D : va_G) (cI : ClassId) (ad : Nat → Nat) (U : Nat → Int32) (T : Nat → Int32) (F : Nat → Int32) (C : Nat → Int32) (B : Nat → Int32) (RU : Nat → Int32) (RC : Nat → Int32) (WU : Nat → Int32) (ST : Nat → Int32) (RP : Nat → Int32) (RN : Int32) (WT : Nat → Int32) (SM : Nat → Int32) (CC : Int32) (TR : Int32) (unit : Int32) (port : Int32) (lane : Int32) (ist : Int32) (hb_ist : ist = 0 ∨ ist = 1) (hb : ¬ (okU unit ∧ okU port ∧ okL lane)) : Kx l yX0_tag wsX0_tag 8 123 D (TI cI) [.ref (ad 0), .int unit, .int port, .int lane, .int ist] (wX cI ad U T F C B RU RC WU ST RP RN WT SM CC TR) xIAE := by
  refine Kx.of (cc := cX0_tag) (maxL := 8) (lv0 := [(0, .ref (ad 0)), (1, .int unit), (2, .int port), (3, .int lane), (4, .int ist)]) (by decide +kernel) rfl (Nat.le_of_ble_eq_true rfl) rfl ?_
  intro p e s m args below meth c A C0 hT0 hlk hK hA hEN
  refine v_iload_n C0 (pc' := 1) 1 rfl rfl dX0_tag_0 rfl ?_
  refine v_iload_n C0 (pc' := 2) 2 rfl rfl dX0_tag_1 rfl ?_
  by_cases hs : okU unit ∧ okU port
  · refine v_callSi0 C0 (av := [.int unit, .int port]) (rest := []) (ws' := wX cI ad U T F C B RU RC WU ST RP RN WT SM CC TR) (pc' := 5) hK hA (k_X0_slotOf l D cI unit port hs.1 hs.2) (va_cwS 2 C0.2.2.2.2 gX0_tag_X0_slotOf rfl rfl rfl (by decide +kernel) ⟨Nat.le_of_ble_eq_true rfl, Nat.le_of_ble_eq_true rfl⟩) PLs.nil rfl rfl (Nat.le_of_ble_eq_true rfl) ⟨Nat.zero_le _, Nat.zero_le _⟩ dX0_tag_2 rfl ?_
    refine v_istore C0 (lv' := [(5, .int (s_X0_slotOf unit port)), (0, .ref (ad 0)), (1, .int unit), (2, .int port), (3, .int lane), (4, .int ist)]) (pc' := 7) (by decide) rfl dX0_tag_5 rfl ?_
    refine v_iload_n C0 (pc' := 8) 4 rfl rfl dX0_tag_7 rfl ?_
    exact v_callSx_out C0 (av := [.int lane]) (rest := []) hK hA hEN (kx_X0_checkLane_IAE l hst D cI lane (fun q => hb ⟨hs.1, hs.2, q⟩)) (va_cwS 1 C0.2.2.2.2 gX0_tag_X0_checkLane rfl rfl rfl (by decide +kernel) ⟨Nat.le_of_ble_eq_true rfl, Nat.le_of_ble_eq_true rfl⟩) PLs.nil rfl rfl (Nat.le_of_ble_eq_true rfl) ⟨Nat.le_refl _, Nat.le_refl _⟩ dX0_tag_8 hT0 hlk (Nat.le_refl _) (Nat.le_refl _)
  · exact v_callSx_out C0 (av := [.int unit, .int port]) (rest := []) hK hA hEN (kx_X0_slotOf_IAE l hst D cI unit port hs) (va_cwS 2 C0.2.2.2.2 gX0_tag_X0_slotOf rfl rfl rfl (by decide +kernel) ⟨Nat.le_of_ble_eq_true rfl, Nat.le_of_ble_eq_true rfl⟩) PLs.nil rfl rfl (Nat.le_of_ble_eq_true rfl) ⟨Nat.le_refl _, Nat.le_refl _⟩ dX0_tag_2 hT0 hlk (Nat.le_refl _) (Nat.le_refl _)
set_option maxHeartbeats 4000000 in
set_option maxRecDepth 100000 in
theorem kx_X0_tag_ISE (l : Launch) (hst : l.stackTraces = false) (D : va_G) (cI : ClassId) (ad : Nat → Nat) (U : Nat → Int32) (T : Nat → Int32) (F : Nat → Int32) (C : Nat → Int32) (B : Nat → Int32) (RU : Nat → Int32) (RC : Nat → Int32) (WU : Nat → Int32) (ST : Nat → Int32) (RP : Nat → Int32) (RN : Int32) (WT : Nat → Int32) (SM : Nat → Int32) (CC : Int32) (TR : Int32) (unit : Int32) (port : Int32) (lane : Int32) (ist : Int32) (hb_ist : ist = 0 ∨ ist = 1) (hu : okU unit) (hp : okU port) (hl : okL lane) (hq1 : ¬ ist = 0) (hq2 : xAt 36 U (s_X0_slotOf unit port) = lane) : Kx l yX0_tag wsX0_tag 6 82 D (TI cI) [.ref (ad 0), .int unit, .int port, .int lane, .int ist] (wX cI ad U T F C B RU RC WU ST RP RN WT SM CC TR) xISE := by
  refine Kx.of (cc := cX0_tag) (maxL := 8) (lv0 := [(0, .ref (ad 0)), (1, .int unit), (2, .int port), (3, .int lane), (4, .int ist)]) (by decide +kernel) rfl (Nat.le_of_ble_eq_true rfl) rfl ?_
  intro p e s m args below meth c A C0 hT0 hlk hK hA hEN
  refine v_iload_n C0 (pc' := 1) 1 rfl rfl dX0_tag_0 rfl ?_
  refine v_iload_n C0 (pc' := 2) 2 rfl rfl dX0_tag_1 rfl ?_
  refine v_callSi0 C0 (av := [.int unit, .int port]) (rest := []) (ws' := wX cI ad U T F C B RU RC WU ST RP RN WT SM CC TR) (pc' := 5) hK hA (k_X0_slotOf l D cI unit port hu hp) (va_cwS 2 C0.2.2.2.2 gX0_tag_X0_slotOf rfl rfl rfl (by decide +kernel) ⟨Nat.le_of_ble_eq_true rfl, Nat.le_of_ble_eq_true rfl⟩) PLs.nil rfl rfl (Nat.le_of_ble_eq_true rfl) ⟨Nat.zero_le _, Nat.zero_le _⟩ dX0_tag_2 rfl ?_
  refine v_istore C0 (lv' := [(5, .int (s_X0_slotOf unit port)), (0, .ref (ad 0)), (1, .int unit), (2, .int port), (3, .int lane), (4, .int ist)]) (pc' := 7) (by decide) rfl dX0_tag_5 rfl ?_
  refine v_iload_n C0 (pc' := 8) 4 rfl rfl dX0_tag_7 rfl ?_
  refine v_callSv0 C0 (av := [.int lane]) (rest := []) (ws' := wX cI ad U T F C B RU RC WU ST RP RN WT SM CC TR) (pc' := 11) hK hA (k_X0_checkLane l D cI lane hl) (va_cwS 1 C0.2.2.2.2 gX0_tag_X0_checkLane rfl rfl rfl (by decide +kernel) ⟨Nat.le_of_ble_eq_true rfl, Nat.le_of_ble_eq_true rfl⟩) PLs.nil rfl rfl (Nat.le_of_ble_eq_true rfl) ⟨Nat.zero_le _, Nat.zero_le _⟩ dX0_tag_8 rfl ?_
  refine v_iload C0 (pc' := 13) 5 rfl dX0_tag_11 rfl ?_
  refine v_if_eq C0 39 (pc' := 16) dX0_tag_13 (by decide) rfl (fun h1 => ?_) (fun h1 => ?_)
  · exact absurd h1 hq1
  · refine v_aload_n C0 (pc' := 17) 1 rfl rfl dX0_tag_16 rfl ?_
    refine v_get C0 hK (C := RX0) (T := TX0) (N := 15) (pc' := 20) 0 0 rfl rfl rfl (by decide) in_X0_tag fl_X0_tag_9 rfl dX0_tag_17 rfl ?_
    refine v_iload C0 (pc' := 22) 0 rfl dX0_tag_20 rfl ?_
    refine v_callSi0 C0 (av := [.ref (ad 1), .int (s_X0_slotOf unit port)]) (rest := []) (ws' := wX cI ad U T F C B RU RC WU ST RP RN WT SM CC TR) (pc' := 25) hK hA (k_X0_at l D cI (ad 1) 36 U (s_X0_slotOf unit port) (by decide)) (va_cwS 2 C0.2.2.2.2 gX0_tag_X0_at rfl rfl rfl (by decide +kernel) ⟨Nat.le_of_ble_eq_true rfl, Nat.le_of_ble_eq_true rfl⟩) (PLs.one0 1 rfl) rfl rfl (Nat.le_of_ble_eq_true rfl) ⟨Nat.zero_le _, Nat.zero_le _⟩ dX0_tag_22 rfl ?_
    refine v_iload_n C0 (pc' := 26) 4 rfl rfl dX0_tag_25 rfl ?_
    refine v_icmp_ne C0 39 (pc' := 29) dX0_tag_26 (by decide) rfl (fun h2 => ?_) (fun h2 => ?_)
    · exact absurd hq2 h2
    · exact v_throw C0 hst hEN hT0 hlk hK rfl (E := xISE) (text := "the lane is the untagged one of the port") (by decide +kernel) xk_X0_tag_ISE xi_X0_tag_ISE xa_X0_tag_ISE hng_ISE hgood_ISE (by decide +kernel) (by decide +kernel) dX0_tag_29 dX0_tag_32 dX0_tag_33 dX0_tag_35 dX0_tag_38 (Nat.le_of_ble_eq_true rfl) (Nat.le_of_ble_eq_true rfl) (Nat.le_refl _) (Nat.le_refl _) (Nat.le_refl _) (Nat.le_refl _)
def s_X0_cable (CC : Int32) : Int32 := CC + 1
def s_X0_cable_F (F : Nat → Int32) (unit : Int32) (port : Int32) (ou : Int32) (op : Int32) : Nat → Int32 := (s_X0_setCable_F (s_X0_setCable_F F (s_X0_slotOf unit port) (s_X0_slotOf ou op)) (s_X0_slotOf ou op) (s_X0_slotOf unit port))
def s_X0_cable_C (C : Nat → Int32) (unit : Int32) (port : Int32) (ou : Int32) (op : Int32) (cost : Int32) : Nat → Int32 := (s_X0_setCable_C (s_X0_setCable_C C (s_X0_slotOf unit port) cost) (s_X0_slotOf ou op) cost)
def s_X0_cable_RU (F : Nat → Int32) (RU : Nat → Int32) (WT : Nat → Int32) (unit : Int32) (port : Int32) (ou : Int32) (op : Int32) : Nat → Int32 := (s_X0_growTree_RU (s_X0_setCable_F (s_X0_setCable_F F (s_X0_slotOf unit port) (s_X0_slotOf ou op)) (s_X0_slotOf ou op) (s_X0_slotOf unit port)) RU WT)
def s_X0_cable_RC (F : Nat → Int32) (C : Nat → Int32) (RU : Nat → Int32) (RC : Nat → Int32) (WT : Nat → Int32) (unit : Int32) (port : Int32) (ou : Int32) (op : Int32) (cost : Int32) : Nat → Int32 := (s_X0_growTree_RC (s_X0_setCable_F (s_X0_setCable_F F (s_X0_slotOf unit port) (s_X0_slotOf ou op)) (s_X0_slotOf ou op) (s_X0_slotOf unit port)) (s_X0_setCable_C (s_X0_setCable_C C (s_X0_slotOf unit port) cost) (s_X0_slotOf ou op) cost) RU RC WT)
def s_X0_cable_WU (F : Nat → Int32) (C : Nat → Int32) (RU : Nat → Int32) (RC : Nat → Int32) (WU : Nat → Int32) (WT : Nat → Int32) (unit : Int32) (port : Int32) (ou : Int32) (op : Int32) (cost : Int32) : Nat → Int32 := (s_X0_growTree_WU (s_X0_setCable_F (s_X0_setCable_F F (s_X0_slotOf unit port) (s_X0_slotOf ou op)) (s_X0_slotOf ou op) (s_X0_slotOf unit port)) (s_X0_setCable_C (s_X0_setCable_C C (s_X0_slotOf unit port) cost) (s_X0_slotOf ou op) cost) RU RC WU WT)
def s_X0_cable_WT (WT : Nat → Int32) : Nat → Int32 := (s_X0_growTree_WT WT)
def s_X0_cable_CC (CC : Int32) : Int32 := (CC + 1)
set_option maxHeartbeats 4000000 in
set_option maxRecDepth 100000 in
theorem k_X0_cable (l : Launch) (D : va_G) (cI : ClassId) (ad : Nat → Nat) (U : Nat → Int32) (T : Nat → Int32) (F : Nat → Int32) (C : Nat → Int32) (B : Nat → Int32) (RU : Nat → Int32) (RC : Nat → Int32) (WU : Nat → Int32) (ST : Nat → Int32) (RP : Nat → Int32) (RN : Int32) (WT : Nat → Int32) (SM : Nat → Int32) (CC : Int32) (TR : Int32) (unit : Int32) (port : Int32) (ou : Int32) (op : Int32) (cost : Int32) (hu : okU unit) (hp : okU port) (hu2 : okU ou) (hp2 : okU op) (hc1 : ¬ cost < 1) (hc2 : cost ≤ 20) (hne : ¬ unit = ou) (hf1 : s_X0_hasCable F (s_X0_slotOf unit port) = 0) (hf2 : s_X0_hasCable F (s_X0_slotOf ou op) = 0) : Ki l yX0_cable wsX0_cable 5 114 0 0 D (TI cI) [.ref (ad 0), .int unit, .int port, .int ou, .int op, .int cost] (wX cI ad U T F C B RU RC WU ST RP RN WT SM CC TR) (wX cI ad U T (s_X0_cable_F F unit port ou op) (s_X0_cable_C C unit port ou op cost) B (s_X0_cable_RU F RU WT unit port ou op) (s_X0_cable_RC F C RU RC WT unit port ou op cost) (s_X0_cable_WU F C RU RC WU WT unit port ou op cost) ST RP RN (s_X0_cable_WT WT) SM (s_X0_cable_CC CC) TR) (s_X0_cable CC) := by
  refine Ki.of (cc := cX0_cable) (maxL := 8) (rt := .int) (lv0 := [(0, .ref (ad 0)), (1, .int unit), (2, .int port), (3, .int ou), (4, .int op), (5, .int cost)]) (by decide +kernel) rfl (Nat.le_of_ble_eq_true rfl) rfl ?_
  intro p e s m args below meth c A C0 hr hlk hK hA
  refine v_iload_n C0 (pc' := 1) 1 rfl rfl dX0_cable_0 rfl ?_
  refine v_iload_n C0 (pc' := 2) 2 rfl rfl dX0_cable_1 rfl ?_
  refine v_callSi0 C0 (av := [.int unit, .int port]) (rest := []) (ws' := wX cI ad U T F C B RU RC WU ST RP RN WT SM CC TR) (pc' := 5) hK hA (k_X0_slotOf l D cI unit port hu hp) (va_cwS 2 C0.2.2.2.2 gX0_cable_X0_slotOf rfl rfl rfl (by decide +kernel) ⟨Nat.le_of_ble_eq_true rfl, Nat.le_of_ble_eq_true rfl⟩) PLs.nil rfl rfl (Nat.le_of_ble_eq_true rfl) ⟨Nat.zero_le _, Nat.zero_le _⟩ dX0_cable_2 rfl ?_
  refine v_istore C0 (lv' := [(6, .int (s_X0_slotOf unit port)), (0, .ref (ad 0)), (1, .int unit), (2, .int port), (3, .int ou), (4, .int op), (5, .int cost)]) (pc' := 7) (by decide) rfl dX0_cable_5 rfl ?_
  refine v_iload_n C0 (pc' := 8) 4 rfl rfl dX0_cable_7 rfl ?_
  refine v_iload C0 (pc' := 10) 5 rfl dX0_cable_8 rfl ?_
  refine v_callSi0 C0 (av := [.int ou, .int op]) (rest := []) (ws' := wX cI ad U T F C B RU RC WU ST RP RN WT SM CC TR) (pc' := 13) hK hA (k_X0_slotOf l D cI ou op hu2 hp2) (va_cwS 2 C0.2.2.2.2 gX0_cable_X0_slotOf rfl rfl rfl (by decide +kernel) ⟨Nat.le_of_ble_eq_true rfl, Nat.le_of_ble_eq_true rfl⟩) PLs.nil rfl rfl (Nat.le_of_ble_eq_true rfl) ⟨Nat.zero_le _, Nat.zero_le _⟩ dX0_cable_10 rfl ?_
  refine v_istore C0 (lv' := [(7, .int (s_X0_slotOf ou op)), (6, .int (s_X0_slotOf unit port)), (0, .ref (ad 0)), (1, .int unit), (2, .int port), (3, .int ou), (4, .int op), (5, .int cost)]) (pc' := 15) (by decide) rfl dX0_cable_13 rfl ?_
  refine v_iload C0 (pc' := 17) 7 rfl dX0_cable_15 rfl ?_
  refine v_iconst C0 (pc' := 18) 1 (by decide) dX0_cable_17 rfl ?_
  refine v_icmp_lt C0 28 (pc' := 21) dX0_cable_18 (by decide) rfl (fun h1 => ?_) (fun h1 => ?_)
  · exact absurd h1 hc1
  · refine v_iload C0 (pc' := 23) 7 rfl dX0_cable_21 rfl ?_
    refine v_bipush C0 (pc' := 25) 20 (by decide) dX0_cable_23 rfl ?_
    refine v_icmp_le C0 38 (pc' := 28) dX0_cable_25 (by decide) rfl (fun h2 => ?_) (fun h2 => ?_)
    · refine v_iload_n C0 (pc' := 39) 3 rfl rfl dX0_cable_38 rfl ?_
      refine v_iload_n C0 (pc' := 40) 5 rfl rfl dX0_cable_39 rfl ?_
      refine v_icmp_ne C0 53 (pc' := 43) dX0_cable_40 (by decide) rfl (fun h3 => ?_) (fun h3 => ?_)
      · refine v_aload_n C0 (pc' := 54) 2 rfl rfl dX0_cable_53 rfl ?_
        refine v_iload C0 (pc' := 56) 1 rfl dX0_cable_54 rfl ?_
        refine v_callVi0 C0 (av := [.int (s_X0_slotOf unit port)]) (rest := []) (ws' := wX cI ad U T F C B RU RC WU ST RP RN WT SM CC TR) (pc' := 59) hK hA (k_X0_hasCable l D cI ad U T F C B RU RC WU ST RP RN WT SM CC TR (s_X0_slotOf unit port)) (cwV 1 C0.2.2.2.2 gX0_cable_X0_hasCable rfl rfl rfl (by decide +kernel) ⟨Nat.le_of_ble_eq_true rfl, Nat.le_of_ble_eq_true rfl⟩) ⟨0, 0, _, _, _, rfl, rfl⟩ PLs.all rfl rfl (Nat.le_of_ble_eq_true rfl) ⟨Nat.zero_le _, Nat.zero_le _⟩ dX0_cable_56 rfl ?_
        refine v_if_ne C0 71 (pc' := 62) dX0_cable_59 (by decide) rfl (fun h4 => ?_) (fun h4 => ?_)
        · exact absurd hf1 h4
        · refine v_aload_n C0 (pc' := 63) 2 rfl rfl dX0_cable_62 rfl ?_
          refine v_iload C0 (pc' := 65) 0 rfl dX0_cable_63 rfl ?_
          refine v_callVi0 C0 (av := [.int (s_X0_slotOf ou op)]) (rest := []) (ws' := wX cI ad U T F C B RU RC WU ST RP RN WT SM CC TR) (pc' := 68) hK hA (k_X0_hasCable l D cI ad U T F C B RU RC WU ST RP RN WT SM CC TR (s_X0_slotOf ou op)) (cwV 1 C0.2.2.2.2 gX0_cable_X0_hasCable rfl rfl rfl (by decide +kernel) ⟨Nat.le_of_ble_eq_true rfl, Nat.le_of_ble_eq_true rfl⟩) ⟨0, 0, _, _, _, rfl, rfl⟩ PLs.all rfl rfl (Nat.le_of_ble_eq_true rfl) ⟨Nat.zero_le _, Nat.zero_le _⟩ dX0_cable_65 rfl ?_
          refine v_if_eq C0 81 (pc' := 71) dX0_cable_68 (by decide) rfl (fun h5 => ?_) (fun h5 => ?_)
          · refine v_aload_n C0 (pc' := 82) 2 rfl rfl dX0_cable_81 rfl ?_
            refine v_iload C0 (pc' := 84) 1 rfl dX0_cable_82 rfl ?_
            refine v_iload C0 (pc' := 86) 0 rfl dX0_cable_84 rfl ?_
            refine v_iload C0 (pc' := 88) 7 rfl dX0_cable_86 rfl ?_
            refine v_callVv0 C0 (av := [.int (s_X0_slotOf unit port), .int (s_X0_slotOf ou op), .int cost]) (rest := []) (ws' := wX cI ad U T (s_X0_setCable_F F (s_X0_slotOf unit port) (s_X0_slotOf ou op)) (s_X0_setCable_C C (s_X0_slotOf unit port) cost) B RU RC WU ST RP RN WT SM CC TR) (pc' := 91) hK hA (k_X0_setCable l D cI ad U T F C B RU RC WU ST RP RN WT SM CC TR (s_X0_slotOf unit port) (s_X0_slotOf ou op) cost) (cwV 3 C0.2.2.2.2 gX0_cable_X0_setCable rfl rfl rfl (by decide +kernel) ⟨Nat.le_of_ble_eq_true rfl, Nat.le_of_ble_eq_true rfl⟩) ⟨0, 0, _, _, _, rfl, rfl⟩ PLs.all rfl rfl (Nat.le_of_ble_eq_true rfl) ⟨Nat.zero_le _, Nat.zero_le _⟩ dX0_cable_88 rfl ?_
            refine v_aload_n C0 (pc' := 92) 2 rfl rfl dX0_cable_91 rfl ?_
            refine v_iload C0 (pc' := 94) 0 rfl dX0_cable_92 rfl ?_
            refine v_iload C0 (pc' := 96) 1 rfl dX0_cable_94 rfl ?_
            refine v_iload C0 (pc' := 98) 7 rfl dX0_cable_96 rfl ?_
            refine v_callVv0 C0 (av := [.int (s_X0_slotOf ou op), .int (s_X0_slotOf unit port), .int cost]) (rest := []) (ws' := wX cI ad U T (s_X0_setCable_F (s_X0_setCable_F F (s_X0_slotOf unit port) (s_X0_slotOf ou op)) (s_X0_slotOf ou op) (s_X0_slotOf unit port)) (s_X0_setCable_C (s_X0_setCable_C C (s_X0_slotOf unit port) cost) (s_X0_slotOf ou op) cost) B RU RC WU ST RP RN WT SM CC TR) (pc' := 101) hK hA (k_X0_setCable l D cI ad U T (s_X0_setCable_F F (s_X0_slotOf unit port) (s_X0_slotOf ou op)) (s_X0_setCable_C C (s_X0_slotOf unit port) cost) B RU RC WU ST RP RN WT SM CC TR (s_X0_slotOf ou op) (s_X0_slotOf unit port) cost) (cwV 3 C0.2.2.2.2 gX0_cable_X0_setCable rfl rfl rfl (by decide +kernel) ⟨Nat.le_of_ble_eq_true rfl, Nat.le_of_ble_eq_true rfl⟩) ⟨0, 0, _, _, _, rfl, rfl⟩ PLs.all rfl rfl (Nat.le_of_ble_eq_true rfl) ⟨Nat.zero_le _, Nat.zero_le _⟩ dX0_cable_98 rfl ?_
            refine v_aload_n C0 (pc' := 102) 2 rfl rfl dX0_cable_101 rfl ?_
            refine v_dup C0 (pc' := 103) rfl dX0_cable_102 rfl ?_
            refine v_get C0 hK (C := RX0) (T := TX0) (N := 15) (pc' := 106) 0 13 rfl rfl rfl (by decide) in_X0_cable fl_X0_cable_101 rfl dX0_cable_103 rfl ?_
            refine v_iconst C0 (pc' := 107) 1 (by decide) dX0_cable_106 rfl ?_
            refine v_iadd C0 (pc' := 108) dX0_cable_107 rfl ?_
            refine v_put C0 hK (C := RX0) (T := TX0) (N := 15) (ws' := wX cI ad U T (s_X0_setCable_F (s_X0_setCable_F F (s_X0_slotOf unit port) (s_X0_slotOf ou op)) (s_X0_slotOf ou op) (s_X0_slotOf unit port)) (s_X0_setCable_C (s_X0_setCable_C C (s_X0_slotOf unit port) cost) (s_X0_slotOf ou op) cost) B RU RC WU ST RP RN WT SM (CC + 1) TR) (pc' := 111) 0 13 tyX0 rfl rfl rfl (by decide) (Nat.le_of_ble_eq_true rfl) tyX0_ok nmX0 in_X0_cable fl_X0_cable_101 rfl rfl rfl rfl rfl dX0_cable_108 rfl ?_
            refine v_aload_n C0 (pc' := 112) 2 rfl rfl dX0_cable_111 rfl ?_
            refine v_callVv0 C0 (av := []) (rest := []) (ws' := wX cI ad U T (s_X0_setCable_F (s_X0_setCable_F F (s_X0_slotOf unit port) (s_X0_slotOf ou op)) (s_X0_slotOf ou op) (s_X0_slotOf unit port)) (s_X0_setCable_C (s_X0_setCable_C C (s_X0_slotOf unit port) cost) (s_X0_slotOf ou op) cost) B (s_X0_growTree_RU (s_X0_setCable_F (s_X0_setCable_F F (s_X0_slotOf unit port) (s_X0_slotOf ou op)) (s_X0_slotOf ou op) (s_X0_slotOf unit port)) RU WT) (s_X0_growTree_RC (s_X0_setCable_F (s_X0_setCable_F F (s_X0_slotOf unit port) (s_X0_slotOf ou op)) (s_X0_slotOf ou op) (s_X0_slotOf unit port)) (s_X0_setCable_C (s_X0_setCable_C C (s_X0_slotOf unit port) cost) (s_X0_slotOf ou op) cost) RU RC WT) (s_X0_growTree_WU (s_X0_setCable_F (s_X0_setCable_F F (s_X0_slotOf unit port) (s_X0_slotOf ou op)) (s_X0_slotOf ou op) (s_X0_slotOf unit port)) (s_X0_setCable_C (s_X0_setCable_C C (s_X0_slotOf unit port) cost) (s_X0_slotOf ou op) cost) RU RC WU WT) ST RP RN (s_X0_growTree_WT WT) SM (CC + 1) TR) (pc' := 115) hK hA (k_X0_growTree l D cI ad U T (s_X0_setCable_F (s_X0_setCable_F F (s_X0_slotOf unit port) (s_X0_slotOf ou op)) (s_X0_slotOf ou op) (s_X0_slotOf unit port)) (s_X0_setCable_C (s_X0_setCable_C C (s_X0_slotOf unit port) cost) (s_X0_slotOf ou op) cost) B RU RC WU ST RP RN WT SM (CC + 1) TR ) (cwV 0 C0.2.2.2.2 gX0_cable_X0_growTree rfl rfl rfl (by decide +kernel) ⟨Nat.le_of_ble_eq_true rfl, Nat.le_of_ble_eq_true rfl⟩) ⟨0, 0, _, _, _, rfl, rfl⟩ PLs.all rfl rfl (Nat.le_of_ble_eq_true rfl) ⟨Nat.zero_le _, Nat.zero_le _⟩ dX0_cable_112 rfl ?_
            refine v_aload_n C0 (pc' := 116) 2 rfl rfl dX0_cable_115 rfl ?_
            refine v_get C0 hK (C := RX0) (T := TX0) (N := 15) (pc' := 119) 0 13 rfl rfl rfl (by decide) in_X0_cable fl_X0_cable_101 rfl dX0_cable_116 rfl ?_
            refine v_world (ws' := wX cI ad U T (s_X0_cable_F F unit port ou op) (s_X0_cable_C C unit port ou op cost) B (s_X0_cable_RU F RU WT unit port ou op) (s_X0_cable_RC F C RU RC WT unit port ou op cost) (s_X0_cable_WU F C RU RC WU WT unit port ou op cost) ST RP RN (s_X0_cable_WT WT) SM (s_X0_cable_CC CC) TR) (by simp only [s_X0_cable, s_X0_cable_F, s_X0_cable_C, s_X0_cable_RU, s_X0_cable_RC, s_X0_cable_WU, s_X0_cable_WT, s_X0_cable_CC, if_neg h1, if_pos h2, if_neg h3, if_pos h4, if_pos h5]) ?_
            exact v_iret C0 hr hlk hK (by simp only [s_X0_cable, s_X0_cable_F, s_X0_cable_C, s_X0_cable_RU, s_X0_cable_RC, s_X0_cable_WU, s_X0_cable_WT, s_X0_cable_CC, if_neg h1, if_pos h2, if_neg h3, if_pos h4, if_pos h5]) dX0_cable_119
          · exact absurd hf2 h5
      · exact absurd h3 hne
    · exact absurd hc2 h2
set_option maxHeartbeats 4000000 in
set_option maxRecDepth 100000 in
theorem kx_X0_cable_IAE (l : Launch) (hst : l.stackTraces = false) (D : va_G) (cI : ClassId) (ad : Nat → Nat) (U : Nat → Int32) (T : Nat → Int32) (F : Nat → Int32) (C : Nat → Int32) (B : Nat → Int32) (RU : Nat → Int32) (RC : Nat → Int32) (WU : Nat → Int32) (ST : Nat → Int32) (RP : Nat → Int32) (RN : Int32) (WT : Nat → Int32) (SM : Nat → Int32) (CC : Int32) (TR : Int32) (unit : Int32) (port : Int32) (ou : Int32) (op : Int32) (cost : Int32) (hb : ¬ (okU unit ∧ okU port ∧ okU ou ∧ okU op ∧ ¬ cost < 1 ∧ cost ≤ 20 ∧ ¬ unit = ou)) : Kx l yX0_cable wsX0_cable 8 123 D (TI cI) [.ref (ad 0), .int unit, .int port, .int ou, .int op, .int cost] (wX cI ad U T F C B RU RC WU ST RP RN WT SM CC TR) xIAE := by
  refine Kx.of (cc := cX0_cable) (maxL := 8) (lv0 := [(0, .ref (ad 0)), (1, .int unit), (2, .int port), (3, .int ou), (4, .int op), (5, .int cost)]) (by decide +kernel) rfl (Nat.le_of_ble_eq_true rfl) rfl ?_
  intro p e s m args below meth c A C0 hT0 hlk hK hA hEN
  refine v_iload_n C0 (pc' := 1) 1 rfl rfl dX0_cable_0 rfl ?_
  refine v_iload_n C0 (pc' := 2) 2 rfl rfl dX0_cable_1 rfl ?_
  by_cases hs : okU unit ∧ okU port
  · refine v_callSi0 C0 (av := [.int unit, .int port]) (rest := []) (ws' := wX cI ad U T F C B RU RC WU ST RP RN WT SM CC TR) (pc' := 5) hK hA (k_X0_slotOf l D cI unit port hs.1 hs.2) (va_cwS 2 C0.2.2.2.2 gX0_cable_X0_slotOf rfl rfl rfl (by decide +kernel) ⟨Nat.le_of_ble_eq_true rfl, Nat.le_of_ble_eq_true rfl⟩) PLs.nil rfl rfl (Nat.le_of_ble_eq_true rfl) ⟨Nat.zero_le _, Nat.zero_le _⟩ dX0_cable_2 rfl ?_
    refine v_istore C0 (lv' := [(6, .int (s_X0_slotOf unit port)), (0, .ref (ad 0)), (1, .int unit), (2, .int port), (3, .int ou), (4, .int op), (5, .int cost)]) (pc' := 7) (by decide) rfl dX0_cable_5 rfl ?_
    refine v_iload_n C0 (pc' := 8) 4 rfl rfl dX0_cable_7 rfl ?_
    refine v_iload C0 (pc' := 10) 5 rfl dX0_cable_8 rfl ?_
    by_cases hs2 : okU ou ∧ okU op
    · refine v_callSi0 C0 (av := [.int ou, .int op]) (rest := []) (ws' := wX cI ad U T F C B RU RC WU ST RP RN WT SM CC TR) (pc' := 13) hK hA (k_X0_slotOf l D cI ou op hs2.1 hs2.2) (va_cwS 2 C0.2.2.2.2 gX0_cable_X0_slotOf rfl rfl rfl (by decide +kernel) ⟨Nat.le_of_ble_eq_true rfl, Nat.le_of_ble_eq_true rfl⟩) PLs.nil rfl rfl (Nat.le_of_ble_eq_true rfl) ⟨Nat.zero_le _, Nat.zero_le _⟩ dX0_cable_10 rfl ?_
      refine v_istore C0 (lv' := [(7, .int (s_X0_slotOf ou op)), (6, .int (s_X0_slotOf unit port)), (0, .ref (ad 0)), (1, .int unit), (2, .int port), (3, .int ou), (4, .int op), (5, .int cost)]) (pc' := 15) (by decide) rfl dX0_cable_13 rfl ?_
      refine v_iload C0 (pc' := 17) 7 rfl dX0_cable_15 rfl ?_
      refine v_iconst C0 (pc' := 18) 1 (by decide) dX0_cable_17 rfl ?_
      refine v_icmp_lt C0 28 (pc' := 21) dX0_cable_18 (by decide) rfl (fun h1 => ?_) (fun h1 => ?_)
      · exact v_throw C0 hst hEN hT0 hlk hK rfl (E := xIAE) (text := "a cost is 1 to 20") (by decide +kernel) xk_X0_cable_IAE xi_X0_cable_IAE xa_X0_cable_IAE hng_IAE hgood_IAE (by decide +kernel) (by decide +kernel) dX0_cable_28 dX0_cable_31 dX0_cable_32 dX0_cable_34 dX0_cable_37 (Nat.le_of_ble_eq_true rfl) (Nat.le_of_ble_eq_true rfl) (Nat.le_refl _) (Nat.le_refl _) (Nat.le_refl _) (Nat.le_refl _)
      · refine v_iload C0 (pc' := 23) 7 rfl dX0_cable_21 rfl ?_
        refine v_bipush C0 (pc' := 25) 20 (by decide) dX0_cable_23 rfl ?_
        refine v_icmp_le C0 38 (pc' := 28) dX0_cable_25 (by decide) rfl (fun h2 => ?_) (fun h2 => ?_)
        · refine v_iload_n C0 (pc' := 39) 3 rfl rfl dX0_cable_38 rfl ?_
          refine v_iload_n C0 (pc' := 40) 5 rfl rfl dX0_cable_39 rfl ?_
          refine v_icmp_ne C0 53 (pc' := 43) dX0_cable_40 (by decide) rfl (fun h3 => ?_) (fun h3 => ?_)
          · exact absurd ⟨hs.1, hs.2, hs2.1, hs2.2, h1, h2, h3⟩ hb
          · exact v_throw C0 hst hEN hT0 hlk hK rfl (E := xIAE) (text := "a cable joins two switches") (by decide +kernel) xk_X0_cable_IAE xi_X0_cable_IAE xa_X0_cable_IAE hng_IAE hgood_IAE (by decide +kernel) (by decide +kernel) dX0_cable_43 dX0_cable_46 dX0_cable_47 dX0_cable_49 dX0_cable_52 (Nat.le_of_ble_eq_true rfl) (Nat.le_of_ble_eq_true rfl) (Nat.le_refl _) (Nat.le_refl _) (Nat.le_refl _) (Nat.le_refl _)
        · exact v_throw C0 hst hEN hT0 hlk hK rfl (E := xIAE) (text := "a cost is 1 to 20") (by decide +kernel) xk_X0_cable_IAE xi_X0_cable_IAE xa_X0_cable_IAE hng_IAE hgood_IAE (by decide +kernel) (by decide +kernel) dX0_cable_28 dX0_cable_31 dX0_cable_32 dX0_cable_34 dX0_cable_37 (Nat.le_of_ble_eq_true rfl) (Nat.le_of_ble_eq_true rfl) (Nat.le_refl _) (Nat.le_refl _) (Nat.le_refl _) (Nat.le_refl _)
    · exact v_callSx_out C0 (av := [.int ou, .int op]) (rest := []) hK hA hEN (kx_X0_slotOf_IAE l hst D cI ou op hs2) (va_cwS 2 C0.2.2.2.2 gX0_cable_X0_slotOf rfl rfl rfl (by decide +kernel) ⟨Nat.le_of_ble_eq_true rfl, Nat.le_of_ble_eq_true rfl⟩) PLs.nil rfl rfl (Nat.le_of_ble_eq_true rfl) ⟨Nat.le_refl _, Nat.le_refl _⟩ dX0_cable_10 hT0 hlk (Nat.le_refl _) (Nat.le_refl _)
  · exact v_callSx_out C0 (av := [.int unit, .int port]) (rest := []) hK hA hEN (kx_X0_slotOf_IAE l hst D cI unit port hs) (va_cwS 2 C0.2.2.2.2 gX0_cable_X0_slotOf rfl rfl rfl (by decide +kernel) ⟨Nat.le_of_ble_eq_true rfl, Nat.le_of_ble_eq_true rfl⟩) PLs.nil rfl rfl (Nat.le_of_ble_eq_true rfl) ⟨Nat.le_refl _, Nat.le_refl _⟩ dX0_cable_2 hT0 hlk (Nat.le_refl _) (Nat.le_refl _)
set_option maxHeartbeats 4000000 in
set_option maxRecDepth 100000 in
theorem kx_X0_cable_ISE (l : Launch) (hst : l.stackTraces = false) (D : va_G) (cI : ClassId) (ad : Nat → Nat) (U : Nat → Int32) (T : Nat → Int32) (F : Nat → Int32) (C : Nat → Int32) (B : Nat → Int32) (RU : Nat → Int32) (RC : Nat → Int32) (WU : Nat → Int32) (ST : Nat → Int32) (RP : Nat → Int32) (RN : Int32) (WT : Nat → Int32) (SM : Nat → Int32) (CC : Int32) (TR : Int32) (unit : Int32) (port : Int32) (ou : Int32) (op : Int32) (cost : Int32) (hu : okU unit) (hp : okU port) (hu2 : okU ou) (hp2 : okU op) (hc1 : ¬ cost < 1) (hc2 : cost ≤ 20) (hne : ¬ unit = ou) (hf : ¬ (s_X0_hasCable F (s_X0_slotOf unit port) = 0 ∧ s_X0_hasCable F (s_X0_slotOf ou op) = 0)) : Kx l yX0_cable wsX0_cable 6 82 D (TI cI) [.ref (ad 0), .int unit, .int port, .int ou, .int op, .int cost] (wX cI ad U T F C B RU RC WU ST RP RN WT SM CC TR) xISE := by
  refine Kx.of (cc := cX0_cable) (maxL := 8) (lv0 := [(0, .ref (ad 0)), (1, .int unit), (2, .int port), (3, .int ou), (4, .int op), (5, .int cost)]) (by decide +kernel) rfl (Nat.le_of_ble_eq_true rfl) rfl ?_
  intro p e s m args below meth c A C0 hT0 hlk hK hA hEN
  refine v_iload_n C0 (pc' := 1) 1 rfl rfl dX0_cable_0 rfl ?_
  refine v_iload_n C0 (pc' := 2) 2 rfl rfl dX0_cable_1 rfl ?_
  refine v_callSi0 C0 (av := [.int unit, .int port]) (rest := []) (ws' := wX cI ad U T F C B RU RC WU ST RP RN WT SM CC TR) (pc' := 5) hK hA (k_X0_slotOf l D cI unit port hu hp) (va_cwS 2 C0.2.2.2.2 gX0_cable_X0_slotOf rfl rfl rfl (by decide +kernel) ⟨Nat.le_of_ble_eq_true rfl, Nat.le_of_ble_eq_true rfl⟩) PLs.nil rfl rfl (Nat.le_of_ble_eq_true rfl) ⟨Nat.zero_le _, Nat.zero_le _⟩ dX0_cable_2 rfl ?_
  refine v_istore C0 (lv' := [(6, .int (s_X0_slotOf unit port)), (0, .ref (ad 0)), (1, .int unit), (2, .int port), (3, .int ou), (4, .int op), (5, .int cost)]) (pc' := 7) (by decide) rfl dX0_cable_5 rfl ?_
  refine v_iload_n C0 (pc' := 8) 4 rfl rfl dX0_cable_7 rfl ?_
  refine v_iload C0 (pc' := 10) 5 rfl dX0_cable_8 rfl ?_
  refine v_callSi0 C0 (av := [.int ou, .int op]) (rest := []) (ws' := wX cI ad U T F C B RU RC WU ST RP RN WT SM CC TR) (pc' := 13) hK hA (k_X0_slotOf l D cI ou op hu2 hp2) (va_cwS 2 C0.2.2.2.2 gX0_cable_X0_slotOf rfl rfl rfl (by decide +kernel) ⟨Nat.le_of_ble_eq_true rfl, Nat.le_of_ble_eq_true rfl⟩) PLs.nil rfl rfl (Nat.le_of_ble_eq_true rfl) ⟨Nat.zero_le _, Nat.zero_le _⟩ dX0_cable_10 rfl ?_
  refine v_istore C0 (lv' := [(7, .int (s_X0_slotOf ou op)), (6, .int (s_X0_slotOf unit port)), (0, .ref (ad 0)), (1, .int unit), (2, .int port), (3, .int ou), (4, .int op), (5, .int cost)]) (pc' := 15) (by decide) rfl dX0_cable_13 rfl ?_
  refine v_iload C0 (pc' := 17) 7 rfl dX0_cable_15 rfl ?_
  refine v_iconst C0 (pc' := 18) 1 (by decide) dX0_cable_17 rfl ?_
  refine v_icmp_lt C0 28 (pc' := 21) dX0_cable_18 (by decide) rfl (fun h1 => ?_) (fun h1 => ?_)
  · exact absurd h1 hc1
  · refine v_iload C0 (pc' := 23) 7 rfl dX0_cable_21 rfl ?_
    refine v_bipush C0 (pc' := 25) 20 (by decide) dX0_cable_23 rfl ?_
    refine v_icmp_le C0 38 (pc' := 28) dX0_cable_25 (by decide) rfl (fun h2 => ?_) (fun h2 => ?_)
    · refine v_iload_n C0 (pc' := 39) 3 rfl rfl dX0_cable_38 rfl ?_
      refine v_iload_n C0 (pc' := 40) 5 rfl rfl dX0_cable_39 rfl ?_
      refine v_icmp_ne C0 53 (pc' := 43) dX0_cable_40 (by decide) rfl (fun h3 => ?_) (fun h3 => ?_)
      · refine v_aload_n C0 (pc' := 54) 2 rfl rfl dX0_cable_53 rfl ?_
        refine v_iload C0 (pc' := 56) 1 rfl dX0_cable_54 rfl ?_
        refine v_callVi0 C0 (av := [.int (s_X0_slotOf unit port)]) (rest := []) (ws' := wX cI ad U T F C B RU RC WU ST RP RN WT SM CC TR) (pc' := 59) hK hA (k_X0_hasCable l D cI ad U T F C B RU RC WU ST RP RN WT SM CC TR (s_X0_slotOf unit port)) (cwV 1 C0.2.2.2.2 gX0_cable_X0_hasCable rfl rfl rfl (by decide +kernel) ⟨Nat.le_of_ble_eq_true rfl, Nat.le_of_ble_eq_true rfl⟩) ⟨0, 0, _, _, _, rfl, rfl⟩ PLs.all rfl rfl (Nat.le_of_ble_eq_true rfl) ⟨Nat.zero_le _, Nat.zero_le _⟩ dX0_cable_56 rfl ?_
        refine v_if_ne C0 71 (pc' := 62) dX0_cable_59 (by decide) rfl (fun h4 => ?_) (fun h4 => ?_)
        · exact v_throw C0 hst hEN hT0 hlk hK rfl (E := xISE) (text := "there is a cable at one of the ports") (by decide +kernel) xk_X0_cable_ISE xi_X0_cable_ISE xa_X0_cable_ISE hng_ISE hgood_ISE (by decide +kernel) (by decide +kernel) dX0_cable_71 dX0_cable_74 dX0_cable_75 dX0_cable_77 dX0_cable_80 (Nat.le_of_ble_eq_true rfl) (Nat.le_of_ble_eq_true rfl) (Nat.le_refl _) (Nat.le_refl _) (Nat.le_refl _) (Nat.le_refl _)
        · refine v_aload_n C0 (pc' := 63) 2 rfl rfl dX0_cable_62 rfl ?_
          refine v_iload C0 (pc' := 65) 0 rfl dX0_cable_63 rfl ?_
          refine v_callVi0 C0 (av := [.int (s_X0_slotOf ou op)]) (rest := []) (ws' := wX cI ad U T F C B RU RC WU ST RP RN WT SM CC TR) (pc' := 68) hK hA (k_X0_hasCable l D cI ad U T F C B RU RC WU ST RP RN WT SM CC TR (s_X0_slotOf ou op)) (cwV 1 C0.2.2.2.2 gX0_cable_X0_hasCable rfl rfl rfl (by decide +kernel) ⟨Nat.le_of_ble_eq_true rfl, Nat.le_of_ble_eq_true rfl⟩) ⟨0, 0, _, _, _, rfl, rfl⟩ PLs.all rfl rfl (Nat.le_of_ble_eq_true rfl) ⟨Nat.zero_le _, Nat.zero_le _⟩ dX0_cable_65 rfl ?_
          refine v_if_eq C0 81 (pc' := 71) dX0_cable_68 (by decide) rfl (fun h5 => ?_) (fun h5 => ?_)
          · exact absurd ⟨h4, h5⟩ hf
          · exact v_throw C0 hst hEN hT0 hlk hK rfl (E := xISE) (text := "there is a cable at one of the ports") (by decide +kernel) xk_X0_cable_ISE xi_X0_cable_ISE xa_X0_cable_ISE hng_ISE hgood_ISE (by decide +kernel) (by decide +kernel) dX0_cable_71 dX0_cable_74 dX0_cable_75 dX0_cable_77 dX0_cable_80 (Nat.le_of_ble_eq_true rfl) (Nat.le_of_ble_eq_true rfl) (Nat.le_refl _) (Nat.le_refl _) (Nat.le_refl _) (Nat.le_refl _)
      · exact absurd h3 hne
    · exact absurd hc2 h2
def s_X0_pull (C : Nat → Int32) (unit : Int32) (port : Int32) : Int32 := xAt 36 C (s_X0_slotWithCable unit port)
def s_X0_pull_F (F : Nat → Int32) (unit : Int32) (port : Int32) : Nat → Int32 := (s_X0_setCable_F (s_X0_setCable_F F (xAt 36 F (s_X0_slotWithCable unit port)) (-1)) (s_X0_slotWithCable unit port) (-1))
def s_X0_pull_C (F : Nat → Int32) (C : Nat → Int32) (unit : Int32) (port : Int32) : Nat → Int32 := (s_X0_setCable_C (s_X0_setCable_C C (xAt 36 F (s_X0_slotWithCable unit port)) 0) (s_X0_slotWithCable unit port) 0)
def s_X0_pull_RU (F : Nat → Int32) (RU : Nat → Int32) (WT : Nat → Int32) (unit : Int32) (port : Int32) : Nat → Int32 := (s_X0_growTree_RU (s_X0_setCable_F (s_X0_setCable_F F (xAt 36 F (s_X0_slotWithCable unit port)) (-1)) (s_X0_slotWithCable unit port) (-1)) RU WT)
def s_X0_pull_RC (F : Nat → Int32) (C : Nat → Int32) (RU : Nat → Int32) (RC : Nat → Int32) (WT : Nat → Int32) (unit : Int32) (port : Int32) : Nat → Int32 := (s_X0_growTree_RC (s_X0_setCable_F (s_X0_setCable_F F (xAt 36 F (s_X0_slotWithCable unit port)) (-1)) (s_X0_slotWithCable unit port) (-1)) (s_X0_setCable_C (s_X0_setCable_C C (xAt 36 F (s_X0_slotWithCable unit port)) 0) (s_X0_slotWithCable unit port) 0) RU RC WT)
def s_X0_pull_WU (F : Nat → Int32) (C : Nat → Int32) (RU : Nat → Int32) (RC : Nat → Int32) (WU : Nat → Int32) (WT : Nat → Int32) (unit : Int32) (port : Int32) : Nat → Int32 := (s_X0_growTree_WU (s_X0_setCable_F (s_X0_setCable_F F (xAt 36 F (s_X0_slotWithCable unit port)) (-1)) (s_X0_slotWithCable unit port) (-1)) (s_X0_setCable_C (s_X0_setCable_C C (xAt 36 F (s_X0_slotWithCable unit port)) 0) (s_X0_slotWithCable unit port) 0) RU RC WU WT)
def s_X0_pull_WT (WT : Nat → Int32) : Nat → Int32 := (s_X0_growTree_WT WT)
def s_X0_pull_CC (CC : Int32) : Int32 := (CC - 1)
set_option maxHeartbeats 4000000 in
set_option maxRecDepth 100000 in
theorem k_X0_pull (l : Launch) (D : va_G) (cI : ClassId) (ad : Nat → Nat) (U : Nat → Int32) (T : Nat → Int32) (F : Nat → Int32) (C : Nat → Int32) (B : Nat → Int32) (RU : Nat → Int32) (RC : Nat → Int32) (WU : Nat → Int32) (ST : Nat → Int32) (RP : Nat → Int32) (RN : Int32) (WT : Nat → Int32) (SM : Nat → Int32) (CC : Int32) (TR : Int32) (unit : Int32) (port : Int32) (hu : okU unit) (hp : okU port) (hc : ¬ s_X0_hasCable F (s_X0_slotOf unit port) = 0) : Ki l yX0_pull wsX0_pull 5 114 0 0 D (TI cI) [.ref (ad 0), .int unit, .int port] (wX cI ad U T F C B RU RC WU ST RP RN WT SM CC TR) (wX cI ad U T (s_X0_pull_F F unit port) (s_X0_pull_C F C unit port) B (s_X0_pull_RU F RU WT unit port) (s_X0_pull_RC F C RU RC WT unit port) (s_X0_pull_WU F C RU RC WU WT unit port) ST RP RN (s_X0_pull_WT WT) SM (s_X0_pull_CC CC) TR) (s_X0_pull C unit port) := by
  refine Ki.of (cc := cX0_pull) (maxL := 5) (rt := .int) (lv0 := [(0, .ref (ad 0)), (1, .int unit), (2, .int port)]) (by decide +kernel) rfl (Nat.le_of_ble_eq_true rfl) rfl ?_
  intro p e s m args below meth c A C0 hr hlk hK hA
  refine v_aload_n C0 (pc' := 1) 0 rfl rfl dX0_pull_0 rfl ?_
  refine v_iload_n C0 (pc' := 2) 1 rfl rfl dX0_pull_1 rfl ?_
  refine v_iload_n C0 (pc' := 3) 2 rfl rfl dX0_pull_2 rfl ?_
  refine v_callVi0 C0 (av := [.int unit, .int port]) (rest := []) (ws' := wX cI ad U T F C B RU RC WU ST RP RN WT SM CC TR) (pc' := 6) hK hA (k_X0_slotWithCable l D cI ad U T F C B RU RC WU ST RP RN WT SM CC TR unit port hu hp hc) (cwV 2 C0.2.2.2.2 gX0_pull_X0_slotWithCable rfl rfl rfl (by decide +kernel) ⟨Nat.le_of_ble_eq_true rfl, Nat.le_of_ble_eq_true rfl⟩) ⟨0, 0, _, _, _, rfl, rfl⟩ PLs.all rfl rfl (Nat.le_of_ble_eq_true rfl) ⟨Nat.zero_le _, Nat.zero_le _⟩ dX0_pull_3 rfl ?_
  refine v_istore_n C0 (lv' := [(3, .int (s_X0_slotWithCable unit port)), (0, .ref (ad 0)), (1, .int unit), (2, .int port)]) (pc' := 7) rfl (by decide) rfl dX0_pull_6 rfl ?_
  refine v_aload_n C0 (pc' := 8) 1 rfl rfl dX0_pull_7 rfl ?_
  refine v_get C0 hK (C := RX0) (T := TX0) (N := 15) (pc' := 11) 0 3 rfl rfl rfl (by decide) in_X0_pull fl_X0_pull_19 rfl dX0_pull_8 rfl ?_
  refine v_iload_n C0 (pc' := 12) 0 rfl rfl dX0_pull_11 rfl ?_
  refine v_callSi0 C0 (av := [.ref (ad 4), .int (s_X0_slotWithCable unit port)]) (rest := []) (ws' := wX cI ad U T F C B RU RC WU ST RP RN WT SM CC TR) (pc' := 15) hK hA (k_X0_at l D cI (ad 4) 36 C (s_X0_slotWithCable unit port) (by decide)) (va_cwS 2 C0.2.2.2.2 gX0_pull_X0_at rfl rfl rfl (by decide +kernel) ⟨Nat.le_of_ble_eq_true rfl, Nat.le_of_ble_eq_true rfl⟩) (PLs.one0 4 rfl) rfl rfl (Nat.le_of_ble_eq_true rfl) ⟨Nat.zero_le _, Nat.zero_le _⟩ dX0_pull_12 rfl ?_
  refine v_istore C0 (lv' := [(4, .int (xAt 36 C (s_X0_slotWithCable unit port))), (3, .int (s_X0_slotWithCable unit port)), (0, .ref (ad 0)), (1, .int unit), (2, .int port)]) (pc' := 17) (by decide) rfl dX0_pull_15 rfl ?_
  refine v_aload_n C0 (pc' := 18) 2 rfl rfl dX0_pull_17 rfl ?_
  refine v_aload_n C0 (pc' := 19) 2 rfl rfl dX0_pull_18 rfl ?_
  refine v_get C0 hK (C := RX0) (T := TX0) (N := 15) (pc' := 22) 0 2 rfl rfl rfl (by decide) in_X0_pull fl_X0_pull_16 rfl dX0_pull_19 rfl ?_
  refine v_iload_n C0 (pc' := 23) 1 rfl rfl dX0_pull_22 rfl ?_
  refine v_callSi0 C0 (av := [.ref (ad 3), .int (s_X0_slotWithCable unit port)]) (rest := [.ref (ad 0)]) (ws' := wX cI ad U T F C B RU RC WU ST RP RN WT SM CC TR) (pc' := 26) hK hA (k_X0_at l D cI (ad 3) 36 F (s_X0_slotWithCable unit port) (by decide)) (va_cwS 2 C0.2.2.2.2 gX0_pull_X0_at rfl rfl rfl (by decide +kernel) ⟨Nat.le_of_ble_eq_true rfl, Nat.le_of_ble_eq_true rfl⟩) (PLs.one0 3 rfl) rfl rfl (Nat.le_of_ble_eq_true rfl) ⟨Nat.zero_le _, Nat.zero_le _⟩ dX0_pull_23 rfl ?_
  refine v_iconst C0 (pc' := 27) (-1) (by decide) dX0_pull_26 rfl ?_
  refine v_iconst C0 (pc' := 28) 0 (by decide) dX0_pull_27 rfl ?_
  refine v_callVv0 C0 (av := [.int (xAt 36 F (s_X0_slotWithCable unit port)), .int (-1), .int 0]) (rest := []) (ws' := wX cI ad U T (s_X0_setCable_F F (xAt 36 F (s_X0_slotWithCable unit port)) (-1)) (s_X0_setCable_C C (xAt 36 F (s_X0_slotWithCable unit port)) 0) B RU RC WU ST RP RN WT SM CC TR) (pc' := 31) hK hA (k_X0_setCable l D cI ad U T F C B RU RC WU ST RP RN WT SM CC TR (xAt 36 F (s_X0_slotWithCable unit port)) (-1) 0) (cwV 3 C0.2.2.2.2 gX0_pull_X0_setCable rfl rfl rfl (by decide +kernel) ⟨Nat.le_of_ble_eq_true rfl, Nat.le_of_ble_eq_true rfl⟩) ⟨0, 0, _, _, _, rfl, rfl⟩ PLs.all rfl rfl (Nat.le_of_ble_eq_true rfl) ⟨Nat.zero_le _, Nat.zero_le _⟩ dX0_pull_28 rfl ?_
  refine v_aload_n C0 (pc' := 32) 2 rfl rfl dX0_pull_31 rfl ?_
  refine v_iload_n C0 (pc' := 33) 1 rfl rfl dX0_pull_32 rfl ?_
  refine v_iconst C0 (pc' := 34) (-1) (by decide) dX0_pull_33 rfl ?_
  refine v_iconst C0 (pc' := 35) 0 (by decide) dX0_pull_34 rfl ?_
  refine v_callVv0 C0 (av := [.int (s_X0_slotWithCable unit port), .int (-1), .int 0]) (rest := []) (ws' := wX cI ad U T (s_X0_setCable_F (s_X0_setCable_F F (xAt 36 F (s_X0_slotWithCable unit port)) (-1)) (s_X0_slotWithCable unit port) (-1)) (s_X0_setCable_C (s_X0_setCable_C C (xAt 36 F (s_X0_slotWithCable unit port)) 0) (s_X0_slotWithCable unit port) 0) B RU RC WU ST RP RN WT SM CC TR) (pc' := 38) hK hA (k_X0_setCable l D cI ad U T (s_X0_setCable_F F (xAt 36 F (s_X0_slotWithCable unit port)) (-1)) (s_X0_setCable_C C (xAt 36 F (s_X0_slotWithCable unit port)) 0) B RU RC WU ST RP RN WT SM CC TR (s_X0_slotWithCable unit port) (-1) 0) (cwV 3 C0.2.2.2.2 gX0_pull_X0_setCable rfl rfl rfl (by decide +kernel) ⟨Nat.le_of_ble_eq_true rfl, Nat.le_of_ble_eq_true rfl⟩) ⟨0, 0, _, _, _, rfl, rfl⟩ PLs.all rfl rfl (Nat.le_of_ble_eq_true rfl) ⟨Nat.zero_le _, Nat.zero_le _⟩ dX0_pull_35 rfl ?_
  refine v_aload_n C0 (pc' := 39) 2 rfl rfl dX0_pull_38 rfl ?_
  refine v_dup C0 (pc' := 40) rfl dX0_pull_39 rfl ?_
  refine v_get C0 hK (C := RX0) (T := TX0) (N := 15) (pc' := 43) 0 13 rfl rfl rfl (by decide) in_X0_pull fl_X0_pull_101 rfl dX0_pull_40 rfl ?_
  refine v_iconst C0 (pc' := 44) 1 (by decide) dX0_pull_43 rfl ?_
  refine v_isub C0 (pc' := 45) dX0_pull_44 rfl ?_
  refine v_put C0 hK (C := RX0) (T := TX0) (N := 15) (ws' := wX cI ad U T (s_X0_setCable_F (s_X0_setCable_F F (xAt 36 F (s_X0_slotWithCable unit port)) (-1)) (s_X0_slotWithCable unit port) (-1)) (s_X0_setCable_C (s_X0_setCable_C C (xAt 36 F (s_X0_slotWithCable unit port)) 0) (s_X0_slotWithCable unit port) 0) B RU RC WU ST RP RN WT SM (CC - 1) TR) (pc' := 48) 0 13 tyX0 rfl rfl rfl (by decide) (Nat.le_of_ble_eq_true rfl) tyX0_ok nmX0 in_X0_pull fl_X0_pull_101 rfl rfl rfl rfl rfl dX0_pull_45 rfl ?_
  refine v_aload_n C0 (pc' := 49) 2 rfl rfl dX0_pull_48 rfl ?_
  refine v_callVv0 C0 (av := []) (rest := []) (ws' := wX cI ad U T (s_X0_setCable_F (s_X0_setCable_F F (xAt 36 F (s_X0_slotWithCable unit port)) (-1)) (s_X0_slotWithCable unit port) (-1)) (s_X0_setCable_C (s_X0_setCable_C C (xAt 36 F (s_X0_slotWithCable unit port)) 0) (s_X0_slotWithCable unit port) 0) B (s_X0_growTree_RU (s_X0_setCable_F (s_X0_setCable_F F (xAt 36 F (s_X0_slotWithCable unit port)) (-1)) (s_X0_slotWithCable unit port) (-1)) RU WT) (s_X0_growTree_RC (s_X0_setCable_F (s_X0_setCable_F F (xAt 36 F (s_X0_slotWithCable unit port)) (-1)) (s_X0_slotWithCable unit port) (-1)) (s_X0_setCable_C (s_X0_setCable_C C (xAt 36 F (s_X0_slotWithCable unit port)) 0) (s_X0_slotWithCable unit port) 0) RU RC WT) (s_X0_growTree_WU (s_X0_setCable_F (s_X0_setCable_F F (xAt 36 F (s_X0_slotWithCable unit port)) (-1)) (s_X0_slotWithCable unit port) (-1)) (s_X0_setCable_C (s_X0_setCable_C C (xAt 36 F (s_X0_slotWithCable unit port)) 0) (s_X0_slotWithCable unit port) 0) RU RC WU WT) ST RP RN (s_X0_growTree_WT WT) SM (CC - 1) TR) (pc' := 52) hK hA (k_X0_growTree l D cI ad U T (s_X0_setCable_F (s_X0_setCable_F F (xAt 36 F (s_X0_slotWithCable unit port)) (-1)) (s_X0_slotWithCable unit port) (-1)) (s_X0_setCable_C (s_X0_setCable_C C (xAt 36 F (s_X0_slotWithCable unit port)) 0) (s_X0_slotWithCable unit port) 0) B RU RC WU ST RP RN WT SM (CC - 1) TR ) (cwV 0 C0.2.2.2.2 gX0_pull_X0_growTree rfl rfl rfl (by decide +kernel) ⟨Nat.le_of_ble_eq_true rfl, Nat.le_of_ble_eq_true rfl⟩) ⟨0, 0, _, _, _, rfl, rfl⟩ PLs.all rfl rfl (Nat.le_of_ble_eq_true rfl) ⟨Nat.zero_le _, Nat.zero_le _⟩ dX0_pull_49 rfl ?_
  refine v_iload C0 (pc' := 54) 0 rfl dX0_pull_52 rfl ?_
  refine v_world (ws' := wX cI ad U T (s_X0_pull_F F unit port) (s_X0_pull_C F C unit port) B (s_X0_pull_RU F RU WT unit port) (s_X0_pull_RC F C RU RC WT unit port) (s_X0_pull_WU F C RU RC WU WT unit port) ST RP RN (s_X0_pull_WT WT) SM (s_X0_pull_CC CC) TR) rfl ?_
  exact v_iret C0 hr hlk hK rfl dX0_pull_54
set_option maxHeartbeats 4000000 in
set_option maxRecDepth 100000 in
theorem kx_X0_pull_IAE (l : Launch) (hst : l.stackTraces = false) (D : va_G) (cI : ClassId) (ad : Nat → Nat) (U : Nat → Int32) (T : Nat → Int32) (F : Nat → Int32) (C : Nat → Int32) (B : Nat → Int32) (RU : Nat → Int32) (RC : Nat → Int32) (WU : Nat → Int32) (ST : Nat → Int32) (RP : Nat → Int32) (RN : Int32) (WT : Nat → Int32) (SM : Nat → Int32) (CC : Int32) (TR : Int32) (unit : Int32) (port : Int32) (hb : ¬ (okU unit ∧ okU port)) : Kx l yX0_pull wsX0_pull 9 146 D (TI cI) [.ref (ad 0), .int unit, .int port] (wX cI ad U T F C B RU RC WU ST RP RN WT SM CC TR) xIAE := by
  refine Kx.of (cc := cX0_pull) (maxL := 5) (lv0 := [(0, .ref (ad 0)), (1, .int unit), (2, .int port)]) (by decide +kernel) rfl (Nat.le_of_ble_eq_true rfl) rfl ?_
  intro p e s m args below meth c A C0 hT0 hlk hK hA hEN
  refine v_aload_n C0 (pc' := 1) 0 rfl rfl dX0_pull_0 rfl ?_
  refine v_iload_n C0 (pc' := 2) 1 rfl rfl dX0_pull_1 rfl ?_
  refine v_iload_n C0 (pc' := 3) 2 rfl rfl dX0_pull_2 rfl ?_
  exact v_callVx_out C0 (av := [.int unit, .int port]) (rest := []) hK hA hEN (kx_X0_slotWithCable_IAE l hst D cI ad U T F C B RU RC WU ST RP RN WT SM CC TR unit port hb) (cwV 2 C0.2.2.2.2 gX0_pull_X0_slotWithCable rfl rfl rfl (by decide +kernel) ⟨Nat.le_of_ble_eq_true rfl, Nat.le_of_ble_eq_true rfl⟩) ⟨0, 0, _, _, _, rfl, rfl⟩ PLs.all rfl rfl (Nat.le_of_ble_eq_true rfl) ⟨Nat.le_refl _, Nat.le_refl _⟩ dX0_pull_3 hT0 hlk (Nat.le_refl _) (Nat.le_refl _)
set_option maxHeartbeats 4000000 in
set_option maxRecDepth 100000 in
theorem kx_X0_pull_NSE (l : Launch) (hst : l.stackTraces = false) (D : va_G) (cI : ClassId) (ad : Nat → Nat) (U : Nat → Int32) (T : Nat → Int32) (F : Nat → Int32) (C : Nat → Int32) (B : Nat → Int32) (RU : Nat → Int32) (RC : Nat → Int32) (WU : Nat → Int32) (ST : Nat → Int32) (RP : Nat → Int32) (RN : Int32) (WT : Nat → Int32) (SM : Nat → Int32) (CC : Int32) (TR : Int32) (unit : Int32) (port : Int32) (hu : okU unit) (hp : okU port) (hc : s_X0_hasCable F (s_X0_slotOf unit port) = 0) : Kx l yX0_pull wsX0_pull 7 105 D (TI cI) [.ref (ad 0), .int unit, .int port] (wX cI ad U T F C B RU RC WU ST RP RN WT SM CC TR) xNSE := by
  refine Kx.of (cc := cX0_pull) (maxL := 5) (lv0 := [(0, .ref (ad 0)), (1, .int unit), (2, .int port)]) (by decide +kernel) rfl (Nat.le_of_ble_eq_true rfl) rfl ?_
  intro p e s m args below meth c A C0 hT0 hlk hK hA hEN
  refine v_aload_n C0 (pc' := 1) 0 rfl rfl dX0_pull_0 rfl ?_
  refine v_iload_n C0 (pc' := 2) 1 rfl rfl dX0_pull_1 rfl ?_
  refine v_iload_n C0 (pc' := 3) 2 rfl rfl dX0_pull_2 rfl ?_
  exact v_callVx_out C0 (av := [.int unit, .int port]) (rest := []) hK hA hEN (kx_X0_slotWithCable_NSE l hst D cI ad U T F C B RU RC WU ST RP RN WT SM CC TR unit port hu hp hc) (cwV 2 C0.2.2.2.2 gX0_pull_X0_slotWithCable rfl rfl rfl (by decide +kernel) ⟨Nat.le_of_ble_eq_true rfl, Nat.le_of_ble_eq_true rfl⟩) ⟨0, 0, _, _, _, rfl, rfl⟩ PLs.all rfl rfl (Nat.le_of_ble_eq_true rfl) ⟨Nat.le_refl _, Nat.le_refl _⟩ dX0_pull_3 hT0 hlk (Nat.le_refl _) (Nat.le_refl _)
def s_X0_isOn (F : Nat → Int32) (WU : Nat → Int32) (TR : Int32) (unit : Int32) (port : Int32) : Int32 := s_X0_hasLiveCable F WU TR (s_X0_slotWithCable unit port)
set_option maxHeartbeats 4000000 in
set_option maxRecDepth 100000 in
theorem k_X0_isOn (l : Launch) (D : va_G) (cI : ClassId) (ad : Nat → Nat) (U : Nat → Int32) (T : Nat → Int32) (F : Nat → Int32) (C : Nat → Int32) (B : Nat → Int32) (RU : Nat → Int32) (RC : Nat → Int32) (WU : Nat → Int32) (ST : Nat → Int32) (RP : Nat → Int32) (RN : Int32) (WT : Nat → Int32) (SM : Nat → Int32) (CC : Int32) (TR : Int32) (unit : Int32) (port : Int32) (hb_TR : TR = 0 ∨ TR = 1) (hu : okU unit) (hp : okU port) (hc : ¬ s_X0_hasCable F (s_X0_slotOf unit port) = 0) : Ki l yX0_isOn wsX0_isOn 3 65 0 0 D (TI cI) [.ref (ad 0), .int unit, .int port] (wX cI ad U T F C B RU RC WU ST RP RN WT SM CC TR) (wX cI ad U T F C B RU RC WU ST RP RN WT SM CC TR) (s_X0_isOn F WU TR unit port) := by
  refine Ki.of (cc := cX0_isOn) (maxL := 3) (rt := .boolean) (lv0 := [(0, .ref (ad 0)), (1, .int unit), (2, .int port)]) (by decide +kernel) rfl (Nat.le_of_ble_eq_true rfl) rfl ?_
  intro p e s m args below meth c A C0 hr hlk hK hA
  refine v_aload_n C0 (pc' := 1) 0 rfl rfl dX0_isOn_0 rfl ?_
  refine v_aload_n C0 (pc' := 2) 0 rfl rfl dX0_isOn_1 rfl ?_
  refine v_iload_n C0 (pc' := 3) 1 rfl rfl dX0_isOn_2 rfl ?_
  refine v_iload_n C0 (pc' := 4) 2 rfl rfl dX0_isOn_3 rfl ?_
  refine v_callVi0 C0 (av := [.int unit, .int port]) (rest := [.ref (ad 0)]) (ws' := wX cI ad U T F C B RU RC WU ST RP RN WT SM CC TR) (pc' := 7) hK hA (k_X0_slotWithCable l D cI ad U T F C B RU RC WU ST RP RN WT SM CC TR unit port hu hp hc) (cwV 2 C0.2.2.2.2 gX0_isOn_X0_slotWithCable rfl rfl rfl (by decide +kernel) ⟨Nat.le_of_ble_eq_true rfl, Nat.le_of_ble_eq_true rfl⟩) ⟨0, 0, _, _, _, rfl, rfl⟩ PLs.all rfl rfl (Nat.le_of_ble_eq_true rfl) ⟨Nat.zero_le _, Nat.zero_le _⟩ dX0_isOn_4 rfl ?_
  refine v_callVi0 C0 (av := [.int (s_X0_slotWithCable unit port)]) (rest := []) (ws' := wX cI ad U T F C B RU RC WU ST RP RN WT SM CC TR) (pc' := 10) hK hA (k_X0_hasLiveCable l D cI ad U T F C B RU RC WU ST RP RN WT SM CC TR (s_X0_slotWithCable unit port) hb_TR) (cwV 1 C0.2.2.2.2 gX0_isOn_X0_hasLiveCable rfl rfl rfl (by decide +kernel) ⟨Nat.le_of_ble_eq_true rfl, Nat.le_of_ble_eq_true rfl⟩) ⟨0, 0, _, _, _, rfl, rfl⟩ PLs.all rfl rfl (Nat.le_of_ble_eq_true rfl) ⟨Nat.zero_le _, Nat.zero_le _⟩ dX0_isOn_7 rfl ?_
  exact v_zret C0 hr hlk hK (b_X0_hasLiveCable F WU TR (s_X0_slotWithCable unit port)) rfl dX0_isOn_10
set_option maxHeartbeats 4000000 in
set_option maxRecDepth 100000 in
theorem kx_X0_isOn_IAE (l : Launch) (hst : l.stackTraces = false) (D : va_G) (cI : ClassId) (ad : Nat → Nat) (U : Nat → Int32) (T : Nat → Int32) (F : Nat → Int32) (C : Nat → Int32) (B : Nat → Int32) (RU : Nat → Int32) (RC : Nat → Int32) (WU : Nat → Int32) (ST : Nat → Int32) (RP : Nat → Int32) (RN : Int32) (WT : Nat → Int32) (SM : Nat → Int32) (CC : Int32) (TR : Int32) (unit : Int32) (port : Int32) (hb : ¬ (okU unit ∧ okU port)) : Kx l yX0_isOn wsX0_isOn 9 146 D (TI cI) [.ref (ad 0), .int unit, .int port] (wX cI ad U T F C B RU RC WU ST RP RN WT SM CC TR) xIAE := by
  refine Kx.of (cc := cX0_isOn) (maxL := 3) (lv0 := [(0, .ref (ad 0)), (1, .int unit), (2, .int port)]) (by decide +kernel) rfl (Nat.le_of_ble_eq_true rfl) rfl ?_
  intro p e s m args below meth c A C0 hT0 hlk hK hA hEN
  refine v_aload_n C0 (pc' := 1) 0 rfl rfl dX0_isOn_0 rfl ?_
  refine v_aload_n C0 (pc' := 2) 0 rfl rfl dX0_isOn_1 rfl ?_
  refine v_iload_n C0 (pc' := 3) 1 rfl rfl dX0_isOn_2 rfl ?_
  refine v_iload_n C0 (pc' := 4) 2 rfl rfl dX0_isOn_3 rfl ?_
  exact v_callVx_out C0 (av := [.int unit, .int port]) (rest := [.ref (ad 0)]) hK hA hEN (kx_X0_slotWithCable_IAE l hst D cI ad U T F C B RU RC WU ST RP RN WT SM CC TR unit port hb) (cwV 2 C0.2.2.2.2 gX0_isOn_X0_slotWithCable rfl rfl rfl (by decide +kernel) ⟨Nat.le_of_ble_eq_true rfl, Nat.le_of_ble_eq_true rfl⟩) ⟨0, 0, _, _, _, rfl, rfl⟩ PLs.all rfl rfl (Nat.le_of_ble_eq_true rfl) ⟨Nat.le_refl _, Nat.le_refl _⟩ dX0_isOn_4 hT0 hlk (Nat.le_refl _) (Nat.le_refl _)
set_option maxHeartbeats 4000000 in
set_option maxRecDepth 100000 in
theorem kx_X0_isOn_NSE (l : Launch) (hst : l.stackTraces = false) (D : va_G) (cI : ClassId) (ad : Nat → Nat) (U : Nat → Int32) (T : Nat → Int32) (F : Nat → Int32) (C : Nat → Int32) (B : Nat → Int32) (RU : Nat → Int32) (RC : Nat → Int32) (WU : Nat → Int32) (ST : Nat → Int32) (RP : Nat → Int32) (RN : Int32) (WT : Nat → Int32) (SM : Nat → Int32) (CC : Int32) (TR : Int32) (unit : Int32) (port : Int32) (hu : okU unit) (hp : okU port) (hc : s_X0_hasCable F (s_X0_slotOf unit port) = 0) : Kx l yX0_isOn wsX0_isOn 7 105 D (TI cI) [.ref (ad 0), .int unit, .int port] (wX cI ad U T F C B RU RC WU ST RP RN WT SM CC TR) xNSE := by
  refine Kx.of (cc := cX0_isOn) (maxL := 3) (lv0 := [(0, .ref (ad 0)), (1, .int unit), (2, .int port)]) (by decide +kernel) rfl (Nat.le_of_ble_eq_true rfl) rfl ?_
  intro p e s m args below meth c A C0 hT0 hlk hK hA hEN
  refine v_aload_n C0 (pc' := 1) 0 rfl rfl dX0_isOn_0 rfl ?_
  refine v_aload_n C0 (pc' := 2) 0 rfl rfl dX0_isOn_1 rfl ?_
  refine v_iload_n C0 (pc' := 3) 1 rfl rfl dX0_isOn_2 rfl ?_
  refine v_iload_n C0 (pc' := 4) 2 rfl rfl dX0_isOn_3 rfl ?_
  exact v_callVx_out C0 (av := [.int unit, .int port]) (rest := [.ref (ad 0)]) hK hA hEN (kx_X0_slotWithCable_NSE l hst D cI ad U T F C B RU RC WU ST RP RN WT SM CC TR unit port hu hp hc) (cwV 2 C0.2.2.2.2 gX0_isOn_X0_slotWithCable rfl rfl rfl (by decide +kernel) ⟨Nat.le_of_ble_eq_true rfl, Nat.le_of_ble_eq_true rfl⟩) ⟨0, 0, _, _, _, rfl, rfl⟩ PLs.all rfl rfl (Nat.le_of_ble_eq_true rfl) ⟨Nat.le_refl _, Nat.le_refl _⟩ dX0_isOn_4 hT0 hlk (Nat.le_refl _) (Nat.le_refl _)
def s_X0_oneSided (T : Nat → Int32) (F : Nat → Int32) (unit : Int32) (port : Int32) : Int32 := s_J6_bitCount_0f7a4 ((xAt 36 T (s_X0_slotWithCable unit port)) ^^^ (xAt 36 T (xAt 36 F (s_X0_slotWithCable unit port))))
set_option maxHeartbeats 4000000 in
set_option maxRecDepth 100000 in
theorem k_X0_oneSided (l : Launch) (D : va_G) (cI : ClassId) (ad : Nat → Nat) (U : Nat → Int32) (T : Nat → Int32) (F : Nat → Int32) (C : Nat → Int32) (B : Nat → Int32) (RU : Nat → Int32) (RC : Nat → Int32) (WU : Nat → Int32) (ST : Nat → Int32) (RP : Nat → Int32) (RN : Int32) (WT : Nat → Int32) (SM : Nat → Int32) (CC : Int32) (TR : Int32) (unit : Int32) (port : Int32) (hu : okU unit) (hp : okU port) (hc : ¬ s_X0_hasCable F (s_X0_slotOf unit port) = 0) : Ki l yX0_oneSided wsX0_oneSided 3 65 0 0 D (TI cI) [.ref (ad 0), .int unit, .int port] (wX cI ad U T F C B RU RC WU ST RP RN WT SM CC TR) (wX cI ad U T F C B RU RC WU ST RP RN WT SM CC TR) (s_X0_oneSided T F unit port) := by
  refine Ki.of (cc := cX0_oneSided) (maxL := 4) (rt := .int) (lv0 := [(0, .ref (ad 0)), (1, .int unit), (2, .int port)]) (by decide +kernel) rfl (Nat.le_of_ble_eq_true rfl) rfl ?_
  intro p e s m args below meth c A C0 hr hlk hK hA
  refine v_aload_n C0 (pc' := 1) 0 rfl rfl dX0_oneSided_0 rfl ?_
  refine v_iload_n C0 (pc' := 2) 1 rfl rfl dX0_oneSided_1 rfl ?_
  refine v_iload_n C0 (pc' := 3) 2 rfl rfl dX0_oneSided_2 rfl ?_
  refine v_callVi0 C0 (av := [.int unit, .int port]) (rest := []) (ws' := wX cI ad U T F C B RU RC WU ST RP RN WT SM CC TR) (pc' := 6) hK hA (k_X0_slotWithCable l D cI ad U T F C B RU RC WU ST RP RN WT SM CC TR unit port hu hp hc) (cwV 2 C0.2.2.2.2 gX0_oneSided_X0_slotWithCable rfl rfl rfl (by decide +kernel) ⟨Nat.le_of_ble_eq_true rfl, Nat.le_of_ble_eq_true rfl⟩) ⟨0, 0, _, _, _, rfl, rfl⟩ PLs.all rfl rfl (Nat.le_of_ble_eq_true rfl) ⟨Nat.zero_le _, Nat.zero_le _⟩ dX0_oneSided_3 rfl ?_
  refine v_istore_n C0 (lv' := [(3, .int (s_X0_slotWithCable unit port)), (0, .ref (ad 0)), (1, .int unit), (2, .int port)]) (pc' := 7) rfl (by decide) rfl dX0_oneSided_6 rfl ?_
  refine v_aload_n C0 (pc' := 8) 1 rfl rfl dX0_oneSided_7 rfl ?_
  refine v_get C0 hK (C := RX0) (T := TX0) (N := 15) (pc' := 11) 0 1 rfl rfl rfl (by decide) in_X0_oneSided fl_X0_oneSided_13 rfl dX0_oneSided_8 rfl ?_
  refine v_iload_n C0 (pc' := 12) 0 rfl rfl dX0_oneSided_11 rfl ?_
  refine v_callSi0 C0 (av := [.ref (ad 2), .int (s_X0_slotWithCable unit port)]) (rest := []) (ws' := wX cI ad U T F C B RU RC WU ST RP RN WT SM CC TR) (pc' := 15) hK hA (k_X0_at l D cI (ad 2) 36 T (s_X0_slotWithCable unit port) (by decide)) (va_cwS 2 C0.2.2.2.2 gX0_oneSided_X0_at rfl rfl rfl (by decide +kernel) ⟨Nat.le_of_ble_eq_true rfl, Nat.le_of_ble_eq_true rfl⟩) (PLs.one0 2 rfl) rfl rfl (Nat.le_of_ble_eq_true rfl) ⟨Nat.zero_le _, Nat.zero_le _⟩ dX0_oneSided_12 rfl ?_
  refine v_aload_n C0 (pc' := 16) 1 rfl rfl dX0_oneSided_15 rfl ?_
  refine v_get C0 hK (C := RX0) (T := TX0) (N := 15) (pc' := 19) 0 1 rfl rfl rfl (by decide) in_X0_oneSided fl_X0_oneSided_13 rfl dX0_oneSided_16 rfl ?_
  refine v_aload_n C0 (pc' := 20) 1 rfl rfl dX0_oneSided_19 rfl ?_
  refine v_get C0 hK (C := RX0) (T := TX0) (N := 15) (pc' := 23) 0 2 rfl rfl rfl (by decide) in_X0_oneSided fl_X0_oneSided_16 rfl dX0_oneSided_20 rfl ?_
  refine v_iload_n C0 (pc' := 24) 0 rfl rfl dX0_oneSided_23 rfl ?_
  refine v_callSi0 C0 (av := [.ref (ad 3), .int (s_X0_slotWithCable unit port)]) (rest := [.ref (ad 2), .int (xAt 36 T (s_X0_slotWithCable unit port))]) (ws' := wX cI ad U T F C B RU RC WU ST RP RN WT SM CC TR) (pc' := 27) hK hA (k_X0_at l D cI (ad 3) 36 F (s_X0_slotWithCable unit port) (by decide)) (va_cwS 2 C0.2.2.2.2 gX0_oneSided_X0_at rfl rfl rfl (by decide +kernel) ⟨Nat.le_of_ble_eq_true rfl, Nat.le_of_ble_eq_true rfl⟩) (PLs.one0 3 rfl) rfl rfl (Nat.le_of_ble_eq_true rfl) ⟨Nat.zero_le _, Nat.zero_le _⟩ dX0_oneSided_24 rfl ?_
  refine v_callSi0 C0 (av := [.ref (ad 2), .int (xAt 36 F (s_X0_slotWithCable unit port))]) (rest := [.int (xAt 36 T (s_X0_slotWithCable unit port))]) (ws' := wX cI ad U T F C B RU RC WU ST RP RN WT SM CC TR) (pc' := 30) hK hA (k_X0_at l D cI (ad 2) 36 T (xAt 36 F (s_X0_slotWithCable unit port)) (by decide)) (va_cwS 2 C0.2.2.2.2 gX0_oneSided_X0_at rfl rfl rfl (by decide +kernel) ⟨Nat.le_of_ble_eq_true rfl, Nat.le_of_ble_eq_true rfl⟩) (PLs.one0 2 rfl) rfl rfl (Nat.le_of_ble_eq_true rfl) ⟨Nat.zero_le _, Nat.zero_le _⟩ dX0_oneSided_27 rfl ?_
  refine v_ixor C0 (pc' := 31) dX0_oneSided_30 rfl ?_
  refine v_callSi0 C0 (av := [.int ((xAt 36 T (s_X0_slotWithCable unit port)) ^^^ (xAt 36 T (xAt 36 F (s_X0_slotWithCable unit port))))]) (rest := []) (ws' := wX cI ad U T F C B RU RC WU ST RP RN WT SM CC TR) (pc' := 34) hK hA (k_J6_bitCount_0f7a4 l D cI ((xAt 36 T (s_X0_slotWithCable unit port)) ^^^ (xAt 36 T (xAt 36 F (s_X0_slotWithCable unit port))))) (va_cwS 1 C0.2.2.2.2 gX0_oneSided_J6_bitCount_0f7a4 rfl rfl rfl (by decide +kernel) ⟨Nat.le_of_ble_eq_true rfl, Nat.le_of_ble_eq_true rfl⟩) PLs.nil rfl rfl (Nat.le_of_ble_eq_true rfl) ⟨Nat.zero_le _, Nat.zero_le _⟩ dX0_oneSided_31 rfl ?_
  exact v_iret C0 hr hlk hK rfl dX0_oneSided_34
set_option maxHeartbeats 4000000 in
set_option maxRecDepth 100000 in
theorem kx_X0_oneSided_IAE (l : Launch) (hst : l.stackTraces = false) (D : va_G) (cI : ClassId) (ad : Nat → Nat) (U : Nat → Int32) (T : Nat → Int32) (F : Nat → Int32) (C : Nat → Int32) (B : Nat → Int32) (RU : Nat → Int32) (RC : Nat → Int32) (WU : Nat → Int32) (ST : Nat → Int32) (RP : Nat → Int32) (RN : Int32) (WT : Nat → Int32) (SM : Nat → Int32) (CC : Int32) (TR : Int32) (unit : Int32) (port : Int32) (hb : ¬ (okU unit ∧ okU port)) : Kx l yX0_oneSided wsX0_oneSided 9 146 D (TI cI) [.ref (ad 0), .int unit, .int port] (wX cI ad U T F C B RU RC WU ST RP RN WT SM CC TR) xIAE := by
  refine Kx.of (cc := cX0_oneSided) (maxL := 4) (lv0 := [(0, .ref (ad 0)), (1, .int unit), (2, .int port)]) (by decide +kernel) rfl (Nat.le_of_ble_eq_true rfl) rfl ?_
  intro p e s m args below meth c A C0 hT0 hlk hK hA hEN
  refine v_aload_n C0 (pc' := 1) 0 rfl rfl dX0_oneSided_0 rfl ?_
  refine v_iload_n C0 (pc' := 2) 1 rfl rfl dX0_oneSided_1 rfl ?_
  refine v_iload_n C0 (pc' := 3) 2 rfl rfl dX0_oneSided_2 rfl ?_
  exact v_callVx_out C0 (av := [.int unit, .int port]) (rest := []) hK hA hEN (kx_X0_slotWithCable_IAE l hst D cI ad U T F C B RU RC WU ST RP RN WT SM CC TR unit port hb) (cwV 2 C0.2.2.2.2 gX0_oneSided_X0_slotWithCable rfl rfl rfl (by decide +kernel) ⟨Nat.le_of_ble_eq_true rfl, Nat.le_of_ble_eq_true rfl⟩) ⟨0, 0, _, _, _, rfl, rfl⟩ PLs.all rfl rfl (Nat.le_of_ble_eq_true rfl) ⟨Nat.le_refl _, Nat.le_refl _⟩ dX0_oneSided_3 hT0 hlk (Nat.le_refl _) (Nat.le_refl _)
set_option maxHeartbeats 4000000 in
set_option maxRecDepth 100000 in
theorem kx_X0_oneSided_NSE (l : Launch) (hst : l.stackTraces = false) (D : va_G) (cI : ClassId) (ad : Nat → Nat) (U : Nat → Int32) (T : Nat → Int32) (F : Nat → Int32) (C : Nat → Int32) (B : Nat → Int32) (RU : Nat → Int32) (RC : Nat → Int32) (WU : Nat → Int32) (ST : Nat → Int32) (RP : Nat → Int32) (RN : Int32) (WT : Nat → Int32) (SM : Nat → Int32) (CC : Int32) (TR : Int32) (unit : Int32) (port : Int32) (hu : okU unit) (hp : okU port) (hc : s_X0_hasCable F (s_X0_slotOf unit port) = 0) : Kx l yX0_oneSided wsX0_oneSided 7 105 D (TI cI) [.ref (ad 0), .int unit, .int port] (wX cI ad U T F C B RU RC WU ST RP RN WT SM CC TR) xNSE := by
  refine Kx.of (cc := cX0_oneSided) (maxL := 4) (lv0 := [(0, .ref (ad 0)), (1, .int unit), (2, .int port)]) (by decide +kernel) rfl (Nat.le_of_ble_eq_true rfl) rfl ?_
  intro p e s m args below meth c A C0 hT0 hlk hK hA hEN
  refine v_aload_n C0 (pc' := 1) 0 rfl rfl dX0_oneSided_0 rfl ?_
  refine v_iload_n C0 (pc' := 2) 1 rfl rfl dX0_oneSided_1 rfl ?_
  refine v_iload_n C0 (pc' := 3) 2 rfl rfl dX0_oneSided_2 rfl ?_
  exact v_callVx_out C0 (av := [.int unit, .int port]) (rest := []) hK hA hEN (kx_X0_slotWithCable_NSE l hst D cI ad U T F C B RU RC WU ST RP RN WT SM CC TR unit port hu hp hc) (cwV 2 C0.2.2.2.2 gX0_oneSided_X0_slotWithCable rfl rfl rfl (by decide +kernel) ⟨Nat.le_of_ble_eq_true rfl, Nat.le_of_ble_eq_true rfl⟩) ⟨0, 0, _, _, _, rfl, rfl⟩ PLs.all rfl rfl (Nat.le_of_ble_eq_true rfl) ⟨Nat.le_refl _, Nat.le_refl _⟩ dX0_oneSided_3 hT0 hlk (Nat.le_refl _) (Nat.le_refl _)
def s_X0_comesAs (U : Nat → Int32) (T : Nat → Int32) (F : Nat → Int32) (unit : Int32) (port : Int32) (lane : Int32) : Int32 := s_X0_laneBeyond U T F (s_X0_slotWithCable unit port) lane
set_option maxHeartbeats 4000000 in
set_option maxRecDepth 100000 in
theorem k_X0_comesAs (l : Launch) (D : va_G) (cI : ClassId) (ad : Nat → Nat) (U : Nat → Int32) (T : Nat → Int32) (F : Nat → Int32) (C : Nat → Int32) (B : Nat → Int32) (RU : Nat → Int32) (RC : Nat → Int32) (WU : Nat → Int32) (ST : Nat → Int32) (RP : Nat → Int32) (RN : Int32) (WT : Nat → Int32) (SM : Nat → Int32) (CC : Int32) (TR : Int32) (unit : Int32) (port : Int32) (lane : Int32) (hl : okL lane) (hu : okU unit) (hp : okU port) (hc : ¬ s_X0_hasCable F (s_X0_slotOf unit port) = 0) : Ki l yX0_comesAs wsX0_comesAs 3 67 0 0 D (TI cI) [.ref (ad 0), .int unit, .int port, .int lane] (wX cI ad U T F C B RU RC WU ST RP RN WT SM CC TR) (wX cI ad U T F C B RU RC WU ST RP RN WT SM CC TR) (s_X0_comesAs U T F unit port lane) := by
  refine Ki.of (cc := cX0_comesAs) (maxL := 4) (rt := .int) (lv0 := [(0, .ref (ad 0)), (1, .int unit), (2, .int port), (3, .int lane)]) (by decide +kernel) rfl (Nat.le_of_ble_eq_true rfl) rfl ?_
  intro p e s m args below meth c A C0 hr hlk hK hA
  refine v_iload_n C0 (pc' := 1) 3 rfl rfl dX0_comesAs_0 rfl ?_
  refine v_callSv0 C0 (av := [.int lane]) (rest := []) (ws' := wX cI ad U T F C B RU RC WU ST RP RN WT SM CC TR) (pc' := 4) hK hA (k_X0_checkLane l D cI lane hl) (va_cwS 1 C0.2.2.2.2 gX0_comesAs_X0_checkLane rfl rfl rfl (by decide +kernel) ⟨Nat.le_of_ble_eq_true rfl, Nat.le_of_ble_eq_true rfl⟩) PLs.nil rfl rfl (Nat.le_of_ble_eq_true rfl) ⟨Nat.zero_le _, Nat.zero_le _⟩ dX0_comesAs_1 rfl ?_
  refine v_aload_n C0 (pc' := 5) 0 rfl rfl dX0_comesAs_4 rfl ?_
  refine v_aload_n C0 (pc' := 6) 0 rfl rfl dX0_comesAs_5 rfl ?_
  refine v_iload_n C0 (pc' := 7) 1 rfl rfl dX0_comesAs_6 rfl ?_
  refine v_iload_n C0 (pc' := 8) 2 rfl rfl dX0_comesAs_7 rfl ?_
  refine v_callVi0 C0 (av := [.int unit, .int port]) (rest := [.ref (ad 0)]) (ws' := wX cI ad U T F C B RU RC WU ST RP RN WT SM CC TR) (pc' := 11) hK hA (k_X0_slotWithCable l D cI ad U T F C B RU RC WU ST RP RN WT SM CC TR unit port hu hp hc) (cwV 2 C0.2.2.2.2 gX0_comesAs_X0_slotWithCable rfl rfl rfl (by decide +kernel) ⟨Nat.le_of_ble_eq_true rfl, Nat.le_of_ble_eq_true rfl⟩) ⟨0, 0, _, _, _, rfl, rfl⟩ PLs.all rfl rfl (Nat.le_of_ble_eq_true rfl) ⟨Nat.zero_le _, Nat.zero_le _⟩ dX0_comesAs_8 rfl ?_
  refine v_iload_n C0 (pc' := 12) 3 rfl rfl dX0_comesAs_11 rfl ?_
  refine v_callVi0 C0 (av := [.int (s_X0_slotWithCable unit port), .int lane]) (rest := []) (ws' := wX cI ad U T F C B RU RC WU ST RP RN WT SM CC TR) (pc' := 15) hK hA (k_X0_laneBeyond l D cI ad U T F C B RU RC WU ST RP RN WT SM CC TR (s_X0_slotWithCable unit port) lane) (cwV 2 C0.2.2.2.2 gX0_comesAs_X0_laneBeyond rfl rfl rfl (by decide +kernel) ⟨Nat.le_of_ble_eq_true rfl, Nat.le_of_ble_eq_true rfl⟩) ⟨0, 0, _, _, _, rfl, rfl⟩ PLs.all rfl rfl (Nat.le_of_ble_eq_true rfl) ⟨Nat.zero_le _, Nat.zero_le _⟩ dX0_comesAs_12 rfl ?_
  exact v_iret C0 hr hlk hK rfl dX0_comesAs_15
set_option maxHeartbeats 4000000 in
set_option maxRecDepth 100000 in
theorem kx_X0_comesAs_IAE (l : Launch) (hst : l.stackTraces = false) (D : va_G) (cI : ClassId) (ad : Nat → Nat) (U : Nat → Int32) (T : Nat → Int32) (F : Nat → Int32) (C : Nat → Int32) (B : Nat → Int32) (RU : Nat → Int32) (RC : Nat → Int32) (WU : Nat → Int32) (ST : Nat → Int32) (RP : Nat → Int32) (RN : Int32) (WT : Nat → Int32) (SM : Nat → Int32) (CC : Int32) (TR : Int32) (unit : Int32) (port : Int32) (lane : Int32) (hb : ¬ (okL lane ∧ okU unit ∧ okU port)) : Kx l yX0_comesAs wsX0_comesAs 9 146 D (TI cI) [.ref (ad 0), .int unit, .int port, .int lane] (wX cI ad U T F C B RU RC WU ST RP RN WT SM CC TR) xIAE := by
  refine Kx.of (cc := cX0_comesAs) (maxL := 4) (lv0 := [(0, .ref (ad 0)), (1, .int unit), (2, .int port), (3, .int lane)]) (by decide +kernel) rfl (Nat.le_of_ble_eq_true rfl) rfl ?_
  intro p e s m args below meth c A C0 hT0 hlk hK hA hEN
  refine v_iload_n C0 (pc' := 1) 3 rfl rfl dX0_comesAs_0 rfl ?_
  by_cases hl : okL lane
  · refine v_callSv0 C0 (av := [.int lane]) (rest := []) (ws' := wX cI ad U T F C B RU RC WU ST RP RN WT SM CC TR) (pc' := 4) hK hA (k_X0_checkLane l D cI lane hl) (va_cwS 1 C0.2.2.2.2 gX0_comesAs_X0_checkLane rfl rfl rfl (by decide +kernel) ⟨Nat.le_of_ble_eq_true rfl, Nat.le_of_ble_eq_true rfl⟩) PLs.nil rfl rfl (Nat.le_of_ble_eq_true rfl) ⟨Nat.zero_le _, Nat.zero_le _⟩ dX0_comesAs_1 rfl ?_
    refine v_aload_n C0 (pc' := 5) 0 rfl rfl dX0_comesAs_4 rfl ?_
    refine v_aload_n C0 (pc' := 6) 0 rfl rfl dX0_comesAs_5 rfl ?_
    refine v_iload_n C0 (pc' := 7) 1 rfl rfl dX0_comesAs_6 rfl ?_
    refine v_iload_n C0 (pc' := 8) 2 rfl rfl dX0_comesAs_7 rfl ?_
    exact v_callVx_out C0 (av := [.int unit, .int port]) (rest := [.ref (ad 0)]) hK hA hEN (kx_X0_slotWithCable_IAE l hst D cI ad U T F C B RU RC WU ST RP RN WT SM CC TR unit port (fun q => hb ⟨hl, q⟩)) (cwV 2 C0.2.2.2.2 gX0_comesAs_X0_slotWithCable rfl rfl rfl (by decide +kernel) ⟨Nat.le_of_ble_eq_true rfl, Nat.le_of_ble_eq_true rfl⟩) ⟨0, 0, _, _, _, rfl, rfl⟩ PLs.all rfl rfl (Nat.le_of_ble_eq_true rfl) ⟨Nat.le_refl _, Nat.le_refl _⟩ dX0_comesAs_8 hT0 hlk (Nat.le_refl _) (Nat.le_refl _)
  · exact v_callSx_out C0 (av := [.int lane]) (rest := []) hK hA hEN (kx_X0_checkLane_IAE l hst D cI lane hl) (va_cwS 1 C0.2.2.2.2 gX0_comesAs_X0_checkLane rfl rfl rfl (by decide +kernel) ⟨Nat.le_of_ble_eq_true rfl, Nat.le_of_ble_eq_true rfl⟩) PLs.nil rfl rfl (Nat.le_of_ble_eq_true rfl) ⟨Nat.le_refl _, Nat.le_refl _⟩ dX0_comesAs_1 hT0 hlk (Nat.le_refl _) (Nat.le_refl _)
set_option maxHeartbeats 4000000 in
set_option maxRecDepth 100000 in
theorem kx_X0_comesAs_NSE (l : Launch) (hst : l.stackTraces = false) (D : va_G) (cI : ClassId) (ad : Nat → Nat) (U : Nat → Int32) (T : Nat → Int32) (F : Nat → Int32) (C : Nat → Int32) (B : Nat → Int32) (RU : Nat → Int32) (RC : Nat → Int32) (WU : Nat → Int32) (ST : Nat → Int32) (RP : Nat → Int32) (RN : Int32) (WT : Nat → Int32) (SM : Nat → Int32) (CC : Int32) (TR : Int32) (unit : Int32) (port : Int32) (lane : Int32) (hl : okL lane) (hu : okU unit) (hp : okU port) (hc : s_X0_hasCable F (s_X0_slotOf unit port) = 0) : Kx l yX0_comesAs wsX0_comesAs 7 105 D (TI cI) [.ref (ad 0), .int unit, .int port, .int lane] (wX cI ad U T F C B RU RC WU ST RP RN WT SM CC TR) xNSE := by
  refine Kx.of (cc := cX0_comesAs) (maxL := 4) (lv0 := [(0, .ref (ad 0)), (1, .int unit), (2, .int port), (3, .int lane)]) (by decide +kernel) rfl (Nat.le_of_ble_eq_true rfl) rfl ?_
  intro p e s m args below meth c A C0 hT0 hlk hK hA hEN
  refine v_iload_n C0 (pc' := 1) 3 rfl rfl dX0_comesAs_0 rfl ?_
  refine v_callSv0 C0 (av := [.int lane]) (rest := []) (ws' := wX cI ad U T F C B RU RC WU ST RP RN WT SM CC TR) (pc' := 4) hK hA (k_X0_checkLane l D cI lane hl) (va_cwS 1 C0.2.2.2.2 gX0_comesAs_X0_checkLane rfl rfl rfl (by decide +kernel) ⟨Nat.le_of_ble_eq_true rfl, Nat.le_of_ble_eq_true rfl⟩) PLs.nil rfl rfl (Nat.le_of_ble_eq_true rfl) ⟨Nat.zero_le _, Nat.zero_le _⟩ dX0_comesAs_1 rfl ?_
  refine v_aload_n C0 (pc' := 5) 0 rfl rfl dX0_comesAs_4 rfl ?_
  refine v_aload_n C0 (pc' := 6) 0 rfl rfl dX0_comesAs_5 rfl ?_
  refine v_iload_n C0 (pc' := 7) 1 rfl rfl dX0_comesAs_6 rfl ?_
  refine v_iload_n C0 (pc' := 8) 2 rfl rfl dX0_comesAs_7 rfl ?_
  exact v_callVx_out C0 (av := [.int unit, .int port]) (rest := [.ref (ad 0)]) hK hA hEN (kx_X0_slotWithCable_NSE l hst D cI ad U T F C B RU RC WU ST RP RN WT SM CC TR unit port hu hp hc) (cwV 2 C0.2.2.2.2 gX0_comesAs_X0_slotWithCable rfl rfl rfl (by decide +kernel) ⟨Nat.le_of_ble_eq_true rfl, Nat.le_of_ble_eq_true rfl⟩) ⟨0, 0, _, _, _, rfl, rfl⟩ PLs.all rfl rfl (Nat.le_of_ble_eq_true rfl) ⟨Nat.le_refl _, Nat.le_refl _⟩ dX0_comesAs_8 hT0 hlk (Nat.le_refl _) (Nat.le_refl _)
def s_X0_tree (TR : Int32) : Int32 := TR
def s_X0_tree_TR (b : Int32) : Int32 := b
set_option maxHeartbeats 4000000 in
set_option maxRecDepth 100000 in
theorem k_X0_tree (l : Launch) (D : va_G) (cI : ClassId) (ad : Nat → Nat) (U : Nat → Int32) (T : Nat → Int32) (F : Nat → Int32) (C : Nat → Int32) (B : Nat → Int32) (RU : Nat → Int32) (RC : Nat → Int32) (WU : Nat → Int32) (ST : Nat → Int32) (RP : Nat → Int32) (RN : Int32) (WT : Nat → Int32) (SM : Nat → Int32) (CC : Int32) (TR : Int32) (b : Int32) (hb_b : b = 0 ∨ b = 1) (hb_TR : TR = 0 ∨ TR = 1) : Ki l yX0_tree wsX0_tree 0 0 0 0 D (TI cI) [.ref (ad 0), .int b] (wX cI ad U T F C B RU RC WU ST RP RN WT SM CC TR) (wX cI ad U T F C B RU RC WU ST RP RN WT SM CC (s_X0_tree_TR b)) (s_X0_tree TR) := by
  refine Ki.of (cc := cX0_tree) (maxL := 3) (rt := .boolean) (lv0 := [(0, .ref (ad 0)), (1, .int b)]) (by decide +kernel) rfl (Nat.le_of_ble_eq_true rfl) rfl ?_
  intro p e s m args below meth c A C0 hr hlk hK hA
  refine v_aload_n C0 (pc' := 1) 0 rfl rfl dX0_tree_0 rfl ?_
  refine v_get C0 hK (C := RX0) (T := TX0) (N := 15) (pc' := 4) 0 14 rfl rfl rfl (by decide) in_X0_tree fl_X0_tree_108 rfl dX0_tree_1 rfl ?_
  refine v_istore_n C0 (lv' := [(2, .int TR), (0, .ref (ad 0)), (1, .int b)]) (pc' := 5) rfl (by decide) rfl dX0_tree_4 rfl ?_
  refine v_aload_n C0 (pc' := 6) 1 rfl rfl dX0_tree_5 rfl ?_
  refine v_iload_n C0 (pc' := 7) 2 rfl rfl dX0_tree_6 rfl ?_
  refine v_put C0 hK (C := RX0) (T := TX0) (N := 15) (ws' := wX cI ad U T F C B RU RC WU ST RP RN WT SM CC b) (pc' := 10) 0 14 tyX0 rfl rfl rfl (by decide) (Nat.le_of_ble_eq_true rfl) tyX0_ok nmX0 in_X0_tree fl_X0_tree_108 rfl rfl rfl (by rcases hb_b with h | h <;> rw [h] <;> rfl) (by rcases hb_b with h | h <;> rw [h] <;> rfl) dX0_tree_7 rfl ?_
  refine v_iload_n C0 (pc' := 11) 0 rfl rfl dX0_tree_10 rfl ?_
  refine v_world (ws' := wX cI ad U T F C B RU RC WU ST RP RN WT SM CC (s_X0_tree_TR b)) rfl ?_
  exact v_zret C0 hr hlk hK hb_TR rfl dX0_tree_11
def s_X0_note (B : Nat → Int32) (unit : Int32) (port : Int32) : Int32 := if (xAt 36 B (s_X0_slotOf unit port)) = (-1) then 0 else 1
def s_X0_note_B (B : Nat → Int32) (unit : Int32) (port : Int32) (ou : Int32) (op : Int32) : Nat → Int32 := if ou = (-1) then ((xPut 36 B (s_X0_slotOf unit port) (-1))) else ((xPut 36 B (s_X0_slotOf unit port) (s_X0_endName (s_X0_slotOf ou op))))
set_option maxHeartbeats 4000000 in
set_option maxRecDepth 100000 in
theorem k_X0_note (l : Launch) (D : va_G) (cI : ClassId) (ad : Nat → Nat) (U : Nat → Int32) (T : Nat → Int32) (F : Nat → Int32) (C : Nat → Int32) (B : Nat → Int32) (RU : Nat → Int32) (RC : Nat → Int32) (WU : Nat → Int32) (ST : Nat → Int32) (RP : Nat → Int32) (RN : Int32) (WT : Nat → Int32) (SM : Nat → Int32) (CC : Int32) (TR : Int32) (unit : Int32) (port : Int32) (ou : Int32) (op : Int32) (hu : okU unit) (hp : okU port) (ho : ou = -1 ∨ (okU ou ∧ okU op)) : Ki l yX0_note wsX0_note 2 41 0 0 D (TI cI) [.ref (ad 0), .int unit, .int port, .int ou, .int op] (wX cI ad U T F C B RU RC WU ST RP RN WT SM CC TR) (wX cI ad U T F C (s_X0_note_B B unit port ou op) RU RC WU ST RP RN WT SM CC TR) (s_X0_note B unit port) := by
  refine Ki.of (cc := cX0_note) (maxL := 8) (rt := .boolean) (lv0 := [(0, .ref (ad 0)), (1, .int unit), (2, .int port), (3, .int ou), (4, .int op)]) (by decide +kernel) rfl (Nat.le_of_ble_eq_true rfl) rfl ?_
  intro p e s m args below meth c A C0 hr hlk hK hA
  refine v_iload_n C0 (pc' := 1) 1 rfl rfl dX0_note_0 rfl ?_
  refine v_iload_n C0 (pc' := 2) 2 rfl rfl dX0_note_1 rfl ?_
  refine v_callSi0 C0 (av := [.int unit, .int port]) (rest := []) (ws' := wX cI ad U T F C B RU RC WU ST RP RN WT SM CC TR) (pc' := 5) hK hA (k_X0_slotOf l D cI unit port hu hp) (va_cwS 2 C0.2.2.2.2 gX0_note_X0_slotOf rfl rfl rfl (by decide +kernel) ⟨Nat.le_of_ble_eq_true rfl, Nat.le_of_ble_eq_true rfl⟩) PLs.nil rfl rfl (Nat.le_of_ble_eq_true rfl) ⟨Nat.zero_le _, Nat.zero_le _⟩ dX0_note_2 rfl ?_
  refine v_istore C0 (lv' := [(5, .int (s_X0_slotOf unit port)), (0, .ref (ad 0)), (1, .int unit), (2, .int port), (3, .int ou), (4, .int op)]) (pc' := 7) (by decide) rfl dX0_note_5 rfl ?_
  refine v_iload_n C0 (pc' := 8) 4 rfl rfl dX0_note_7 rfl ?_
  refine v_iconst C0 (pc' := 9) (-1) (by decide) dX0_note_8 rfl ?_
  refine v_icmp_ne C0 16 (pc' := 12) dX0_note_9 (by decide) rfl (fun h1 => ?_) (fun h1 => ?_)
  · refine v_iload_n C0 (pc' := 17) 4 rfl rfl dX0_note_16 rfl ?_
    refine v_iload C0 (pc' := 19) 5 rfl dX0_note_17 rfl ?_
    refine v_callSi0 C0 (av := [.int ou, .int op]) (rest := []) (ws' := wX cI ad U T F C B RU RC WU ST RP RN WT SM CC TR) (pc' := 22) hK hA (k_X0_slotOf l D cI ou op ((ho.resolve_left h1).1) ((ho.resolve_left h1).2)) (va_cwS 2 C0.2.2.2.2 gX0_note_X0_slotOf rfl rfl rfl (by decide +kernel) ⟨Nat.le_of_ble_eq_true rfl, Nat.le_of_ble_eq_true rfl⟩) PLs.nil rfl rfl (Nat.le_of_ble_eq_true rfl) ⟨Nat.zero_le _, Nat.zero_le _⟩ dX0_note_19 rfl ?_
    refine v_callSi0 C0 (av := [.int (s_X0_slotOf ou op)]) (rest := []) (ws' := wX cI ad U T F C B RU RC WU ST RP RN WT SM CC TR) (pc' := 25) hK hA (k_X0_endName l D cI (s_X0_slotOf ou op)) (va_cwS 1 C0.2.2.2.2 gX0_note_X0_endName rfl rfl rfl (by decide +kernel) ⟨Nat.le_of_ble_eq_true rfl, Nat.le_of_ble_eq_true rfl⟩) PLs.nil rfl rfl (Nat.le_of_ble_eq_true rfl) ⟨Nat.zero_le _, Nat.zero_le _⟩ dX0_note_22 rfl ?_
    refine v_istore C0 (lv' := [(6, .int (s_X0_endName (s_X0_slotOf ou op))), (5, .int (s_X0_slotOf unit port)), (0, .ref (ad 0)), (1, .int unit), (2, .int port), (3, .int ou), (4, .int op)]) (pc' := 27) (by decide) rfl dX0_note_25 rfl ?_
    refine v_aload_n C0 (pc' := 28) 2 rfl rfl dX0_note_27 rfl ?_
    refine v_get C0 hK (C := RX0) (T := TX0) (N := 15) (pc' := 31) 0 4 rfl rfl rfl (by decide) in_X0_note fl_X0_note_22 rfl dX0_note_28 rfl ?_
    refine v_iload C0 (pc' := 33) 1 rfl dX0_note_31 rfl ?_
    refine v_callSi0 C0 (av := [.ref (ad 5), .int (s_X0_slotOf unit port)]) (rest := []) (ws' := wX cI ad U T F C B RU RC WU ST RP RN WT SM CC TR) (pc' := 36) hK hA (k_X0_at l D cI (ad 5) 36 B (s_X0_slotOf unit port) (by decide)) (va_cwS 2 C0.2.2.2.2 gX0_note_X0_at rfl rfl rfl (by decide +kernel) ⟨Nat.le_of_ble_eq_true rfl, Nat.le_of_ble_eq_true rfl⟩) (PLs.one0 5 rfl) rfl rfl (Nat.le_of_ble_eq_true rfl) ⟨Nat.zero_le _, Nat.zero_le _⟩ dX0_note_33 rfl ?_
    refine v_iconst C0 (pc' := 37) (-1) (by decide) dX0_note_36 rfl ?_
    refine v_icmp_eq C0 44 (pc' := 40) dX0_note_37 (by decide) rfl (fun h2 => ?_) (fun h2 => ?_)
    · refine v_iconst C0 (pc' := 45) 0 (by decide) dX0_note_44 rfl ?_
      refine v_istore C0 (lv' := [(7, .int 0), (6, .int (s_X0_endName (s_X0_slotOf ou op))), (5, .int (s_X0_slotOf unit port)), (0, .ref (ad 0)), (1, .int unit), (2, .int port), (3, .int ou), (4, .int op)]) (pc' := 47) (by decide) rfl dX0_note_45 rfl ?_
      refine v_aload_n C0 (pc' := 48) 3 rfl rfl dX0_note_47 rfl ?_
      refine v_get C0 hK (C := RX0) (T := TX0) (N := 15) (pc' := 51) 0 4 rfl rfl rfl (by decide) in_X0_note fl_X0_note_22 rfl dX0_note_48 rfl ?_
      refine v_iload C0 (pc' := 53) 2 rfl dX0_note_51 rfl ?_
      refine v_iload C0 (pc' := 55) 1 rfl dX0_note_53 rfl ?_
      refine v_callSv0 C0 (av := [.ref (ad 5), .int (s_X0_slotOf unit port), .int (s_X0_endName (s_X0_slotOf ou op))]) (rest := []) (ws' := wX cI ad U T F C (xPut 36 B (s_X0_slotOf unit port) (s_X0_endName (s_X0_slotOf ou op))) RU RC WU ST RP RN WT SM CC TR) (pc' := 58) hK hA (k_X0_put l D cI (ad 5) 36 B (s_X0_slotOf unit port) (s_X0_endName (s_X0_slotOf ou op)) (by decide)) (va_cwS 3 C0.2.2.2.2 gX0_note_X0_put rfl rfl rfl (by decide +kernel) ⟨Nat.le_of_ble_eq_true rfl, Nat.le_of_ble_eq_true rfl⟩) (PLs.one 5 rfl) rfl rfl (Nat.le_of_ble_eq_true rfl) ⟨Nat.zero_le _, Nat.zero_le _⟩ dX0_note_55 rfl ?_
      refine v_iload C0 (pc' := 60) 0 rfl dX0_note_58 rfl ?_
      refine v_world (ws' := wX cI ad U T F C (s_X0_note_B B unit port ou op) RU RC WU ST RP RN WT SM CC TR) (by simp only [s_X0_note, s_X0_note_B, if_neg h1, if_pos h2]) ?_
      exact v_zret C0 hr hlk hK (Or.inl rfl : (0 : Int32) = 0 ∨ (0 : Int32) = 1) (by simp only [s_X0_note, s_X0_note_B, if_neg h1, if_pos h2]) dX0_note_60
    · refine v_iconst C0 (pc' := 41) 1 (by decide) dX0_note_40 rfl ?_
      refine v_goto C0 45 dX0_note_41 (by decide) ?_
      refine v_istore C0 (lv' := [(7, .int 1), (6, .int (s_X0_endName (s_X0_slotOf ou op))), (5, .int (s_X0_slotOf unit port)), (0, .ref (ad 0)), (1, .int unit), (2, .int port), (3, .int ou), (4, .int op)]) (pc' := 47) (by decide) rfl dX0_note_45 rfl ?_
      refine v_aload_n C0 (pc' := 48) 3 rfl rfl dX0_note_47 rfl ?_
      refine v_get C0 hK (C := RX0) (T := TX0) (N := 15) (pc' := 51) 0 4 rfl rfl rfl (by decide) in_X0_note fl_X0_note_22 rfl dX0_note_48 rfl ?_
      refine v_iload C0 (pc' := 53) 2 rfl dX0_note_51 rfl ?_
      refine v_iload C0 (pc' := 55) 1 rfl dX0_note_53 rfl ?_
      refine v_callSv0 C0 (av := [.ref (ad 5), .int (s_X0_slotOf unit port), .int (s_X0_endName (s_X0_slotOf ou op))]) (rest := []) (ws' := wX cI ad U T F C (xPut 36 B (s_X0_slotOf unit port) (s_X0_endName (s_X0_slotOf ou op))) RU RC WU ST RP RN WT SM CC TR) (pc' := 58) hK hA (k_X0_put l D cI (ad 5) 36 B (s_X0_slotOf unit port) (s_X0_endName (s_X0_slotOf ou op)) (by decide)) (va_cwS 3 C0.2.2.2.2 gX0_note_X0_put rfl rfl rfl (by decide +kernel) ⟨Nat.le_of_ble_eq_true rfl, Nat.le_of_ble_eq_true rfl⟩) (PLs.one 5 rfl) rfl rfl (Nat.le_of_ble_eq_true rfl) ⟨Nat.zero_le _, Nat.zero_le _⟩ dX0_note_55 rfl ?_
      refine v_iload C0 (pc' := 60) 0 rfl dX0_note_58 rfl ?_
      refine v_world (ws' := wX cI ad U T F C (s_X0_note_B B unit port ou op) RU RC WU ST RP RN WT SM CC TR) (by simp only [s_X0_note, s_X0_note_B, if_neg h1, if_neg h2]) ?_
      exact v_zret C0 hr hlk hK (Or.inr rfl : (1 : Int32) = 0 ∨ (1 : Int32) = 1) (by simp only [s_X0_note, s_X0_note_B, if_neg h1, if_neg h2]) dX0_note_60
  · refine v_iconst C0 (pc' := 13) (-1) (by decide) dX0_note_12 rfl ?_
    refine v_goto C0 25 dX0_note_13 (by decide) ?_
    refine v_istore C0 (lv' := [(6, .int (-1)), (5, .int (s_X0_slotOf unit port)), (0, .ref (ad 0)), (1, .int unit), (2, .int port), (3, .int ou), (4, .int op)]) (pc' := 27) (by decide) rfl dX0_note_25 rfl ?_
    refine v_aload_n C0 (pc' := 28) 2 rfl rfl dX0_note_27 rfl ?_
    refine v_get C0 hK (C := RX0) (T := TX0) (N := 15) (pc' := 31) 0 4 rfl rfl rfl (by decide) in_X0_note fl_X0_note_22 rfl dX0_note_28 rfl ?_
    refine v_iload C0 (pc' := 33) 1 rfl dX0_note_31 rfl ?_
    refine v_callSi0 C0 (av := [.ref (ad 5), .int (s_X0_slotOf unit port)]) (rest := []) (ws' := wX cI ad U T F C B RU RC WU ST RP RN WT SM CC TR) (pc' := 36) hK hA (k_X0_at l D cI (ad 5) 36 B (s_X0_slotOf unit port) (by decide)) (va_cwS 2 C0.2.2.2.2 gX0_note_X0_at rfl rfl rfl (by decide +kernel) ⟨Nat.le_of_ble_eq_true rfl, Nat.le_of_ble_eq_true rfl⟩) (PLs.one0 5 rfl) rfl rfl (Nat.le_of_ble_eq_true rfl) ⟨Nat.zero_le _, Nat.zero_le _⟩ dX0_note_33 rfl ?_
    refine v_iconst C0 (pc' := 37) (-1) (by decide) dX0_note_36 rfl ?_
    refine v_icmp_eq C0 44 (pc' := 40) dX0_note_37 (by decide) rfl (fun h3 => ?_) (fun h3 => ?_)
    · refine v_iconst C0 (pc' := 45) 0 (by decide) dX0_note_44 rfl ?_
      refine v_istore C0 (lv' := [(7, .int 0), (6, .int (-1)), (5, .int (s_X0_slotOf unit port)), (0, .ref (ad 0)), (1, .int unit), (2, .int port), (3, .int ou), (4, .int op)]) (pc' := 47) (by decide) rfl dX0_note_45 rfl ?_
      refine v_aload_n C0 (pc' := 48) 3 rfl rfl dX0_note_47 rfl ?_
      refine v_get C0 hK (C := RX0) (T := TX0) (N := 15) (pc' := 51) 0 4 rfl rfl rfl (by decide) in_X0_note fl_X0_note_22 rfl dX0_note_48 rfl ?_
      refine v_iload C0 (pc' := 53) 2 rfl dX0_note_51 rfl ?_
      refine v_iload C0 (pc' := 55) 1 rfl dX0_note_53 rfl ?_
      refine v_callSv0 C0 (av := [.ref (ad 5), .int (s_X0_slotOf unit port), .int (-1)]) (rest := []) (ws' := wX cI ad U T F C (xPut 36 B (s_X0_slotOf unit port) (-1)) RU RC WU ST RP RN WT SM CC TR) (pc' := 58) hK hA (k_X0_put l D cI (ad 5) 36 B (s_X0_slotOf unit port) (-1) (by decide)) (va_cwS 3 C0.2.2.2.2 gX0_note_X0_put rfl rfl rfl (by decide +kernel) ⟨Nat.le_of_ble_eq_true rfl, Nat.le_of_ble_eq_true rfl⟩) (PLs.one 5 rfl) rfl rfl (Nat.le_of_ble_eq_true rfl) ⟨Nat.zero_le _, Nat.zero_le _⟩ dX0_note_55 rfl ?_
      refine v_iload C0 (pc' := 60) 0 rfl dX0_note_58 rfl ?_
      refine v_world (ws' := wX cI ad U T F C (s_X0_note_B B unit port ou op) RU RC WU ST RP RN WT SM CC TR) (by simp only [s_X0_note, s_X0_note_B, if_pos h1, if_pos h3]) ?_
      exact v_zret C0 hr hlk hK (Or.inl rfl : (0 : Int32) = 0 ∨ (0 : Int32) = 1) (by simp only [s_X0_note, s_X0_note_B, if_pos h1, if_pos h3]) dX0_note_60
    · refine v_iconst C0 (pc' := 41) 1 (by decide) dX0_note_40 rfl ?_
      refine v_goto C0 45 dX0_note_41 (by decide) ?_
      refine v_istore C0 (lv' := [(7, .int 1), (6, .int (-1)), (5, .int (s_X0_slotOf unit port)), (0, .ref (ad 0)), (1, .int unit), (2, .int port), (3, .int ou), (4, .int op)]) (pc' := 47) (by decide) rfl dX0_note_45 rfl ?_
      refine v_aload_n C0 (pc' := 48) 3 rfl rfl dX0_note_47 rfl ?_
      refine v_get C0 hK (C := RX0) (T := TX0) (N := 15) (pc' := 51) 0 4 rfl rfl rfl (by decide) in_X0_note fl_X0_note_22 rfl dX0_note_48 rfl ?_
      refine v_iload C0 (pc' := 53) 2 rfl dX0_note_51 rfl ?_
      refine v_iload C0 (pc' := 55) 1 rfl dX0_note_53 rfl ?_
      refine v_callSv0 C0 (av := [.ref (ad 5), .int (s_X0_slotOf unit port), .int (-1)]) (rest := []) (ws' := wX cI ad U T F C (xPut 36 B (s_X0_slotOf unit port) (-1)) RU RC WU ST RP RN WT SM CC TR) (pc' := 58) hK hA (k_X0_put l D cI (ad 5) 36 B (s_X0_slotOf unit port) (-1) (by decide)) (va_cwS 3 C0.2.2.2.2 gX0_note_X0_put rfl rfl rfl (by decide +kernel) ⟨Nat.le_of_ble_eq_true rfl, Nat.le_of_ble_eq_true rfl⟩) (PLs.one 5 rfl) rfl rfl (Nat.le_of_ble_eq_true rfl) ⟨Nat.zero_le _, Nat.zero_le _⟩ dX0_note_55 rfl ?_
      refine v_iload C0 (pc' := 60) 0 rfl dX0_note_58 rfl ?_
      refine v_world (ws' := wX cI ad U T F C (s_X0_note_B B unit port ou op) RU RC WU ST RP RN WT SM CC TR) (by simp only [s_X0_note, s_X0_note_B, if_pos h1, if_neg h3]) ?_
      exact v_zret C0 hr hlk hK (Or.inr rfl : (1 : Int32) = 0 ∨ (1 : Int32) = 1) (by simp only [s_X0_note, s_X0_note_B, if_pos h1, if_neg h3]) dX0_note_60
theorem b_X0_note (B : Nat → Int32) (unit : Int32) (port : Int32) : s_X0_note B unit port = 0 ∨ s_X0_note B unit port = 1 := by unfold s_X0_note; (repeat' split) <;> first | exact Or.inl rfl | exact Or.inr rfl
set_option maxHeartbeats 4000000 in
set_option maxRecDepth 100000 in
theorem kx_X0_note_IAE (l : Launch) (hst : l.stackTraces = false) (D : va_G) (cI : ClassId) (ad : Nat → Nat) (U : Nat → Int32) (T : Nat → Int32) (F : Nat → Int32) (C : Nat → Int32) (B : Nat → Int32) (RU : Nat → Int32) (RC : Nat → Int32) (WU : Nat → Int32) (ST : Nat → Int32) (RP : Nat → Int32) (RN : Int32) (WT : Nat → Int32) (SM : Nat → Int32) (CC : Int32) (TR : Int32) (unit : Int32) (port : Int32) (ou : Int32) (op : Int32) (hb : ¬ (okU unit ∧ okU port ∧ (ou = -1 ∨ (okU ou ∧ okU op)))) : Kx l yX0_note wsX0_note 8 123 D (TI cI) [.ref (ad 0), .int unit, .int port, .int ou, .int op] (wX cI ad U T F C B RU RC WU ST RP RN WT SM CC TR) xIAE := by
  refine Kx.of (cc := cX0_note) (maxL := 8) (lv0 := [(0, .ref (ad 0)), (1, .int unit), (2, .int port), (3, .int ou), (4, .int op)]) (by decide +kernel) rfl (Nat.le_of_ble_eq_true rfl) rfl ?_
  intro p e s m args below meth c A C0 hT0 hlk hK hA hEN
  refine v_iload_n C0 (pc' := 1) 1 rfl rfl dX0_note_0 rfl ?_
  refine v_iload_n C0 (pc' := 2) 2 rfl rfl dX0_note_1 rfl ?_
  by_cases hs : okU unit ∧ okU port
  · refine v_callSi0 C0 (av := [.int unit, .int port]) (rest := []) (ws' := wX cI ad U T F C B RU RC WU ST RP RN WT SM CC TR) (pc' := 5) hK hA (k_X0_slotOf l D cI unit port hs.1 hs.2) (va_cwS 2 C0.2.2.2.2 gX0_note_X0_slotOf rfl rfl rfl (by decide +kernel) ⟨Nat.le_of_ble_eq_true rfl, Nat.le_of_ble_eq_true rfl⟩) PLs.nil rfl rfl (Nat.le_of_ble_eq_true rfl) ⟨Nat.zero_le _, Nat.zero_le _⟩ dX0_note_2 rfl ?_
    refine v_istore C0 (lv' := [(5, .int (s_X0_slotOf unit port)), (0, .ref (ad 0)), (1, .int unit), (2, .int port), (3, .int ou), (4, .int op)]) (pc' := 7) (by decide) rfl dX0_note_5 rfl ?_
    refine v_iload_n C0 (pc' := 8) 4 rfl rfl dX0_note_7 rfl ?_
    refine v_iconst C0 (pc' := 9) (-1) (by decide) dX0_note_8 rfl ?_
    refine v_icmp_ne C0 16 (pc' := 12) dX0_note_9 (by decide) rfl (fun h1 => ?_) (fun h1 => ?_)
    · refine v_iload_n C0 (pc' := 17) 4 rfl rfl dX0_note_16 rfl ?_
      refine v_iload C0 (pc' := 19) 5 rfl dX0_note_17 rfl ?_
      exact v_callSx_out C0 (av := [.int ou, .int op]) (rest := []) hK hA hEN (kx_X0_slotOf_IAE l hst D cI ou op (fun q => hb ⟨hs.1, hs.2, Or.inr q⟩)) (va_cwS 2 C0.2.2.2.2 gX0_note_X0_slotOf rfl rfl rfl (by decide +kernel) ⟨Nat.le_of_ble_eq_true rfl, Nat.le_of_ble_eq_true rfl⟩) PLs.nil rfl rfl (Nat.le_of_ble_eq_true rfl) ⟨Nat.le_refl _, Nat.le_refl _⟩ dX0_note_19 hT0 hlk (Nat.le_refl _) (Nat.le_refl _)
    · exact absurd ⟨hs.1, hs.2, Or.inl h1⟩ hb
  · exact v_callSx_out C0 (av := [.int unit, .int port]) (rest := []) hK hA hEN (kx_X0_slotOf_IAE l hst D cI unit port hs) (va_cwS 2 C0.2.2.2.2 gX0_note_X0_slotOf rfl rfl rfl (by decide +kernel) ⟨Nat.le_of_ble_eq_true rfl, Nat.le_of_ble_eq_true rfl⟩) PLs.nil rfl rfl (Nat.le_of_ble_eq_true rfl) ⟨Nat.le_refl _, Nat.le_refl _⟩ dX0_note_2 hT0 hlk (Nat.le_refl _) (Nat.le_refl _)
def s_X0_far (F : Nat → Int32) (unit : Int32) (port : Int32) : Int32 := s_X0_endName (xAt 36 F (s_X0_slotOf unit port))
set_option maxHeartbeats 4000000 in
set_option maxRecDepth 100000 in
theorem k_X0_far (l : Launch) (D : va_G) (cI : ClassId) (ad : Nat → Nat) (U : Nat → Int32) (T : Nat → Int32) (F : Nat → Int32) (C : Nat → Int32) (B : Nat → Int32) (RU : Nat → Int32) (RC : Nat → Int32) (WU : Nat → Int32) (ST : Nat → Int32) (RP : Nat → Int32) (RN : Int32) (WT : Nat → Int32) (SM : Nat → Int32) (CC : Int32) (TR : Int32) (unit : Int32) (port : Int32) (hu : okU unit) (hp : okU port) : Ki l yX0_far wsX0_far 2 41 0 0 D (TI cI) [.ref (ad 0), .int unit, .int port] (wX cI ad U T F C B RU RC WU ST RP RN WT SM CC TR) (wX cI ad U T F C B RU RC WU ST RP RN WT SM CC TR) (s_X0_far F unit port) := by
  refine Ki.of (cc := cX0_far) (maxL := 3) (rt := .int) (lv0 := [(0, .ref (ad 0)), (1, .int unit), (2, .int port)]) (by decide +kernel) rfl (Nat.le_of_ble_eq_true rfl) rfl ?_
  intro p e s m args below meth c A C0 hr hlk hK hA
  refine v_aload_n C0 (pc' := 1) 0 rfl rfl dX0_far_0 rfl ?_
  refine v_get C0 hK (C := RX0) (T := TX0) (N := 15) (pc' := 4) 0 2 rfl rfl rfl (by decide) in_X0_far fl_X0_far_16 rfl dX0_far_1 rfl ?_
  refine v_iload_n C0 (pc' := 5) 1 rfl rfl dX0_far_4 rfl ?_
  refine v_iload_n C0 (pc' := 6) 2 rfl rfl dX0_far_5 rfl ?_
  refine v_callSi0 C0 (av := [.int unit, .int port]) (rest := [.ref (ad 3)]) (ws' := wX cI ad U T F C B RU RC WU ST RP RN WT SM CC TR) (pc' := 9) hK hA (k_X0_slotOf l D cI unit port hu hp) (va_cwS 2 C0.2.2.2.2 gX0_far_X0_slotOf rfl rfl rfl (by decide +kernel) ⟨Nat.le_of_ble_eq_true rfl, Nat.le_of_ble_eq_true rfl⟩) PLs.nil rfl rfl (Nat.le_of_ble_eq_true rfl) ⟨Nat.zero_le _, Nat.zero_le _⟩ dX0_far_6 rfl ?_
  refine v_callSi0 C0 (av := [.ref (ad 3), .int (s_X0_slotOf unit port)]) (rest := []) (ws' := wX cI ad U T F C B RU RC WU ST RP RN WT SM CC TR) (pc' := 12) hK hA (k_X0_at l D cI (ad 3) 36 F (s_X0_slotOf unit port) (by decide)) (va_cwS 2 C0.2.2.2.2 gX0_far_X0_at rfl rfl rfl (by decide +kernel) ⟨Nat.le_of_ble_eq_true rfl, Nat.le_of_ble_eq_true rfl⟩) (PLs.one0 3 rfl) rfl rfl (Nat.le_of_ble_eq_true rfl) ⟨Nat.zero_le _, Nat.zero_le _⟩ dX0_far_9 rfl ?_
  refine v_callSi0 C0 (av := [.int (xAt 36 F (s_X0_slotOf unit port))]) (rest := []) (ws' := wX cI ad U T F C B RU RC WU ST RP RN WT SM CC TR) (pc' := 15) hK hA (k_X0_endName l D cI (xAt 36 F (s_X0_slotOf unit port))) (va_cwS 1 C0.2.2.2.2 gX0_far_X0_endName rfl rfl rfl (by decide +kernel) ⟨Nat.le_of_ble_eq_true rfl, Nat.le_of_ble_eq_true rfl⟩) PLs.nil rfl rfl (Nat.le_of_ble_eq_true rfl) ⟨Nat.zero_le _, Nat.zero_le _⟩ dX0_far_12 rfl ?_
  exact v_iret C0 hr hlk hK rfl dX0_far_15
set_option maxHeartbeats 4000000 in
set_option maxRecDepth 100000 in
theorem kx_X0_far_IAE (l : Launch) (hst : l.stackTraces = false) (D : va_G) (cI : ClassId) (ad : Nat → Nat) (U : Nat → Int32) (T : Nat → Int32) (F : Nat → Int32) (C : Nat → Int32) (B : Nat → Int32) (RU : Nat → Int32) (RC : Nat → Int32) (WU : Nat → Int32) (ST : Nat → Int32) (RP : Nat → Int32) (RN : Int32) (WT : Nat → Int32) (SM : Nat → Int32) (CC : Int32) (TR : Int32) (unit : Int32) (port : Int32) (hb : ¬ (okU unit ∧ okU port)) : Kx l yX0_far wsX0_far 8 123 D (TI cI) [.ref (ad 0), .int unit, .int port] (wX cI ad U T F C B RU RC WU ST RP RN WT SM CC TR) xIAE := by
  refine Kx.of (cc := cX0_far) (maxL := 3) (lv0 := [(0, .ref (ad 0)), (1, .int unit), (2, .int port)]) (by decide +kernel) rfl (Nat.le_of_ble_eq_true rfl) rfl ?_
  intro p e s m args below meth c A C0 hT0 hlk hK hA hEN
  refine v_aload_n C0 (pc' := 1) 0 rfl rfl dX0_far_0 rfl ?_
  refine v_get C0 hK (C := RX0) (T := TX0) (N := 15) (pc' := 4) 0 2 rfl rfl rfl (by decide) in_X0_far fl_X0_far_16 rfl dX0_far_1 rfl ?_
  refine v_iload_n C0 (pc' := 5) 1 rfl rfl dX0_far_4 rfl ?_
  refine v_iload_n C0 (pc' := 6) 2 rfl rfl dX0_far_5 rfl ?_
  exact v_callSx_out C0 (av := [.int unit, .int port]) (rest := [.ref (ad 3)]) hK hA hEN (kx_X0_slotOf_IAE l hst D cI unit port hb) (va_cwS 2 C0.2.2.2.2 gX0_far_X0_slotOf rfl rfl rfl (by decide +kernel) ⟨Nat.le_of_ble_eq_true rfl, Nat.le_of_ble_eq_true rfl⟩) PLs.nil rfl rfl (Nat.le_of_ble_eq_true rfl) ⟨Nat.le_refl _, Nat.le_refl _⟩ dX0_far_6 hT0 hlk (Nat.le_refl _) (Nat.le_refl _)
def s_X0_root (RU : Nat → Int32) (unit : Int32) : Int32 := xAt 6 RU unit
set_option maxHeartbeats 4000000 in
set_option maxRecDepth 100000 in
theorem k_X0_root (l : Launch) (D : va_G) (cI : ClassId) (ad : Nat → Nat) (U : Nat → Int32) (T : Nat → Int32) (F : Nat → Int32) (C : Nat → Int32) (B : Nat → Int32) (RU : Nat → Int32) (RC : Nat → Int32) (WU : Nat → Int32) (ST : Nat → Int32) (RP : Nat → Int32) (RN : Int32) (WT : Nat → Int32) (SM : Nat → Int32) (CC : Int32) (TR : Int32) (unit : Int32) (hu : okU unit) : Ki l yX0_root wsX0_root 1 21 0 0 D (TI cI) [.ref (ad 0), .int unit] (wX cI ad U T F C B RU RC WU ST RP RN WT SM CC TR) (wX cI ad U T F C B RU RC WU ST RP RN WT SM CC TR) (s_X0_root RU unit) := by
  refine Ki.of (cc := cX0_root) (maxL := 2) (rt := .int) (lv0 := [(0, .ref (ad 0)), (1, .int unit)]) (by decide +kernel) rfl (Nat.le_of_ble_eq_true rfl) rfl ?_
  intro p e s m args below meth c A C0 hr hlk hK hA
  refine v_iload_n C0 (pc' := 1) 1 rfl rfl dX0_root_0 rfl ?_
  refine v_callSv0 C0 (av := [.int unit]) (rest := []) (ws' := wX cI ad U T F C B RU RC WU ST RP RN WT SM CC TR) (pc' := 4) hK hA (k_X0_checkUnit l D cI unit hu) (va_cwS 1 C0.2.2.2.2 gX0_root_X0_checkUnit rfl rfl rfl (by decide +kernel) ⟨Nat.le_of_ble_eq_true rfl, Nat.le_of_ble_eq_true rfl⟩) PLs.nil rfl rfl (Nat.le_of_ble_eq_true rfl) ⟨Nat.zero_le _, Nat.zero_le _⟩ dX0_root_1 rfl ?_
  refine v_aload_n C0 (pc' := 5) 0 rfl rfl dX0_root_4 rfl ?_
  refine v_get C0 hK (C := RX0) (T := TX0) (N := 15) (pc' := 8) 0 5 rfl rfl rfl (by decide) in_X0_root fl_X0_root_25 rfl dX0_root_5 rfl ?_
  refine v_iload_n C0 (pc' := 9) 1 rfl rfl dX0_root_8 rfl ?_
  refine v_callSi0 C0 (av := [.ref (ad 6), .int unit]) (rest := []) (ws' := wX cI ad U T F C B RU RC WU ST RP RN WT SM CC TR) (pc' := 12) hK hA (k_X0_at l D cI (ad 6) 6 RU unit (by decide)) (va_cwS 2 C0.2.2.2.2 gX0_root_X0_at rfl rfl rfl (by decide +kernel) ⟨Nat.le_of_ble_eq_true rfl, Nat.le_of_ble_eq_true rfl⟩) (PLs.one0 6 rfl) rfl rfl (Nat.le_of_ble_eq_true rfl) ⟨Nat.zero_le _, Nat.zero_le _⟩ dX0_root_9 rfl ?_
  exact v_iret C0 hr hlk hK rfl dX0_root_12
set_option maxHeartbeats 4000000 in
set_option maxRecDepth 100000 in
theorem kx_X0_root_IAE (l : Launch) (hst : l.stackTraces = false) (D : va_G) (cI : ClassId) (ad : Nat → Nat) (U : Nat → Int32) (T : Nat → Int32) (F : Nat → Int32) (C : Nat → Int32) (B : Nat → Int32) (RU : Nat → Int32) (RC : Nat → Int32) (WU : Nat → Int32) (ST : Nat → Int32) (RP : Nat → Int32) (RN : Int32) (WT : Nat → Int32) (SM : Nat → Int32) (CC : Int32) (TR : Int32) (unit : Int32) (hu : ¬ okU unit) : Kx l yX0_root wsX0_root 7 102 D (TI cI) [.ref (ad 0), .int unit] (wX cI ad U T F C B RU RC WU ST RP RN WT SM CC TR) xIAE := by
  refine Kx.of (cc := cX0_root) (maxL := 2) (lv0 := [(0, .ref (ad 0)), (1, .int unit)]) (by decide +kernel) rfl (Nat.le_of_ble_eq_true rfl) rfl ?_
  intro p e s m args below meth c A C0 hT0 hlk hK hA hEN
  refine v_iload_n C0 (pc' := 1) 1 rfl rfl dX0_root_0 rfl ?_
  exact v_callSx_out C0 (av := [.int unit]) (rest := []) hK hA hEN (kx_X0_checkUnit_IAE l hst D cI unit hu) (va_cwS 1 C0.2.2.2.2 gX0_root_X0_checkUnit rfl rfl rfl (by decide +kernel) ⟨Nat.le_of_ble_eq_true rfl, Nat.le_of_ble_eq_true rfl⟩) PLs.nil rfl rfl (Nat.le_of_ble_eq_true rfl) ⟨Nat.le_refl _, Nat.le_refl _⟩ dX0_root_1 hT0 hlk (Nat.le_refl _) (Nat.le_refl _)
def s_X0_costOf (RC : Nat → Int32) (unit : Int32) : Int32 := xAt 6 RC unit
set_option maxHeartbeats 4000000 in
set_option maxRecDepth 100000 in
theorem k_X0_costOf (l : Launch) (D : va_G) (cI : ClassId) (ad : Nat → Nat) (U : Nat → Int32) (T : Nat → Int32) (F : Nat → Int32) (C : Nat → Int32) (B : Nat → Int32) (RU : Nat → Int32) (RC : Nat → Int32) (WU : Nat → Int32) (ST : Nat → Int32) (RP : Nat → Int32) (RN : Int32) (WT : Nat → Int32) (SM : Nat → Int32) (CC : Int32) (TR : Int32) (unit : Int32) (hu : okU unit) : Ki l yX0_costOf wsX0_costOf 1 21 0 0 D (TI cI) [.ref (ad 0), .int unit] (wX cI ad U T F C B RU RC WU ST RP RN WT SM CC TR) (wX cI ad U T F C B RU RC WU ST RP RN WT SM CC TR) (s_X0_costOf RC unit) := by
  refine Ki.of (cc := cX0_costOf) (maxL := 2) (rt := .int) (lv0 := [(0, .ref (ad 0)), (1, .int unit)]) (by decide +kernel) rfl (Nat.le_of_ble_eq_true rfl) rfl ?_
  intro p e s m args below meth c A C0 hr hlk hK hA
  refine v_iload_n C0 (pc' := 1) 1 rfl rfl dX0_costOf_0 rfl ?_
  refine v_callSv0 C0 (av := [.int unit]) (rest := []) (ws' := wX cI ad U T F C B RU RC WU ST RP RN WT SM CC TR) (pc' := 4) hK hA (k_X0_checkUnit l D cI unit hu) (va_cwS 1 C0.2.2.2.2 gX0_costOf_X0_checkUnit rfl rfl rfl (by decide +kernel) ⟨Nat.le_of_ble_eq_true rfl, Nat.le_of_ble_eq_true rfl⟩) PLs.nil rfl rfl (Nat.le_of_ble_eq_true rfl) ⟨Nat.zero_le _, Nat.zero_le _⟩ dX0_costOf_1 rfl ?_
  refine v_aload_n C0 (pc' := 5) 0 rfl rfl dX0_costOf_4 rfl ?_
  refine v_get C0 hK (C := RX0) (T := TX0) (N := 15) (pc' := 8) 0 6 rfl rfl rfl (by decide) in_X0_costOf fl_X0_costOf_28 rfl dX0_costOf_5 rfl ?_
  refine v_iload_n C0 (pc' := 9) 1 rfl rfl dX0_costOf_8 rfl ?_
  refine v_callSi0 C0 (av := [.ref (ad 7), .int unit]) (rest := []) (ws' := wX cI ad U T F C B RU RC WU ST RP RN WT SM CC TR) (pc' := 12) hK hA (k_X0_at l D cI (ad 7) 6 RC unit (by decide)) (va_cwS 2 C0.2.2.2.2 gX0_costOf_X0_at rfl rfl rfl (by decide +kernel) ⟨Nat.le_of_ble_eq_true rfl, Nat.le_of_ble_eq_true rfl⟩) (PLs.one0 7 rfl) rfl rfl (Nat.le_of_ble_eq_true rfl) ⟨Nat.zero_le _, Nat.zero_le _⟩ dX0_costOf_9 rfl ?_
  exact v_iret C0 hr hlk hK rfl dX0_costOf_12
set_option maxHeartbeats 4000000 in
set_option maxRecDepth 100000 in
theorem kx_X0_costOf_IAE (l : Launch) (hst : l.stackTraces = false) (D : va_G) (cI : ClassId) (ad : Nat → Nat) (U : Nat → Int32) (T : Nat → Int32) (F : Nat → Int32) (C : Nat → Int32) (B : Nat → Int32) (RU : Nat → Int32) (RC : Nat → Int32) (WU : Nat → Int32) (ST : Nat → Int32) (RP : Nat → Int32) (RN : Int32) (WT : Nat → Int32) (SM : Nat → Int32) (CC : Int32) (TR : Int32) (unit : Int32) (hu : ¬ okU unit) : Kx l yX0_costOf wsX0_costOf 7 102 D (TI cI) [.ref (ad 0), .int unit] (wX cI ad U T F C B RU RC WU ST RP RN WT SM CC TR) xIAE := by
  refine Kx.of (cc := cX0_costOf) (maxL := 2) (lv0 := [(0, .ref (ad 0)), (1, .int unit)]) (by decide +kernel) rfl (Nat.le_of_ble_eq_true rfl) rfl ?_
  intro p e s m args below meth c A C0 hT0 hlk hK hA hEN
  refine v_iload_n C0 (pc' := 1) 1 rfl rfl dX0_costOf_0 rfl ?_
  exact v_callSx_out C0 (av := [.int unit]) (rest := []) hK hA hEN (kx_X0_checkUnit_IAE l hst D cI unit hu) (va_cwS 1 C0.2.2.2.2 gX0_costOf_X0_checkUnit rfl rfl rfl (by decide +kernel) ⟨Nat.le_of_ble_eq_true rfl, Nat.le_of_ble_eq_true rfl⟩) PLs.nil rfl rfl (Nat.le_of_ble_eq_true rfl) ⟨Nat.le_refl _, Nat.le_refl _⟩ dX0_costOf_1 hT0 hlk (Nat.le_refl _) (Nat.le_refl _)
def s_X0_wayUp (WU : Nat → Int32) (unit : Int32) : Int32 := if (xAt 6 WU unit) = (-1) then (-1) else (xAt 6 WU unit) - (xAt 6 WU unit) / 6 * 6
set_option maxHeartbeats 4000000 in
set_option maxRecDepth 100000 in
theorem k_X0_wayUp (l : Launch) (D : va_G) (cI : ClassId) (ad : Nat → Nat) (U : Nat → Int32) (T : Nat → Int32) (F : Nat → Int32) (C : Nat → Int32) (B : Nat → Int32) (RU : Nat → Int32) (RC : Nat → Int32) (WU : Nat → Int32) (ST : Nat → Int32) (RP : Nat → Int32) (RN : Int32) (WT : Nat → Int32) (SM : Nat → Int32) (CC : Int32) (TR : Int32) (unit : Int32) (hu : okU unit) : Ki l yX0_wayUp wsX0_wayUp 1 21 0 0 D (TI cI) [.ref (ad 0), .int unit] (wX cI ad U T F C B RU RC WU ST RP RN WT SM CC TR) (wX cI ad U T F C B RU RC WU ST RP RN WT SM CC TR) (s_X0_wayUp WU unit) := by
  refine Ki.of (cc := cX0_wayUp) (maxL := 3) (rt := .int) (lv0 := [(0, .ref (ad 0)), (1, .int unit)]) (by decide +kernel) rfl (Nat.le_of_ble_eq_true rfl) rfl ?_
  intro p e s m args below meth c A C0 hr hlk hK hA
  refine v_iload_n C0 (pc' := 1) 1 rfl rfl dX0_wayUp_0 rfl ?_
  refine v_callSv0 C0 (av := [.int unit]) (rest := []) (ws' := wX cI ad U T F C B RU RC WU ST RP RN WT SM CC TR) (pc' := 4) hK hA (k_X0_checkUnit l D cI unit hu) (va_cwS 1 C0.2.2.2.2 gX0_wayUp_X0_checkUnit rfl rfl rfl (by decide +kernel) ⟨Nat.le_of_ble_eq_true rfl, Nat.le_of_ble_eq_true rfl⟩) PLs.nil rfl rfl (Nat.le_of_ble_eq_true rfl) ⟨Nat.zero_le _, Nat.zero_le _⟩ dX0_wayUp_1 rfl ?_
  refine v_aload_n C0 (pc' := 5) 0 rfl rfl dX0_wayUp_4 rfl ?_
  refine v_get C0 hK (C := RX0) (T := TX0) (N := 15) (pc' := 8) 0 7 rfl rfl rfl (by decide) in_X0_wayUp fl_X0_wayUp_31 rfl dX0_wayUp_5 rfl ?_
  refine v_iload_n C0 (pc' := 9) 1 rfl rfl dX0_wayUp_8 rfl ?_
  refine v_callSi0 C0 (av := [.ref (ad 8), .int unit]) (rest := []) (ws' := wX cI ad U T F C B RU RC WU ST RP RN WT SM CC TR) (pc' := 12) hK hA (k_X0_at l D cI (ad 8) 6 WU unit (by decide)) (va_cwS 2 C0.2.2.2.2 gX0_wayUp_X0_at rfl rfl rfl (by decide +kernel) ⟨Nat.le_of_ble_eq_true rfl, Nat.le_of_ble_eq_true rfl⟩) (PLs.one0 8 rfl) rfl rfl (Nat.le_of_ble_eq_true rfl) ⟨Nat.zero_le _, Nat.zero_le _⟩ dX0_wayUp_9 rfl ?_
  refine v_istore_n C0 (lv' := [(2, .int (xAt 6 WU unit)), (0, .ref (ad 0)), (1, .int unit)]) (pc' := 13) rfl (by decide) rfl dX0_wayUp_12 rfl ?_
  refine v_iload_n C0 (pc' := 14) 0 rfl rfl dX0_wayUp_13 rfl ?_
  refine v_iconst C0 (pc' := 15) (-1) (by decide) dX0_wayUp_14 rfl ?_
  refine v_icmp_ne C0 22 (pc' := 18) dX0_wayUp_15 (by decide) rfl (fun h1 => ?_) (fun h1 => ?_)
  · refine v_iload_n C0 (pc' := 23) 0 rfl rfl dX0_wayUp_22 rfl ?_
    refine v_bipush C0 (pc' := 25) 6 (by decide) dX0_wayUp_23 rfl ?_
    refine v_irem C0 (pc' := 26) (by decide) dX0_wayUp_25 rfl ?_
    exact v_iret C0 hr hlk hK (by simp only [s_X0_wayUp, if_neg h1]) dX0_wayUp_26
  · refine v_iconst C0 (pc' := 19) (-1) (by decide) dX0_wayUp_18 rfl ?_
    refine v_goto C0 26 dX0_wayUp_19 (by decide) ?_
    exact v_iret C0 hr hlk hK (by simp only [s_X0_wayUp, if_pos h1]) dX0_wayUp_26
set_option maxHeartbeats 4000000 in
set_option maxRecDepth 100000 in
theorem kx_X0_wayUp_IAE (l : Launch) (hst : l.stackTraces = false) (D : va_G) (cI : ClassId) (ad : Nat → Nat) (U : Nat → Int32) (T : Nat → Int32) (F : Nat → Int32) (C : Nat → Int32) (B : Nat → Int32) (RU : Nat → Int32) (RC : Nat → Int32) (WU : Nat → Int32) (ST : Nat → Int32) (RP : Nat → Int32) (RN : Int32) (WT : Nat → Int32) (SM : Nat → Int32) (CC : Int32) (TR : Int32) (unit : Int32) (hu : ¬ okU unit) : Kx l yX0_wayUp wsX0_wayUp 7 102 D (TI cI) [.ref (ad 0), .int unit] (wX cI ad U T F C B RU RC WU ST RP RN WT SM CC TR) xIAE := by
  refine Kx.of (cc := cX0_wayUp) (maxL := 3) (lv0 := [(0, .ref (ad 0)), (1, .int unit)]) (by decide +kernel) rfl (Nat.le_of_ble_eq_true rfl) rfl ?_
  intro p e s m args below meth c A C0 hT0 hlk hK hA hEN
  refine v_iload_n C0 (pc' := 1) 1 rfl rfl dX0_wayUp_0 rfl ?_
  exact v_callSx_out C0 (av := [.int unit]) (rest := []) hK hA hEN (kx_X0_checkUnit_IAE l hst D cI unit hu) (va_cwS 1 C0.2.2.2.2 gX0_wayUp_X0_checkUnit rfl rfl rfl (by decide +kernel) ⟨Nat.le_of_ble_eq_true rfl, Nat.le_of_ble_eq_true rfl⟩) PLs.nil rfl rfl (Nat.le_of_ble_eq_true rfl) ⟨Nat.le_refl _, Nat.le_refl _⟩ dX0_wayUp_1 hT0 hlk (Nat.le_refl _) (Nat.le_refl _)
def s_X0_hops (U : Nat → Int32) (T : Nat → Int32) (F : Nat → Int32) (WU : Nat → Int32) (ST : Nat → Int32) (RP : Nat → Int32) (TR : Int32) (unit : Int32) (lane : Int32) (ou : Int32) (ol : Int32) : Int32 := xAt 96 (s_X0_walkFrom_ST U T F WU (s_X0_forgetWalks_ST ST) RP (s_X0_forgetWalks_RN ) TR (s_X0_placeOf unit lane)) (s_X0_placeOf ou ol)
def s_X0_hops_ST (U : Nat → Int32) (T : Nat → Int32) (F : Nat → Int32) (WU : Nat → Int32) (ST : Nat → Int32) (RP : Nat → Int32) (TR : Int32) (unit : Int32) (lane : Int32) : Nat → Int32 := (s_X0_walkFrom_ST U T F WU (s_X0_forgetWalks_ST ST) RP (s_X0_forgetWalks_RN ) TR (s_X0_placeOf unit lane))
def s_X0_hops_RP (U : Nat → Int32) (T : Nat → Int32) (F : Nat → Int32) (WU : Nat → Int32) (ST : Nat → Int32) (RP : Nat → Int32) (TR : Int32) (unit : Int32) (lane : Int32) : Nat → Int32 := (s_X0_walkFrom_RP U T F WU (s_X0_forgetWalks_ST ST) RP (s_X0_forgetWalks_RN ) TR (s_X0_placeOf unit lane))
def s_X0_hops_RN (U : Nat → Int32) (T : Nat → Int32) (F : Nat → Int32) (WU : Nat → Int32) (ST : Nat → Int32) (RP : Nat → Int32) (TR : Int32) (unit : Int32) (lane : Int32) : Int32 := (s_X0_walkFrom_RN U T F WU (s_X0_forgetWalks_ST ST) RP (s_X0_forgetWalks_RN ) TR (s_X0_placeOf unit lane))
set_option maxHeartbeats 4000000 in
set_option maxRecDepth 100000 in
theorem k_X0_hops (l : Launch) (D : va_G) (cI : ClassId) (ad : Nat → Nat) (U : Nat → Int32) (T : Nat → Int32) (F : Nat → Int32) (C : Nat → Int32) (B : Nat → Int32) (RU : Nat → Int32) (RC : Nat → Int32) (WU : Nat → Int32) (ST : Nat → Int32) (RP : Nat → Int32) (RN : Int32) (WT : Nat → Int32) (SM : Nat → Int32) (CC : Int32) (TR : Int32) (unit : Int32) (lane : Int32) (ou : Int32) (ol : Int32) (hb_TR : TR = 0 ∨ TR = 1) (hu : okU unit) (hl : okL lane) (hu2 : okU ou) (hl2 : okL ol) : Ki l yX0_hops wsX0_hops 6 137 0 0 D (TI cI) [.ref (ad 0), .int unit, .int lane, .int ou, .int ol] (wX cI ad U T F C B RU RC WU ST RP RN WT SM CC TR) (wX cI ad U T F C B RU RC WU (s_X0_hops_ST U T F WU ST RP TR unit lane) (s_X0_hops_RP U T F WU ST RP TR unit lane) (s_X0_hops_RN U T F WU ST RP TR unit lane) WT SM CC TR) (s_X0_hops U T F WU ST RP TR unit lane ou ol) := by
  refine Ki.of (cc := cX0_hops) (maxL := 7) (rt := .int) (lv0 := [(0, .ref (ad 0)), (1, .int unit), (2, .int lane), (3, .int ou), (4, .int ol)]) (by decide +kernel) rfl (Nat.le_of_ble_eq_true rfl) rfl ?_
  intro p e s m args below meth c A C0 hr hlk hK hA
  refine v_iload_n C0 (pc' := 1) 1 rfl rfl dX0_hops_0 rfl ?_
  refine v_iload_n C0 (pc' := 2) 2 rfl rfl dX0_hops_1 rfl ?_
  refine v_callSi0 C0 (av := [.int unit, .int lane]) (rest := []) (ws' := wX cI ad U T F C B RU RC WU ST RP RN WT SM CC TR) (pc' := 5) hK hA (k_X0_placeOf l D cI unit lane hu hl) (va_cwS 2 C0.2.2.2.2 gX0_hops_X0_placeOf rfl rfl rfl (by decide +kernel) ⟨Nat.le_of_ble_eq_true rfl, Nat.le_of_ble_eq_true rfl⟩) PLs.nil rfl rfl (Nat.le_of_ble_eq_true rfl) ⟨Nat.zero_le _, Nat.zero_le _⟩ dX0_hops_2 rfl ?_
  refine v_istore C0 (lv' := [(5, .int (s_X0_placeOf unit lane)), (0, .ref (ad 0)), (1, .int unit), (2, .int lane), (3, .int ou), (4, .int ol)]) (pc' := 7) (by decide) rfl dX0_hops_5 rfl ?_
  refine v_iload_n C0 (pc' := 8) 4 rfl rfl dX0_hops_7 rfl ?_
  refine v_iload C0 (pc' := 10) 5 rfl dX0_hops_8 rfl ?_
  refine v_callSi0 C0 (av := [.int ou, .int ol]) (rest := []) (ws' := wX cI ad U T F C B RU RC WU ST RP RN WT SM CC TR) (pc' := 13) hK hA (k_X0_placeOf l D cI ou ol hu2 hl2) (va_cwS 2 C0.2.2.2.2 gX0_hops_X0_placeOf rfl rfl rfl (by decide +kernel) ⟨Nat.le_of_ble_eq_true rfl, Nat.le_of_ble_eq_true rfl⟩) PLs.nil rfl rfl (Nat.le_of_ble_eq_true rfl) ⟨Nat.zero_le _, Nat.zero_le _⟩ dX0_hops_10 rfl ?_
  refine v_istore C0 (lv' := [(6, .int (s_X0_placeOf ou ol)), (5, .int (s_X0_placeOf unit lane)), (0, .ref (ad 0)), (1, .int unit), (2, .int lane), (3, .int ou), (4, .int ol)]) (pc' := 15) (by decide) rfl dX0_hops_13 rfl ?_
  refine v_aload_n C0 (pc' := 16) 2 rfl rfl dX0_hops_15 rfl ?_
  refine v_callVv0 C0 (av := []) (rest := []) (ws' := wX cI ad U T F C B RU RC WU (s_X0_forgetWalks_ST ST) RP (s_X0_forgetWalks_RN ) WT SM CC TR) (pc' := 19) hK hA (k_X0_forgetWalks l D cI ad U T F C B RU RC WU ST RP RN WT SM CC TR ) (cwV 0 C0.2.2.2.2 gX0_hops_X0_forgetWalks rfl rfl rfl (by decide +kernel) ⟨Nat.le_of_ble_eq_true rfl, Nat.le_of_ble_eq_true rfl⟩) ⟨0, 0, _, _, _, rfl, rfl⟩ PLs.all rfl rfl (Nat.le_of_ble_eq_true rfl) ⟨Nat.zero_le _, Nat.zero_le _⟩ dX0_hops_16 rfl ?_
  refine v_aload_n C0 (pc' := 20) 2 rfl rfl dX0_hops_19 rfl ?_
  refine v_iload C0 (pc' := 22) 1 rfl dX0_hops_20 rfl ?_
  refine v_callVv0 C0 (av := [.int (s_X0_placeOf unit lane)]) (rest := []) (ws' := wX cI ad U T F C B RU RC WU (s_X0_walkFrom_ST U T F WU (s_X0_forgetWalks_ST ST) RP (s_X0_forgetWalks_RN ) TR (s_X0_placeOf unit lane)) (s_X0_walkFrom_RP U T F WU (s_X0_forgetWalks_ST ST) RP (s_X0_forgetWalks_RN ) TR (s_X0_placeOf unit lane)) (s_X0_walkFrom_RN U T F WU (s_X0_forgetWalks_ST ST) RP (s_X0_forgetWalks_RN ) TR (s_X0_placeOf unit lane)) WT SM CC TR) (pc' := 25) hK hA (k_X0_walkFrom l D cI ad U T F C B RU RC WU (s_X0_forgetWalks_ST ST) RP (s_X0_forgetWalks_RN ) WT SM CC TR (s_X0_placeOf unit lane) hb_TR) (cwV 1 C0.2.2.2.2 gX0_hops_X0_walkFrom rfl rfl rfl (by decide +kernel) ⟨Nat.le_of_ble_eq_true rfl, Nat.le_of_ble_eq_true rfl⟩) ⟨0, 0, _, _, _, rfl, rfl⟩ PLs.all rfl rfl (Nat.le_of_ble_eq_true rfl) ⟨Nat.zero_le _, Nat.zero_le _⟩ dX0_hops_22 rfl ?_
  refine v_aload_n C0 (pc' := 26) 2 rfl rfl dX0_hops_25 rfl ?_
  refine v_get C0 hK (C := RX0) (T := TX0) (N := 15) (pc' := 29) 0 8 rfl rfl rfl (by decide) in_X0_hops fl_X0_hops_34 rfl dX0_hops_26 rfl ?_
  refine v_iload C0 (pc' := 31) 0 rfl dX0_hops_29 rfl ?_
  refine v_callSi0 C0 (av := [.ref (ad 9), .int (s_X0_placeOf ou ol)]) (rest := []) (ws' := wX cI ad U T F C B RU RC WU (s_X0_walkFrom_ST U T F WU (s_X0_forgetWalks_ST ST) RP (s_X0_forgetWalks_RN ) TR (s_X0_placeOf unit lane)) (s_X0_walkFrom_RP U T F WU (s_X0_forgetWalks_ST ST) RP (s_X0_forgetWalks_RN ) TR (s_X0_placeOf unit lane)) (s_X0_walkFrom_RN U T F WU (s_X0_forgetWalks_ST ST) RP (s_X0_forgetWalks_RN ) TR (s_X0_placeOf unit lane)) WT SM CC TR) (pc' := 34) hK hA (k_X0_at l D cI (ad 9) 96 (s_X0_walkFrom_ST U T F WU (s_X0_forgetWalks_ST ST) RP (s_X0_forgetWalks_RN ) TR (s_X0_placeOf unit lane)) (s_X0_placeOf ou ol) (by decide)) (va_cwS 2 C0.2.2.2.2 gX0_hops_X0_at rfl rfl rfl (by decide +kernel) ⟨Nat.le_of_ble_eq_true rfl, Nat.le_of_ble_eq_true rfl⟩) (PLs.one0 9 rfl) rfl rfl (Nat.le_of_ble_eq_true rfl) ⟨Nat.zero_le _, Nat.zero_le _⟩ dX0_hops_31 rfl ?_
  refine v_world (ws' := wX cI ad U T F C B RU RC WU (s_X0_hops_ST U T F WU ST RP TR unit lane) (s_X0_hops_RP U T F WU ST RP TR unit lane) (s_X0_hops_RN U T F WU ST RP TR unit lane) WT SM CC TR) rfl ?_
  exact v_iret C0 hr hlk hK rfl dX0_hops_34
set_option maxHeartbeats 4000000 in
set_option maxRecDepth 100000 in
theorem kx_X0_hops_IAE (l : Launch) (hst : l.stackTraces = false) (D : va_G) (cI : ClassId) (ad : Nat → Nat) (U : Nat → Int32) (T : Nat → Int32) (F : Nat → Int32) (C : Nat → Int32) (B : Nat → Int32) (RU : Nat → Int32) (RC : Nat → Int32) (WU : Nat → Int32) (ST : Nat → Int32) (RP : Nat → Int32) (RN : Int32) (WT : Nat → Int32) (SM : Nat → Int32) (CC : Int32) (TR : Int32) (unit : Int32) (lane : Int32) (ou : Int32) (ol : Int32) (hb : ¬ ((okU unit ∧ okL lane) ∧ (okU ou ∧ okL ol))) : Kx l yX0_hops wsX0_hops 8 123 D (TI cI) [.ref (ad 0), .int unit, .int lane, .int ou, .int ol] (wX cI ad U T F C B RU RC WU ST RP RN WT SM CC TR) xIAE := by
  refine Kx.of (cc := cX0_hops) (maxL := 7) (lv0 := [(0, .ref (ad 0)), (1, .int unit), (2, .int lane), (3, .int ou), (4, .int ol)]) (by decide +kernel) rfl (Nat.le_of_ble_eq_true rfl) rfl ?_
  intro p e s m args below meth c A C0 hT0 hlk hK hA hEN
  refine v_iload_n C0 (pc' := 1) 1 rfl rfl dX0_hops_0 rfl ?_
  refine v_iload_n C0 (pc' := 2) 2 rfl rfl dX0_hops_1 rfl ?_
  by_cases hs : okU unit ∧ okL lane
  · refine v_callSi0 C0 (av := [.int unit, .int lane]) (rest := []) (ws' := wX cI ad U T F C B RU RC WU ST RP RN WT SM CC TR) (pc' := 5) hK hA (k_X0_placeOf l D cI unit lane hs.1 hs.2) (va_cwS 2 C0.2.2.2.2 gX0_hops_X0_placeOf rfl rfl rfl (by decide +kernel) ⟨Nat.le_of_ble_eq_true rfl, Nat.le_of_ble_eq_true rfl⟩) PLs.nil rfl rfl (Nat.le_of_ble_eq_true rfl) ⟨Nat.zero_le _, Nat.zero_le _⟩ dX0_hops_2 rfl ?_
    refine v_istore C0 (lv' := [(5, .int (s_X0_placeOf unit lane)), (0, .ref (ad 0)), (1, .int unit), (2, .int lane), (3, .int ou), (4, .int ol)]) (pc' := 7) (by decide) rfl dX0_hops_5 rfl ?_
    refine v_iload_n C0 (pc' := 8) 4 rfl rfl dX0_hops_7 rfl ?_
    refine v_iload C0 (pc' := 10) 5 rfl dX0_hops_8 rfl ?_
    exact v_callSx_out C0 (av := [.int ou, .int ol]) (rest := []) hK hA hEN (kx_X0_placeOf_IAE l hst D cI ou ol (fun q => hb ⟨hs, q⟩)) (va_cwS 2 C0.2.2.2.2 gX0_hops_X0_placeOf rfl rfl rfl (by decide +kernel) ⟨Nat.le_of_ble_eq_true rfl, Nat.le_of_ble_eq_true rfl⟩) PLs.nil rfl rfl (Nat.le_of_ble_eq_true rfl) ⟨Nat.le_refl _, Nat.le_refl _⟩ dX0_hops_10 hT0 hlk (Nat.le_refl _) (Nat.le_refl _)
  · exact v_callSx_out C0 (av := [.int unit, .int lane]) (rest := []) hK hA hEN (kx_X0_placeOf_IAE l hst D cI unit lane hs) (va_cwS 2 C0.2.2.2.2 gX0_hops_X0_placeOf rfl rfl rfl (by decide +kernel) ⟨Nat.le_of_ble_eq_true rfl, Nat.le_of_ble_eq_true rfl⟩) PLs.nil rfl rfl (Nat.le_of_ble_eq_true rfl) ⟨Nat.le_refl _, Nat.le_refl _⟩ dX0_hops_2 hT0 hlk (Nat.le_refl _) (Nat.le_refl _)
def s_X0_meet (U : Nat → Int32) (T : Nat → Int32) (F : Nat → Int32) (WU : Nat → Int32) (ST : Nat → Int32) (RP : Nat → Int32) (TR : Int32) (unit : Int32) (port : Int32) (ou : Int32) (op : Int32) : Int32 := if (xAt 36 U (s_X0_slotOf unit port)) = 0 then 0 else (if (xAt 36 U (s_X0_slotOf ou op)) = 0 then 0 else (if (s_X0_hops U T F WU ST RP TR unit (xAt 36 U (s_X0_slotOf unit port)) ou (xAt 36 U (s_X0_slotOf ou op))) = (-1) then 0 else 1))
def s_X0_meet_ST (U : Nat → Int32) (T : Nat → Int32) (F : Nat → Int32) (WU : Nat → Int32) (ST : Nat → Int32) (RP : Nat → Int32) (TR : Int32) (unit : Int32) (port : Int32) (ou : Int32) (op : Int32) : Nat → Int32 := if (xAt 36 U (s_X0_slotOf unit port)) = 0 then ST else (if (xAt 36 U (s_X0_slotOf ou op)) = 0 then ST else ((s_X0_hops_ST U T F WU ST RP TR unit (xAt 36 U (s_X0_slotOf unit port)))))
def s_X0_meet_RP (U : Nat → Int32) (T : Nat → Int32) (F : Nat → Int32) (WU : Nat → Int32) (ST : Nat → Int32) (RP : Nat → Int32) (TR : Int32) (unit : Int32) (port : Int32) (ou : Int32) (op : Int32) : Nat → Int32 := if (xAt 36 U (s_X0_slotOf unit port)) = 0 then RP else (if (xAt 36 U (s_X0_slotOf ou op)) = 0 then RP else ((s_X0_hops_RP U T F WU ST RP TR unit (xAt 36 U (s_X0_slotOf unit port)))))
def s_X0_meet_RN (U : Nat → Int32) (T : Nat → Int32) (F : Nat → Int32) (WU : Nat → Int32) (ST : Nat → Int32) (RP : Nat → Int32) (RN : Int32) (TR : Int32) (unit : Int32) (port : Int32) (ou : Int32) (op : Int32) : Int32 := if (xAt 36 U (s_X0_slotOf unit port)) = 0 then RN else (if (xAt 36 U (s_X0_slotOf ou op)) = 0 then RN else ((s_X0_hops_RN U T F WU ST RP TR unit (xAt 36 U (s_X0_slotOf unit port)))))
set_option maxHeartbeats 4000000 in
set_option maxRecDepth 100000 in
theorem k_X0_meet (l : Launch) (D : va_G) (cI : ClassId) (ad : Nat → Nat) (U : Nat → Int32) (T : Nat → Int32) (F : Nat → Int32) (C : Nat → Int32) (B : Nat → Int32) (RU : Nat → Int32) (RC : Nat → Int32) (WU : Nat → Int32) (ST : Nat → Int32) (RP : Nat → Int32) (RN : Int32) (WT : Nat → Int32) (SM : Nat → Int32) (CC : Int32) (TR : Int32) (unit : Int32) (port : Int32) (ou : Int32) (op : Int32) (hb_TR : TR = 0 ∨ TR = 1) (hu : okU unit) (hp : okU port) (hu2 : okU ou) (hp2 : okU op) (hm1 : ¬ xAt 36 U (s_X0_slotOf unit port) = 0 → okL (xAt 36 U (s_X0_slotOf unit port))) (hm2 : ¬ xAt 36 U (s_X0_slotOf ou op) = 0 → okL (xAt 36 U (s_X0_slotOf ou op))) : Ki l yX0_meet wsX0_meet 7 163 0 0 D (TI cI) [.ref (ad 0), .int unit, .int port, .int ou, .int op] (wX cI ad U T F C B RU RC WU ST RP RN WT SM CC TR) (wX cI ad U T F C B RU RC WU (s_X0_meet_ST U T F WU ST RP TR unit port ou op) (s_X0_meet_RP U T F WU ST RP TR unit port ou op) (s_X0_meet_RN U T F WU ST RP RN TR unit port ou op) WT SM CC TR) (s_X0_meet U T F WU ST RP TR unit port ou op) := by
  refine Ki.of (cc := cX0_meet) (maxL := 7) (rt := .boolean) (lv0 := [(0, .ref (ad 0)), (1, .int unit), (2, .int port), (3, .int ou), (4, .int op)]) (by decide +kernel) rfl (Nat.le_of_ble_eq_true rfl) rfl ?_
  intro p e s m args below meth c A C0 hr hlk hK hA
  refine v_aload_n C0 (pc' := 1) 0 rfl rfl dX0_meet_0 rfl ?_
  refine v_get C0 hK (C := RX0) (T := TX0) (N := 15) (pc' := 4) 0 0 rfl rfl rfl (by decide) in_X0_meet fl_X0_meet_9 rfl dX0_meet_1 rfl ?_
  refine v_iload_n C0 (pc' := 5) 1 rfl rfl dX0_meet_4 rfl ?_
  refine v_iload_n C0 (pc' := 6) 2 rfl rfl dX0_meet_5 rfl ?_
  refine v_callSi0 C0 (av := [.int unit, .int port]) (rest := [.ref (ad 1)]) (ws' := wX cI ad U T F C B RU RC WU ST RP RN WT SM CC TR) (pc' := 9) hK hA (k_X0_slotOf l D cI unit port hu hp) (va_cwS 2 C0.2.2.2.2 gX0_meet_X0_slotOf rfl rfl rfl (by decide +kernel) ⟨Nat.le_of_ble_eq_true rfl, Nat.le_of_ble_eq_true rfl⟩) PLs.nil rfl rfl (Nat.le_of_ble_eq_true rfl) ⟨Nat.zero_le _, Nat.zero_le _⟩ dX0_meet_6 rfl ?_
  refine v_callSi0 C0 (av := [.ref (ad 1), .int (s_X0_slotOf unit port)]) (rest := []) (ws' := wX cI ad U T F C B RU RC WU ST RP RN WT SM CC TR) (pc' := 12) hK hA (k_X0_at l D cI (ad 1) 36 U (s_X0_slotOf unit port) (by decide)) (va_cwS 2 C0.2.2.2.2 gX0_meet_X0_at rfl rfl rfl (by decide +kernel) ⟨Nat.le_of_ble_eq_true rfl, Nat.le_of_ble_eq_true rfl⟩) (PLs.one0 1 rfl) rfl rfl (Nat.le_of_ble_eq_true rfl) ⟨Nat.zero_le _, Nat.zero_le _⟩ dX0_meet_9 rfl ?_
  refine v_istore C0 (lv' := [(5, .int (xAt 36 U (s_X0_slotOf unit port))), (0, .ref (ad 0)), (1, .int unit), (2, .int port), (3, .int ou), (4, .int op)]) (pc' := 14) (by decide) rfl dX0_meet_12 rfl ?_
  refine v_aload_n C0 (pc' := 15) 1 rfl rfl dX0_meet_14 rfl ?_
  refine v_get C0 hK (C := RX0) (T := TX0) (N := 15) (pc' := 18) 0 0 rfl rfl rfl (by decide) in_X0_meet fl_X0_meet_9 rfl dX0_meet_15 rfl ?_
  refine v_iload_n C0 (pc' := 19) 4 rfl rfl dX0_meet_18 rfl ?_
  refine v_iload C0 (pc' := 21) 5 rfl dX0_meet_19 rfl ?_
  refine v_callSi0 C0 (av := [.int ou, .int op]) (rest := [.ref (ad 1)]) (ws' := wX cI ad U T F C B RU RC WU ST RP RN WT SM CC TR) (pc' := 24) hK hA (k_X0_slotOf l D cI ou op hu2 hp2) (va_cwS 2 C0.2.2.2.2 gX0_meet_X0_slotOf rfl rfl rfl (by decide +kernel) ⟨Nat.le_of_ble_eq_true rfl, Nat.le_of_ble_eq_true rfl⟩) PLs.nil rfl rfl (Nat.le_of_ble_eq_true rfl) ⟨Nat.zero_le _, Nat.zero_le _⟩ dX0_meet_21 rfl ?_
  refine v_callSi0 C0 (av := [.ref (ad 1), .int (s_X0_slotOf ou op)]) (rest := []) (ws' := wX cI ad U T F C B RU RC WU ST RP RN WT SM CC TR) (pc' := 27) hK hA (k_X0_at l D cI (ad 1) 36 U (s_X0_slotOf ou op) (by decide)) (va_cwS 2 C0.2.2.2.2 gX0_meet_X0_at rfl rfl rfl (by decide +kernel) ⟨Nat.le_of_ble_eq_true rfl, Nat.le_of_ble_eq_true rfl⟩) (PLs.one0 1 rfl) rfl rfl (Nat.le_of_ble_eq_true rfl) ⟨Nat.zero_le _, Nat.zero_le _⟩ dX0_meet_24 rfl ?_
  refine v_istore C0 (lv' := [(6, .int (xAt 36 U (s_X0_slotOf ou op))), (5, .int (xAt 36 U (s_X0_slotOf unit port))), (0, .ref (ad 0)), (1, .int unit), (2, .int port), (3, .int ou), (4, .int op)]) (pc' := 29) (by decide) rfl dX0_meet_27 rfl ?_
  refine v_iload C0 (pc' := 31) 1 rfl dX0_meet_29 rfl ?_
  refine v_if_eq C0 57 (pc' := 34) dX0_meet_31 (by decide) rfl (fun h1 => ?_) (fun h1 => ?_)
  · refine v_iconst C0 (pc' := 58) 0 (by decide) dX0_meet_57 rfl ?_
    refine v_world (ws' := wX cI ad U T F C B RU RC WU (s_X0_meet_ST U T F WU ST RP TR unit port ou op) (s_X0_meet_RP U T F WU ST RP TR unit port ou op) (s_X0_meet_RN U T F WU ST RP RN TR unit port ou op) WT SM CC TR) (by simp only [s_X0_meet, s_X0_meet_ST, s_X0_meet_RP, s_X0_meet_RN, if_pos h1]) ?_
    exact v_zret C0 hr hlk hK (Or.inl rfl : (0 : Int32) = 0 ∨ (0 : Int32) = 1) (by simp only [s_X0_meet, s_X0_meet_ST, s_X0_meet_RP, s_X0_meet_RN, if_pos h1]) dX0_meet_58
  · refine v_iload C0 (pc' := 36) 0 rfl dX0_meet_34 rfl ?_
    refine v_if_eq C0 57 (pc' := 39) dX0_meet_36 (by decide) rfl (fun h2 => ?_) (fun h2 => ?_)
    · refine v_iconst C0 (pc' := 58) 0 (by decide) dX0_meet_57 rfl ?_
      refine v_world (ws' := wX cI ad U T F C B RU RC WU (s_X0_meet_ST U T F WU ST RP TR unit port ou op) (s_X0_meet_RP U T F WU ST RP TR unit port ou op) (s_X0_meet_RN U T F WU ST RP RN TR unit port ou op) WT SM CC TR) (by simp only [s_X0_meet, s_X0_meet_ST, s_X0_meet_RP, s_X0_meet_RN, if_neg h1, if_pos h2]) ?_
      exact v_zret C0 hr hlk hK (Or.inl rfl : (0 : Int32) = 0 ∨ (0 : Int32) = 1) (by simp only [s_X0_meet, s_X0_meet_ST, s_X0_meet_RP, s_X0_meet_RN, if_neg h1, if_pos h2]) dX0_meet_58
    · refine v_aload_n C0 (pc' := 40) 2 rfl rfl dX0_meet_39 rfl ?_
      refine v_iload_n C0 (pc' := 41) 3 rfl rfl dX0_meet_40 rfl ?_
      refine v_iload C0 (pc' := 43) 1 rfl dX0_meet_41 rfl ?_
      refine v_iload_n C0 (pc' := 44) 5 rfl rfl dX0_meet_43 rfl ?_
      refine v_iload C0 (pc' := 46) 0 rfl dX0_meet_44 rfl ?_
      refine v_callVi0 C0 (av := [.int unit, .int (xAt 36 U (s_X0_slotOf unit port)), .int ou, .int (xAt 36 U (s_X0_slotOf ou op))]) (rest := []) (ws' := wX cI ad U T F C B RU RC WU (s_X0_hops_ST U T F WU ST RP TR unit (xAt 36 U (s_X0_slotOf unit port))) (s_X0_hops_RP U T F WU ST RP TR unit (xAt 36 U (s_X0_slotOf unit port))) (s_X0_hops_RN U T F WU ST RP TR unit (xAt 36 U (s_X0_slotOf unit port))) WT SM CC TR) (pc' := 49) hK hA (k_X0_hops l D cI ad U T F C B RU RC WU ST RP RN WT SM CC TR unit (xAt 36 U (s_X0_slotOf unit port)) ou (xAt 36 U (s_X0_slotOf ou op)) hb_TR hu (hm1 h1) hu2 (hm2 h2)) (cwV 4 C0.2.2.2.2 gX0_meet_X0_hops rfl rfl rfl (by decide +kernel) ⟨Nat.le_of_ble_eq_true rfl, Nat.le_of_ble_eq_true rfl⟩) ⟨0, 0, _, _, _, rfl, rfl⟩ PLs.all rfl rfl (Nat.le_of_ble_eq_true rfl) ⟨Nat.zero_le _, Nat.zero_le _⟩ dX0_meet_46 rfl ?_
      refine v_iconst C0 (pc' := 50) (-1) (by decide) dX0_meet_49 rfl ?_
      refine v_icmp_eq C0 57 (pc' := 53) dX0_meet_50 (by decide) rfl (fun h3 => ?_) (fun h3 => ?_)
      · refine v_iconst C0 (pc' := 58) 0 (by decide) dX0_meet_57 rfl ?_
        refine v_world (ws' := wX cI ad U T F C B RU RC WU (s_X0_meet_ST U T F WU ST RP TR unit port ou op) (s_X0_meet_RP U T F WU ST RP TR unit port ou op) (s_X0_meet_RN U T F WU ST RP RN TR unit port ou op) WT SM CC TR) (by simp only [s_X0_meet, s_X0_meet_ST, s_X0_meet_RP, s_X0_meet_RN, if_neg h1, if_neg h2, if_pos h3]) ?_
        exact v_zret C0 hr hlk hK (Or.inl rfl : (0 : Int32) = 0 ∨ (0 : Int32) = 1) (by simp only [s_X0_meet, s_X0_meet_ST, s_X0_meet_RP, s_X0_meet_RN, if_neg h1, if_neg h2, if_pos h3]) dX0_meet_58
      · refine v_iconst C0 (pc' := 54) 1 (by decide) dX0_meet_53 rfl ?_
        refine v_goto C0 58 dX0_meet_54 (by decide) ?_
        refine v_world (ws' := wX cI ad U T F C B RU RC WU (s_X0_meet_ST U T F WU ST RP TR unit port ou op) (s_X0_meet_RP U T F WU ST RP TR unit port ou op) (s_X0_meet_RN U T F WU ST RP RN TR unit port ou op) WT SM CC TR) (by simp only [s_X0_meet, s_X0_meet_ST, s_X0_meet_RP, s_X0_meet_RN, if_neg h1, if_neg h2, if_neg h3]) ?_
        exact v_zret C0 hr hlk hK (Or.inr rfl : (1 : Int32) = 0 ∨ (1 : Int32) = 1) (by simp only [s_X0_meet, s_X0_meet_ST, s_X0_meet_RP, s_X0_meet_RN, if_neg h1, if_neg h2, if_neg h3]) dX0_meet_58
theorem b_X0_meet (U : Nat → Int32) (T : Nat → Int32) (F : Nat → Int32) (WU : Nat → Int32) (ST : Nat → Int32) (RP : Nat → Int32) (TR : Int32) (unit : Int32) (port : Int32) (ou : Int32) (op : Int32) : s_X0_meet U T F WU ST RP TR unit port ou op = 0 ∨ s_X0_meet U T F WU ST RP TR unit port ou op = 1 := by unfold s_X0_meet; (repeat' split) <;> first | exact Or.inl rfl | exact Or.inr rfl
set_option maxHeartbeats 4000000 in
set_option maxRecDepth 100000 in
theorem kx_X0_meet_IAE (l : Launch) (hst : l.stackTraces = false) (D : va_G) (cI : ClassId) (ad : Nat → Nat) (U : Nat → Int32) (T : Nat → Int32) (F : Nat → Int32) (C : Nat → Int32) (B : Nat → Int32) (RU : Nat → Int32) (RC : Nat → Int32) (WU : Nat → Int32) (ST : Nat → Int32) (RP : Nat → Int32) (RN : Int32) (WT : Nat → Int32) (SM : Nat → Int32) (CC : Int32) (TR : Int32) (unit : Int32) (port : Int32) (ou : Int32) (op : Int32) (hb : ¬ ((okU unit ∧ okU port) ∧ (okU ou ∧ okU op))) : Kx l yX0_meet wsX0_meet 8 123 D (TI cI) [.ref (ad 0), .int unit, .int port, .int ou, .int op] (wX cI ad U T F C B RU RC WU ST RP RN WT SM CC TR) xIAE := by
  refine Kx.of (cc := cX0_meet) (maxL := 7) (lv0 := [(0, .ref (ad 0)), (1, .int unit), (2, .int port), (3, .int ou), (4, .int op)]) (by decide +kernel) rfl (Nat.le_of_ble_eq_true rfl) rfl ?_
  intro p e s m args below meth c A C0 hT0 hlk hK hA hEN
  refine v_aload_n C0 (pc' := 1) 0 rfl rfl dX0_meet_0 rfl ?_
  refine v_get C0 hK (C := RX0) (T := TX0) (N := 15) (pc' := 4) 0 0 rfl rfl rfl (by decide) in_X0_meet fl_X0_meet_9 rfl dX0_meet_1 rfl ?_
  refine v_iload_n C0 (pc' := 5) 1 rfl rfl dX0_meet_4 rfl ?_
  refine v_iload_n C0 (pc' := 6) 2 rfl rfl dX0_meet_5 rfl ?_
  by_cases hs : okU unit ∧ okU port
  · refine v_callSi0 C0 (av := [.int unit, .int port]) (rest := [.ref (ad 1)]) (ws' := wX cI ad U T F C B RU RC WU ST RP RN WT SM CC TR) (pc' := 9) hK hA (k_X0_slotOf l D cI unit port hs.1 hs.2) (va_cwS 2 C0.2.2.2.2 gX0_meet_X0_slotOf rfl rfl rfl (by decide +kernel) ⟨Nat.le_of_ble_eq_true rfl, Nat.le_of_ble_eq_true rfl⟩) PLs.nil rfl rfl (Nat.le_of_ble_eq_true rfl) ⟨Nat.zero_le _, Nat.zero_le _⟩ dX0_meet_6 rfl ?_
    refine v_callSi0 C0 (av := [.ref (ad 1), .int (s_X0_slotOf unit port)]) (rest := []) (ws' := wX cI ad U T F C B RU RC WU ST RP RN WT SM CC TR) (pc' := 12) hK hA (k_X0_at l D cI (ad 1) 36 U (s_X0_slotOf unit port) (by decide)) (va_cwS 2 C0.2.2.2.2 gX0_meet_X0_at rfl rfl rfl (by decide +kernel) ⟨Nat.le_of_ble_eq_true rfl, Nat.le_of_ble_eq_true rfl⟩) (PLs.one0 1 rfl) rfl rfl (Nat.le_of_ble_eq_true rfl) ⟨Nat.zero_le _, Nat.zero_le _⟩ dX0_meet_9 rfl ?_
    refine v_istore C0 (lv' := [(5, .int (xAt 36 U (s_X0_slotOf unit port))), (0, .ref (ad 0)), (1, .int unit), (2, .int port), (3, .int ou), (4, .int op)]) (pc' := 14) (by decide) rfl dX0_meet_12 rfl ?_
    refine v_aload_n C0 (pc' := 15) 1 rfl rfl dX0_meet_14 rfl ?_
    refine v_get C0 hK (C := RX0) (T := TX0) (N := 15) (pc' := 18) 0 0 rfl rfl rfl (by decide) in_X0_meet fl_X0_meet_9 rfl dX0_meet_15 rfl ?_
    refine v_iload_n C0 (pc' := 19) 4 rfl rfl dX0_meet_18 rfl ?_
    refine v_iload C0 (pc' := 21) 5 rfl dX0_meet_19 rfl ?_
    exact v_callSx_out C0 (av := [.int ou, .int op]) (rest := [.ref (ad 1)]) hK hA hEN (kx_X0_slotOf_IAE l hst D cI ou op (fun q => hb ⟨hs, q⟩)) (va_cwS 2 C0.2.2.2.2 gX0_meet_X0_slotOf rfl rfl rfl (by decide +kernel) ⟨Nat.le_of_ble_eq_true rfl, Nat.le_of_ble_eq_true rfl⟩) PLs.nil rfl rfl (Nat.le_of_ble_eq_true rfl) ⟨Nat.le_refl _, Nat.le_refl _⟩ dX0_meet_21 hT0 hlk (Nat.le_refl _) (Nat.le_refl _)
  · exact v_callSx_out C0 (av := [.int unit, .int port]) (rest := [.ref (ad 1)]) hK hA hEN (kx_X0_slotOf_IAE l hst D cI unit port hs) (va_cwS 2 C0.2.2.2.2 gX0_meet_X0_slotOf rfl rfl rfl (by decide +kernel) ⟨Nat.le_of_ble_eq_true rfl, Nat.le_of_ble_eq_true rfl⟩) PLs.nil rfl rfl (Nat.le_of_ble_eq_true rfl) ⟨Nat.le_refl _, Nat.le_refl _⟩ dX0_meet_6 hT0 hlk (Nat.le_refl _) (Nat.le_refl _)
set_option maxHeartbeats 4000000 in
set_option maxRecDepth 100000 in
theorem kx_X0_changes_IAE (l : Launch) (hst : l.stackTraces = false) (D : va_G) (cI : ClassId) (ad : Nat → Nat) (U : Nat → Int32) (T : Nat → Int32) (F : Nat → Int32) (C : Nat → Int32) (B : Nat → Int32) (RU : Nat → Int32) (RC : Nat → Int32) (WU : Nat → Int32) (ST : Nat → Int32) (RP : Nat → Int32) (RN : Int32) (WT : Nat → Int32) (SM : Nat → Int32) (CC : Int32) (TR : Int32) (unit : Int32) (port : Int32) (ou : Int32) (op : Int32) (hb : ¬ ((okU unit ∧ okU port) ∧ (okU ou ∧ okU op))) : Kx l yX0_changes wsX0_changes 8 123 D (TI cI) [.ref (ad 0), .int unit, .int port, .int ou, .int op] (wX cI ad U T F C B RU RC WU ST RP RN WT SM CC TR) xIAE := by
  refine Kx.of (cc := cX0_changes) (maxL := 8) (lv0 := [(0, .ref (ad 0)), (1, .int unit), (2, .int port), (3, .int ou), (4, .int op)]) (by decide +kernel) rfl (Nat.le_of_ble_eq_true rfl) rfl ?_
  intro p e s m args below meth c A C0 hT0 hlk hK hA hEN
  refine v_aload_n C0 (pc' := 1) 0 rfl rfl dX0_changes_0 rfl ?_
  refine v_get C0 hK (C := RX0) (T := TX0) (N := 15) (pc' := 4) 0 0 rfl rfl rfl (by decide) in_X0_changes fl_X0_changes_9 rfl dX0_changes_1 rfl ?_
  refine v_iload_n C0 (pc' := 5) 1 rfl rfl dX0_changes_4 rfl ?_
  refine v_iload_n C0 (pc' := 6) 2 rfl rfl dX0_changes_5 rfl ?_
  by_cases hs : okU unit ∧ okU port
  · refine v_callSi0 C0 (av := [.int unit, .int port]) (rest := [.ref (ad 1)]) (ws' := wX cI ad U T F C B RU RC WU ST RP RN WT SM CC TR) (pc' := 9) hK hA (k_X0_slotOf l D cI unit port hs.1 hs.2) (va_cwS 2 C0.2.2.2.2 gX0_changes_X0_slotOf rfl rfl rfl (by decide +kernel) ⟨Nat.le_of_ble_eq_true rfl, Nat.le_of_ble_eq_true rfl⟩) PLs.nil rfl rfl (Nat.le_of_ble_eq_true rfl) ⟨Nat.zero_le _, Nat.zero_le _⟩ dX0_changes_6 rfl ?_
    refine v_callSi0 C0 (av := [.ref (ad 1), .int (s_X0_slotOf unit port)]) (rest := []) (ws' := wX cI ad U T F C B RU RC WU ST RP RN WT SM CC TR) (pc' := 12) hK hA (k_X0_at l D cI (ad 1) 36 U (s_X0_slotOf unit port) (by decide)) (va_cwS 2 C0.2.2.2.2 gX0_changes_X0_at rfl rfl rfl (by decide +kernel) ⟨Nat.le_of_ble_eq_true rfl, Nat.le_of_ble_eq_true rfl⟩) (PLs.one0 1 rfl) rfl rfl (Nat.le_of_ble_eq_true rfl) ⟨Nat.zero_le _, Nat.zero_le _⟩ dX0_changes_9 rfl ?_
    refine v_istore C0 (lv' := [(5, .int (xAt 36 U (s_X0_slotOf unit port))), (0, .ref (ad 0)), (1, .int unit), (2, .int port), (3, .int ou), (4, .int op)]) (pc' := 14) (by decide) rfl dX0_changes_12 rfl ?_
    refine v_aload_n C0 (pc' := 15) 1 rfl rfl dX0_changes_14 rfl ?_
    refine v_get C0 hK (C := RX0) (T := TX0) (N := 15) (pc' := 18) 0 0 rfl rfl rfl (by decide) in_X0_changes fl_X0_changes_9 rfl dX0_changes_15 rfl ?_
    refine v_iload_n C0 (pc' := 19) 4 rfl rfl dX0_changes_18 rfl ?_
    refine v_iload C0 (pc' := 21) 5 rfl dX0_changes_19 rfl ?_
    exact v_callSx_out C0 (av := [.int ou, .int op]) (rest := [.ref (ad 1)]) hK hA hEN (kx_X0_slotOf_IAE l hst D cI ou op (fun q => hb ⟨hs, q⟩)) (va_cwS 2 C0.2.2.2.2 gX0_changes_X0_slotOf rfl rfl rfl (by decide +kernel) ⟨Nat.le_of_ble_eq_true rfl, Nat.le_of_ble_eq_true rfl⟩) PLs.nil rfl rfl (Nat.le_of_ble_eq_true rfl) ⟨Nat.le_refl _, Nat.le_refl _⟩ dX0_changes_21 hT0 hlk (Nat.le_refl _) (Nat.le_refl _)
  · exact v_callSx_out C0 (av := [.int unit, .int port]) (rest := [.ref (ad 1)]) hK hA hEN (kx_X0_slotOf_IAE l hst D cI unit port hs) (va_cwS 2 C0.2.2.2.2 gX0_changes_X0_slotOf rfl rfl rfl (by decide +kernel) ⟨Nat.le_of_ble_eq_true rfl, Nat.le_of_ble_eq_true rfl⟩) PLs.nil rfl rfl (Nat.le_of_ble_eq_true rfl) ⟨Nat.le_refl _, Nat.le_refl _⟩ dX0_changes_6 hT0 hlk (Nat.le_refl _) (Nat.le_refl _)
def s_X0_joined (U : Nat → Int32) (T : Nat → Int32) (F : Nat → Int32) (WU : Nat → Int32) (ST : Nat → Int32) (RP : Nat → Int32) (TR : Int32) (unit : Int32) (lane : Int32) : Int32 := s_X0_walkFrom_RN U T F WU (s_X0_forgetWalks_ST ST) RP (s_X0_forgetWalks_RN ) TR (s_X0_placeOf unit lane)
def s_X0_joined_ST (U : Nat → Int32) (T : Nat → Int32) (F : Nat → Int32) (WU : Nat → Int32) (ST : Nat → Int32) (RP : Nat → Int32) (TR : Int32) (unit : Int32) (lane : Int32) : Nat → Int32 := (s_X0_walkFrom_ST U T F WU (s_X0_forgetWalks_ST ST) RP (s_X0_forgetWalks_RN ) TR (s_X0_placeOf unit lane))
def s_X0_joined_RP (U : Nat → Int32) (T : Nat → Int32) (F : Nat → Int32) (WU : Nat → Int32) (ST : Nat → Int32) (RP : Nat → Int32) (TR : Int32) (unit : Int32) (lane : Int32) : Nat → Int32 := (s_X0_walkFrom_RP U T F WU (s_X0_forgetWalks_ST ST) RP (s_X0_forgetWalks_RN ) TR (s_X0_placeOf unit lane))
def s_X0_joined_RN (U : Nat → Int32) (T : Nat → Int32) (F : Nat → Int32) (WU : Nat → Int32) (ST : Nat → Int32) (RP : Nat → Int32) (TR : Int32) (unit : Int32) (lane : Int32) : Int32 := (s_X0_walkFrom_RN U T F WU (s_X0_forgetWalks_ST ST) RP (s_X0_forgetWalks_RN ) TR (s_X0_placeOf unit lane))
set_option maxHeartbeats 4000000 in
set_option maxRecDepth 100000 in
theorem k_X0_joined (l : Launch) (D : va_G) (cI : ClassId) (ad : Nat → Nat) (U : Nat → Int32) (T : Nat → Int32) (F : Nat → Int32) (C : Nat → Int32) (B : Nat → Int32) (RU : Nat → Int32) (RC : Nat → Int32) (WU : Nat → Int32) (ST : Nat → Int32) (RP : Nat → Int32) (RN : Int32) (WT : Nat → Int32) (SM : Nat → Int32) (CC : Int32) (TR : Int32) (unit : Int32) (lane : Int32) (hb_TR : TR = 0 ∨ TR = 1) (hu : okU unit) (hl : okL lane) : Ki l yX0_joined wsX0_joined 6 137 0 0 D (TI cI) [.ref (ad 0), .int unit, .int lane] (wX cI ad U T F C B RU RC WU ST RP RN WT SM CC TR) (wX cI ad U T F C B RU RC WU (s_X0_joined_ST U T F WU ST RP TR unit lane) (s_X0_joined_RP U T F WU ST RP TR unit lane) (s_X0_joined_RN U T F WU ST RP TR unit lane) WT SM CC TR) (s_X0_joined U T F WU ST RP TR unit lane) := by
  refine Ki.of (cc := cX0_joined) (maxL := 4) (rt := .int) (lv0 := [(0, .ref (ad 0)), (1, .int unit), (2, .int lane)]) (by decide +kernel) rfl (Nat.le_of_ble_eq_true rfl) rfl ?_
  intro p e s m args below meth c A C0 hr hlk hK hA
  refine v_iload_n C0 (pc' := 1) 1 rfl rfl dX0_joined_0 rfl ?_
  refine v_iload_n C0 (pc' := 2) 2 rfl rfl dX0_joined_1 rfl ?_
  refine v_callSi0 C0 (av := [.int unit, .int lane]) (rest := []) (ws' := wX cI ad U T F C B RU RC WU ST RP RN WT SM CC TR) (pc' := 5) hK hA (k_X0_placeOf l D cI unit lane hu hl) (va_cwS 2 C0.2.2.2.2 gX0_joined_X0_placeOf rfl rfl rfl (by decide +kernel) ⟨Nat.le_of_ble_eq_true rfl, Nat.le_of_ble_eq_true rfl⟩) PLs.nil rfl rfl (Nat.le_of_ble_eq_true rfl) ⟨Nat.zero_le _, Nat.zero_le _⟩ dX0_joined_2 rfl ?_
  refine v_istore_n C0 (lv' := [(3, .int (s_X0_placeOf unit lane)), (0, .ref (ad 0)), (1, .int unit), (2, .int lane)]) (pc' := 6) rfl (by decide) rfl dX0_joined_5 rfl ?_
  refine v_aload_n C0 (pc' := 7) 1 rfl rfl dX0_joined_6 rfl ?_
  refine v_callVv0 C0 (av := []) (rest := []) (ws' := wX cI ad U T F C B RU RC WU (s_X0_forgetWalks_ST ST) RP (s_X0_forgetWalks_RN ) WT SM CC TR) (pc' := 10) hK hA (k_X0_forgetWalks l D cI ad U T F C B RU RC WU ST RP RN WT SM CC TR ) (cwV 0 C0.2.2.2.2 gX0_joined_X0_forgetWalks rfl rfl rfl (by decide +kernel) ⟨Nat.le_of_ble_eq_true rfl, Nat.le_of_ble_eq_true rfl⟩) ⟨0, 0, _, _, _, rfl, rfl⟩ PLs.all rfl rfl (Nat.le_of_ble_eq_true rfl) ⟨Nat.zero_le _, Nat.zero_le _⟩ dX0_joined_7 rfl ?_
  refine v_aload_n C0 (pc' := 11) 1 rfl rfl dX0_joined_10 rfl ?_
  refine v_iload_n C0 (pc' := 12) 0 rfl rfl dX0_joined_11 rfl ?_
  refine v_callVv0 C0 (av := [.int (s_X0_placeOf unit lane)]) (rest := []) (ws' := wX cI ad U T F C B RU RC WU (s_X0_walkFrom_ST U T F WU (s_X0_forgetWalks_ST ST) RP (s_X0_forgetWalks_RN ) TR (s_X0_placeOf unit lane)) (s_X0_walkFrom_RP U T F WU (s_X0_forgetWalks_ST ST) RP (s_X0_forgetWalks_RN ) TR (s_X0_placeOf unit lane)) (s_X0_walkFrom_RN U T F WU (s_X0_forgetWalks_ST ST) RP (s_X0_forgetWalks_RN ) TR (s_X0_placeOf unit lane)) WT SM CC TR) (pc' := 15) hK hA (k_X0_walkFrom l D cI ad U T F C B RU RC WU (s_X0_forgetWalks_ST ST) RP (s_X0_forgetWalks_RN ) WT SM CC TR (s_X0_placeOf unit lane) hb_TR) (cwV 1 C0.2.2.2.2 gX0_joined_X0_walkFrom rfl rfl rfl (by decide +kernel) ⟨Nat.le_of_ble_eq_true rfl, Nat.le_of_ble_eq_true rfl⟩) ⟨0, 0, _, _, _, rfl, rfl⟩ PLs.all rfl rfl (Nat.le_of_ble_eq_true rfl) ⟨Nat.zero_le _, Nat.zero_le _⟩ dX0_joined_12 rfl ?_
  refine v_aload_n C0 (pc' := 16) 1 rfl rfl dX0_joined_15 rfl ?_
  refine v_get C0 hK (C := RX0) (T := TX0) (N := 15) (pc' := 19) 0 10 rfl rfl rfl (by decide) in_X0_joined fl_X0_joined_143 rfl dX0_joined_16 rfl ?_
  refine v_world (ws' := wX cI ad U T F C B RU RC WU (s_X0_joined_ST U T F WU ST RP TR unit lane) (s_X0_joined_RP U T F WU ST RP TR unit lane) (s_X0_joined_RN U T F WU ST RP TR unit lane) WT SM CC TR) rfl ?_
  exact v_iret C0 hr hlk hK rfl dX0_joined_19
set_option maxHeartbeats 4000000 in
set_option maxRecDepth 100000 in
theorem kx_X0_joined_IAE (l : Launch) (hst : l.stackTraces = false) (D : va_G) (cI : ClassId) (ad : Nat → Nat) (U : Nat → Int32) (T : Nat → Int32) (F : Nat → Int32) (C : Nat → Int32) (B : Nat → Int32) (RU : Nat → Int32) (RC : Nat → Int32) (WU : Nat → Int32) (ST : Nat → Int32) (RP : Nat → Int32) (RN : Int32) (WT : Nat → Int32) (SM : Nat → Int32) (CC : Int32) (TR : Int32) (unit : Int32) (lane : Int32) (hb : ¬ (okU unit ∧ okL lane)) : Kx l yX0_joined wsX0_joined 8 123 D (TI cI) [.ref (ad 0), .int unit, .int lane] (wX cI ad U T F C B RU RC WU ST RP RN WT SM CC TR) xIAE := by
  refine Kx.of (cc := cX0_joined) (maxL := 4) (lv0 := [(0, .ref (ad 0)), (1, .int unit), (2, .int lane)]) (by decide +kernel) rfl (Nat.le_of_ble_eq_true rfl) rfl ?_
  intro p e s m args below meth c A C0 hT0 hlk hK hA hEN
  refine v_iload_n C0 (pc' := 1) 1 rfl rfl dX0_joined_0 rfl ?_
  refine v_iload_n C0 (pc' := 2) 2 rfl rfl dX0_joined_1 rfl ?_
  exact v_callSx_out C0 (av := [.int unit, .int lane]) (rest := []) hK hA hEN (kx_X0_placeOf_IAE l hst D cI unit lane hb) (va_cwS 2 C0.2.2.2.2 gX0_joined_X0_placeOf rfl rfl rfl (by decide +kernel) ⟨Nat.le_of_ble_eq_true rfl, Nat.le_of_ble_eq_true rfl⟩) PLs.nil rfl rfl (Nat.le_of_ble_eq_true rfl) ⟨Nat.le_refl _, Nat.le_refl _⟩ dX0_joined_2 hT0 hlk (Nat.le_refl _) (Nat.le_refl _)
def s_X0_changes_L1 (U : Nat → Int32) (T : Nat → Int32) (F : Nat → Int32) (WU : Nat → Int32) (TR : Int32) (unit : Int32) (port : Int32) (i1 : Nat) (WT_L1 : Nat → Int32) : Nat → Int32 := (xPut 36 WT_L1 (nI i1) (s_X0_changesOver U T F WU TR (nI i1) (xAt 36 U (s_X0_slotOf unit port))))
def s_X0_changes (U : Nat → Int32) (T : Nat → Int32) (F : Nat → Int32) (WU : Nat → Int32) (WT : Nat → Int32) (SM : Nat → Int32) (TR : Int32) (unit : Int32) (port : Int32) (ou : Int32) (op : Int32) : Int32 := if (xAt 36 U (s_X0_slotOf unit port)) = 0 then (-1) else (if (xAt 36 U (s_X0_slotOf unit port)) = (xAt 36 U (s_X0_slotOf ou op)) then (if (xAt 6 (s_X0_leastSums F (xPut 6 (xFill SM 1000 6) unit 0) (lp (s_X0_changes_L1 U T F WU TR unit port) 36 WT)) ou) = 1000 then (-1) else xAt 6 (s_X0_leastSums F (xPut 6 (xFill SM 1000 6) unit 0) (lp (s_X0_changes_L1 U T F WU TR unit port) 36 WT)) ou) else (-1))
def s_X0_changes_WT (U : Nat → Int32) (T : Nat → Int32) (F : Nat → Int32) (WU : Nat → Int32) (WT : Nat → Int32) (TR : Int32) (unit : Int32) (port : Int32) (ou : Int32) (op : Int32) : Nat → Int32 := if (xAt 36 U (s_X0_slotOf unit port)) = 0 then WT else (if (xAt 36 U (s_X0_slotOf unit port)) = (xAt 36 U (s_X0_slotOf ou op)) then ((lp (s_X0_changes_L1 U T F WU TR unit port) 36 WT)) else WT)
def s_X0_changes_SM (U : Nat → Int32) (T : Nat → Int32) (F : Nat → Int32) (WU : Nat → Int32) (WT : Nat → Int32) (SM : Nat → Int32) (TR : Int32) (unit : Int32) (port : Int32) (ou : Int32) (op : Int32) : Nat → Int32 := if (xAt 36 U (s_X0_slotOf unit port)) = 0 then SM else (if (xAt 36 U (s_X0_slotOf unit port)) = (xAt 36 U (s_X0_slotOf ou op)) then ((s_X0_leastSums F (xPut 6 (xFill SM 1000 6) unit 0) (lp (s_X0_changes_L1 U T F WU TR unit port) 36 WT))) else SM)
set_option maxHeartbeats 4000000 in
set_option maxRecDepth 100000 in
theorem k_X0_changes (l : Launch) (D : va_G) (cI : ClassId) (ad : Nat → Nat) (U : Nat → Int32) (T : Nat → Int32) (F : Nat → Int32) (C : Nat → Int32) (B : Nat → Int32) (RU : Nat → Int32) (RC : Nat → Int32) (WU : Nat → Int32) (ST : Nat → Int32) (RP : Nat → Int32) (RN : Int32) (WT : Nat → Int32) (SM : Nat → Int32) (CC : Int32) (TR : Int32) (unit : Int32) (port : Int32) (ou : Int32) (op : Int32) (hb_TR : TR = 0 ∨ TR = 1) (hu : okU unit) (hp : okU port) (hu2 : okU ou) (hp2 : okU op) : Ki l yX0_changes wsX0_changes 3 72 0 0 D (TI cI) [.ref (ad 0), .int unit, .int port, .int ou, .int op] (wX cI ad U T F C B RU RC WU ST RP RN WT SM CC TR) (wX cI ad U T F C B RU RC WU ST RP RN (s_X0_changes_WT U T F WU WT TR unit port ou op) (s_X0_changes_SM U T F WU WT SM TR unit port ou op) CC TR) (s_X0_changes U T F WU WT SM TR unit port ou op) := by
  refine Ki.of (cc := cX0_changes) (maxL := 8) (rt := .int) (lv0 := [(0, .ref (ad 0)), (1, .int unit), (2, .int port), (3, .int ou), (4, .int op)]) (by decide +kernel) rfl (Nat.le_of_ble_eq_true rfl) rfl ?_
  intro p e s m args below meth c A C0 hr hlk hK hA
  refine v_aload_n C0 (pc' := 1) 0 rfl rfl dX0_changes_0 rfl ?_
  refine v_get C0 hK (C := RX0) (T := TX0) (N := 15) (pc' := 4) 0 0 rfl rfl rfl (by decide) in_X0_changes fl_X0_changes_9 rfl dX0_changes_1 rfl ?_
  refine v_iload_n C0 (pc' := 5) 1 rfl rfl dX0_changes_4 rfl ?_
  refine v_iload_n C0 (pc' := 6) 2 rfl rfl dX0_changes_5 rfl ?_
  refine v_callSi0 C0 (av := [.int unit, .int port]) (rest := [.ref (ad 1)]) (ws' := wX cI ad U T F C B RU RC WU ST RP RN WT SM CC TR) (pc' := 9) hK hA (k_X0_slotOf l D cI unit port hu hp) (va_cwS 2 C0.2.2.2.2 gX0_changes_X0_slotOf rfl rfl rfl (by decide +kernel) ⟨Nat.le_of_ble_eq_true rfl, Nat.le_of_ble_eq_true rfl⟩) PLs.nil rfl rfl (Nat.le_of_ble_eq_true rfl) ⟨Nat.zero_le _, Nat.zero_le _⟩ dX0_changes_6 rfl ?_
  refine v_callSi0 C0 (av := [.ref (ad 1), .int (s_X0_slotOf unit port)]) (rest := []) (ws' := wX cI ad U T F C B RU RC WU ST RP RN WT SM CC TR) (pc' := 12) hK hA (k_X0_at l D cI (ad 1) 36 U (s_X0_slotOf unit port) (by decide)) (va_cwS 2 C0.2.2.2.2 gX0_changes_X0_at rfl rfl rfl (by decide +kernel) ⟨Nat.le_of_ble_eq_true rfl, Nat.le_of_ble_eq_true rfl⟩) (PLs.one0 1 rfl) rfl rfl (Nat.le_of_ble_eq_true rfl) ⟨Nat.zero_le _, Nat.zero_le _⟩ dX0_changes_9 rfl ?_
  refine v_istore C0 (lv' := [(5, .int (xAt 36 U (s_X0_slotOf unit port))), (0, .ref (ad 0)), (1, .int unit), (2, .int port), (3, .int ou), (4, .int op)]) (pc' := 14) (by decide) rfl dX0_changes_12 rfl ?_
  refine v_aload_n C0 (pc' := 15) 1 rfl rfl dX0_changes_14 rfl ?_
  refine v_get C0 hK (C := RX0) (T := TX0) (N := 15) (pc' := 18) 0 0 rfl rfl rfl (by decide) in_X0_changes fl_X0_changes_9 rfl dX0_changes_15 rfl ?_
  refine v_iload_n C0 (pc' := 19) 4 rfl rfl dX0_changes_18 rfl ?_
  refine v_iload C0 (pc' := 21) 5 rfl dX0_changes_19 rfl ?_
  refine v_callSi0 C0 (av := [.int ou, .int op]) (rest := [.ref (ad 1)]) (ws' := wX cI ad U T F C B RU RC WU ST RP RN WT SM CC TR) (pc' := 24) hK hA (k_X0_slotOf l D cI ou op hu2 hp2) (va_cwS 2 C0.2.2.2.2 gX0_changes_X0_slotOf rfl rfl rfl (by decide +kernel) ⟨Nat.le_of_ble_eq_true rfl, Nat.le_of_ble_eq_true rfl⟩) PLs.nil rfl rfl (Nat.le_of_ble_eq_true rfl) ⟨Nat.zero_le _, Nat.zero_le _⟩ dX0_changes_21 rfl ?_
  refine v_callSi0 C0 (av := [.ref (ad 1), .int (s_X0_slotOf ou op)]) (rest := []) (ws' := wX cI ad U T F C B RU RC WU ST RP RN WT SM CC TR) (pc' := 27) hK hA (k_X0_at l D cI (ad 1) 36 U (s_X0_slotOf ou op) (by decide)) (va_cwS 2 C0.2.2.2.2 gX0_changes_X0_at rfl rfl rfl (by decide +kernel) ⟨Nat.le_of_ble_eq_true rfl, Nat.le_of_ble_eq_true rfl⟩) (PLs.one0 1 rfl) rfl rfl (Nat.le_of_ble_eq_true rfl) ⟨Nat.zero_le _, Nat.zero_le _⟩ dX0_changes_24 rfl ?_
  refine v_istore C0 (lv' := [(6, .int (xAt 36 U (s_X0_slotOf ou op))), (5, .int (xAt 36 U (s_X0_slotOf unit port))), (0, .ref (ad 0)), (1, .int unit), (2, .int port), (3, .int ou), (4, .int op)]) (pc' := 29) (by decide) rfl dX0_changes_27 rfl ?_
  refine v_iload C0 (pc' := 31) 1 rfl dX0_changes_29 rfl ?_
  refine v_if_eq C0 41 (pc' := 34) dX0_changes_31 (by decide) rfl (fun h1 => ?_) (fun h1 => ?_)
  · refine v_iconst C0 (pc' := 42) (-1) (by decide) dX0_changes_41 rfl ?_
    refine v_world (ws' := wX cI ad U T F C B RU RC WU ST RP RN (s_X0_changes_WT U T F WU WT TR unit port ou op) (s_X0_changes_SM U T F WU WT SM TR unit port ou op) CC TR) (by simp only [s_X0_changes, s_X0_changes_WT, s_X0_changes_SM, if_pos h1]) ?_
    exact v_iret C0 hr hlk hK (by simp only [s_X0_changes, s_X0_changes_WT, s_X0_changes_SM, if_pos h1]) dX0_changes_42
  · refine v_iload C0 (pc' := 36) 1 rfl dX0_changes_34 rfl ?_
    refine v_iload C0 (pc' := 38) 0 rfl dX0_changes_36 rfl ?_
    refine v_icmp_eq C0 43 (pc' := 41) dX0_changes_38 (by decide) rfl (fun h2 => ?_) (fun h2 => ?_)
    · refine v_iconst C0 (pc' := 44) 0 (by decide) dX0_changes_43 rfl ?_
      refine v_istore C0 (lv' := [(7, .int 0), (6, .int (xAt 36 U (s_X0_slotOf ou op))), (5, .int (xAt 36 U (s_X0_slotOf unit port))), (0, .ref (ad 0)), (1, .int unit), (2, .int port), (3, .int ou), (4, .int op)]) (pc' := 46) (by decide) rfl dX0_changes_44 rfl ?_
      suffices LP1 : ∀ (j1 i1 : Nat) (x1 : Int32) (WT_L1 : Nat → Int32), i1 + j1 = 36 → x1 = nI i1 → WT_L1 = lp (s_X0_changes_L1 U T F WU TR unit port) i1 WT → V p l e { frames := 3, cells := 0, slots := 0, locals := 72 } s m args below meth c D A 8 0 0 (MQ below (QI D (TI cI) (wX cI ad U T F C B RU RC WU ST RP RN (s_X0_changes_WT U T F WU WT TR unit port ou op) (s_X0_changes_SM U T F WU WT SM TR unit port ou op) CC TR) A (s_X0_changes U T F WU WT SM TR unit port ou op)) args s 0 0 A) (wX cI ad U T F C B RU RC WU ST RP RN WT_L1 SM CC TR) [(7, .int x1), (6, .int (xAt 36 U (s_X0_slotOf ou op))), (5, .int (xAt 36 U (s_X0_slotOf unit port))), (0, .ref (ad 0)), (1, .int unit), (2, .int port), (3, .int ou), (4, .int op)] 46 [] by
        exact v_sub (lv' := [(7, .int 0), (6, .int (xAt 36 U (s_X0_slotOf ou op))), (5, .int (xAt 36 U (s_X0_slotOf unit port))), (0, .ref (ad 0)), (1, .int unit), (2, .int port), (3, .int ou), (4, .int op)]) [0, 1, 2, 3, 4, 5, 6, 7] rfl (LP1 36 0 0 WT (Nat.zero_add _) nI_0.symm (lp_zero _ _).symm)
      intro j1
      induction j1 with
      | zero =>
        intro i1 x1 WT_L1 hi1 hx1 hs_L1
        have hi1 : 36 = i1 := by omega
        subst hi1
        subst hx1
        refine v_iload C0 (pc' := 48) 0 rfl dX0_changes_46 rfl ?_
        refine v_bipush C0 (pc' := 50) 36 (by decide) dX0_changes_48 rfl ?_
        refine v_icmp_ge C0 76 (pc' := 53) dX0_changes_50 (by decide) rfl (fun h3 => ?_) (fun h3 => ?_)
        · refine v_aload_n C0 (pc' := 77) 3 rfl rfl dX0_changes_76 rfl ?_
          refine v_get C0 hK (C := RX0) (T := TX0) (N := 15) (pc' := 80) 0 12 rfl rfl rfl (by decide) in_X0_changes fl_X0_changes_43 rfl dX0_changes_77 rfl ?_
          refine v_sipush C0 (pc' := 83) 1000 (by decide) dX0_changes_80 rfl ?_
          refine v_callSv0 C0 (av := [.ref (ad 12), .int 1000]) (rest := []) (ws' := wX cI ad U T F C B RU RC WU ST RP RN WT_L1 (xFill SM 1000 6) CC TR) (pc' := 86) hK hA (k_J7_fill_53178 l D cI (ad 12) 6 SM 1000 (by decide)) (va_cwS 2 C0.2.2.2.2 gX0_changes_J7_fill_53178 rfl rfl rfl (by decide +kernel) ⟨Nat.le_of_ble_eq_true rfl, Nat.le_of_ble_eq_true rfl⟩) (PLs.one 12 rfl) rfl rfl (Nat.le_of_ble_eq_true rfl) ⟨Nat.zero_le _, Nat.zero_le _⟩ dX0_changes_83 rfl ?_
          refine v_aload_n C0 (pc' := 87) 3 rfl rfl dX0_changes_86 rfl ?_
          refine v_get C0 hK (C := RX0) (T := TX0) (N := 15) (pc' := 90) 0 12 rfl rfl rfl (by decide) in_X0_changes fl_X0_changes_43 rfl dX0_changes_87 rfl ?_
          refine v_iload_n C0 (pc' := 91) 4 rfl rfl dX0_changes_90 rfl ?_
          refine v_iconst C0 (pc' := 92) 0 (by decide) dX0_changes_91 rfl ?_
          refine v_callSv0 C0 (av := [.ref (ad 12), .int unit, .int 0]) (rest := []) (ws' := wX cI ad U T F C B RU RC WU ST RP RN WT_L1 (xPut 6 (xFill SM 1000 6) unit 0) CC TR) (pc' := 95) hK hA (k_X0_put l D cI (ad 12) 6 (xFill SM 1000 6) unit 0 (by decide)) (va_cwS 3 C0.2.2.2.2 gX0_changes_X0_put rfl rfl rfl (by decide +kernel) ⟨Nat.le_of_ble_eq_true rfl, Nat.le_of_ble_eq_true rfl⟩) (PLs.one 12 rfl) rfl rfl (Nat.le_of_ble_eq_true rfl) ⟨Nat.zero_le _, Nat.zero_le _⟩ dX0_changes_92 rfl ?_
          refine v_aload_n C0 (pc' := 96) 3 rfl rfl dX0_changes_95 rfl ?_
          refine v_aload_n C0 (pc' := 97) 3 rfl rfl dX0_changes_96 rfl ?_
          refine v_get C0 hK (C := RX0) (T := TX0) (N := 15) (pc' := 100) 0 12 rfl rfl rfl (by decide) in_X0_changes fl_X0_changes_43 rfl dX0_changes_97 rfl ?_
          refine v_aload_n C0 (pc' := 101) 3 rfl rfl dX0_changes_100 rfl ?_
          refine v_get C0 hK (C := RX0) (T := TX0) (N := 15) (pc' := 104) 0 11 rfl rfl rfl (by decide) in_X0_changes fl_X0_changes_40 rfl dX0_changes_101 rfl ?_
          refine v_callVv0 C0 (av := [.ref (ad 12), .ref (ad 11)]) (rest := []) (ws' := wX cI ad U T F C B RU RC WU ST RP RN WT_L1 (s_X0_leastSums F (xPut 6 (xFill SM 1000 6) unit 0) WT_L1) CC TR) (pc' := 107) hK hA (k_X0_leastSums l D cI (ad 0) (ad 3) (ad 12) (ad 11) _ F (xPut 6 (xFill SM 1000 6) unit 0) WT_L1  rfl) (cwV 2 C0.2.2.2.2 gX0_changes_X0_leastSums rfl rfl rfl (by decide +kernel) ⟨Nat.le_of_ble_eq_true rfl, Nat.le_of_ble_eq_true rfl⟩) ⟨0, 0, _, _, _, rfl, rfl⟩ (PLs.of (isC := [0, 3, 12, 11]) (isR := [1, 2, 4, 5, 6, 7, 8, 9, 10]) (isP := [9, 0, 1, 10, 2, 3, 4, 5, 6, 7, 8, 12, 11]) (wr := [(ad 1, .inl (cI, 36, .inl U)), (ad 2, .inl (cI, 36, .inl T)), (ad 4, .inl (cI, 36, .inl C)), (ad 5, .inl (cI, 36, .inl B)), (ad 6, .inl (cI, 6, .inl RU)), (ad 7, .inl (cI, 6, .inl RC)), (ad 8, .inl (cI, 6, .inl WU)), (ad 9, .inl (cI, 96, .inl ST)), (ad 10, .inl (cI, 96, .inl RP))]) ⟨rfl, by decide, rfl, by decide, by decide, rfl, by decide⟩) rfl rfl (Nat.le_of_ble_eq_true rfl) ⟨Nat.zero_le _, Nat.zero_le _⟩ dX0_changes_104 rfl ?_
          refine v_aload_n C0 (pc' := 108) 3 rfl rfl dX0_changes_107 rfl ?_
          refine v_get C0 hK (C := RX0) (T := TX0) (N := 15) (pc' := 111) 0 12 rfl rfl rfl (by decide) in_X0_changes fl_X0_changes_43 rfl dX0_changes_108 rfl ?_
          refine v_iload_n C0 (pc' := 112) 6 rfl rfl dX0_changes_111 rfl ?_
          refine v_callSi0 C0 (av := [.ref (ad 12), .int ou]) (rest := []) (ws' := wX cI ad U T F C B RU RC WU ST RP RN WT_L1 (s_X0_leastSums F (xPut 6 (xFill SM 1000 6) unit 0) WT_L1) CC TR) (pc' := 115) hK hA (k_X0_at l D cI (ad 12) 6 (s_X0_leastSums F (xPut 6 (xFill SM 1000 6) unit 0) WT_L1) ou (by decide)) (va_cwS 2 C0.2.2.2.2 gX0_changes_X0_at rfl rfl rfl (by decide +kernel) ⟨Nat.le_of_ble_eq_true rfl, Nat.le_of_ble_eq_true rfl⟩) (PLs.one0 12 rfl) rfl rfl (Nat.le_of_ble_eq_true rfl) ⟨Nat.zero_le _, Nat.zero_le _⟩ dX0_changes_112 rfl ?_
          refine v_istore C0 (lv' := [(7, .int (xAt 6 (s_X0_leastSums F (xPut 6 (xFill SM 1000 6) unit 0) WT_L1) ou)), (6, .int (xAt 36 U (s_X0_slotOf ou op))), (5, .int (xAt 36 U (s_X0_slotOf unit port))), (0, .ref (ad 0)), (1, .int unit), (2, .int port), (3, .int ou), (4, .int op)]) (pc' := 117) (by decide) rfl dX0_changes_115 rfl ?_
          refine v_iload C0 (pc' := 119) 0 rfl dX0_changes_117 rfl ?_
          refine v_sipush C0 (pc' := 122) 1000 (by decide) dX0_changes_119 rfl ?_
          refine v_icmp_ne C0 129 (pc' := 125) dX0_changes_122 (by decide) rfl (fun h4 => ?_) (fun h4 => ?_)
          · refine v_iload C0 (pc' := 131) 0 rfl dX0_changes_129 rfl ?_
            refine v_world (ws' := wX cI ad U T F C B RU RC WU ST RP RN (s_X0_changes_WT U T F WU WT TR unit port ou op) (s_X0_changes_SM U T F WU WT SM TR unit port ou op) CC TR) (by simp only [s_X0_changes, s_X0_changes_WT, s_X0_changes_SM, if_neg h1, if_pos h2, if_pos h3, if_neg h4, ← hs_L1]) ?_
            exact v_iret C0 hr hlk hK (by simp only [s_X0_changes, s_X0_changes_WT, s_X0_changes_SM, if_neg h1, if_pos h2, if_pos h3, if_neg h4, ← hs_L1]) dX0_changes_131
          · refine v_iconst C0 (pc' := 126) (-1) (by decide) dX0_changes_125 rfl ?_
            refine v_goto C0 131 dX0_changes_126 (by decide) ?_
            refine v_world (ws' := wX cI ad U T F C B RU RC WU ST RP RN (s_X0_changes_WT U T F WU WT TR unit port ou op) (s_X0_changes_SM U T F WU WT SM TR unit port ou op) CC TR) (by simp only [s_X0_changes, s_X0_changes_WT, s_X0_changes_SM, if_neg h1, if_pos h2, if_pos h3, if_pos h4, ← hs_L1]) ?_
            exact v_iret C0 hr hlk hK (by simp only [s_X0_changes, s_X0_changes_WT, s_X0_changes_SM, if_neg h1, if_pos h2, if_pos h3, if_pos h4, ← hs_L1]) dX0_changes_131
        · exact absurd (by decide +kernel) h3
      | succ j1 ih1 =>
        intro i1 x1 WT_L1 hi1 hx1 hs_L1
        subst hx1
        refine v_iload C0 (pc' := 48) 0 rfl dX0_changes_46 rfl ?_
        refine v_bipush C0 (pc' := 50) 36 (by decide) dX0_changes_48 rfl ?_
        refine v_icmp_ge C0 76 (pc' := 53) dX0_changes_50 (by decide) rfl (fun h5 => ?_) (fun h5 => ?_)
        · exact absurd h5 (nI_ge (a := i1) (b := 36) (by omega) (by decide))
        · refine v_aload_n C0 (pc' := 54) 3 rfl rfl dX0_changes_53 rfl ?_
          refine v_get C0 hK (C := RX0) (T := TX0) (N := 15) (pc' := 57) 0 11 rfl rfl rfl (by decide) in_X0_changes fl_X0_changes_40 rfl dX0_changes_54 rfl ?_
          refine v_iload C0 (pc' := 59) 0 rfl dX0_changes_57 rfl ?_
          refine v_aload_n C0 (pc' := 60) 3 rfl rfl dX0_changes_59 rfl ?_
          refine v_iload C0 (pc' := 62) 0 rfl dX0_changes_60 rfl ?_
          refine v_iload C0 (pc' := 64) 2 rfl dX0_changes_62 rfl ?_
          refine v_callVi0 C0 (av := [.int (nI i1), .int (xAt 36 U (s_X0_slotOf unit port))]) (rest := [.int (nI i1), .ref (ad 11)]) (ws' := wX cI ad U T F C B RU RC WU ST RP RN WT_L1 SM CC TR) (pc' := 67) hK hA (k_X0_changesOver l D cI ad U T F C B RU RC WU ST RP RN WT_L1 SM CC TR (nI i1) (xAt 36 U (s_X0_slotOf unit port)) hb_TR) (cwV 2 C0.2.2.2.2 gX0_changes_X0_changesOver rfl rfl rfl (by decide +kernel) ⟨Nat.le_of_ble_eq_true rfl, Nat.le_of_ble_eq_true rfl⟩) ⟨0, 0, _, _, _, rfl, rfl⟩ PLs.all rfl rfl (Nat.le_of_ble_eq_true rfl) ⟨Nat.zero_le _, Nat.zero_le _⟩ dX0_changes_64 rfl ?_
          refine v_callSv0 C0 (av := [.ref (ad 11), .int (nI i1), .int (s_X0_changesOver U T F WU TR (nI i1) (xAt 36 U (s_X0_slotOf unit port)))]) (rest := []) (ws' := wX cI ad U T F C B RU RC WU ST RP RN (xPut 36 WT_L1 (nI i1) (s_X0_changesOver U T F WU TR (nI i1) (xAt 36 U (s_X0_slotOf unit port)))) SM CC TR) (pc' := 70) hK hA (k_X0_put l D cI (ad 11) 36 WT_L1 (nI i1) (s_X0_changesOver U T F WU TR (nI i1) (xAt 36 U (s_X0_slotOf unit port))) (by decide)) (va_cwS 3 C0.2.2.2.2 gX0_changes_X0_put rfl rfl rfl (by decide +kernel) ⟨Nat.le_of_ble_eq_true rfl, Nat.le_of_ble_eq_true rfl⟩) (PLs.one 11 rfl) rfl rfl (Nat.le_of_ble_eq_true rfl) ⟨Nat.zero_le _, Nat.zero_le _⟩ dX0_changes_67 rfl ?_
          refine v_iinc C0 (lv' := [(7, .int ((nI i1) + 1)), (6, .int (xAt 36 U (s_X0_slotOf ou op))), (5, .int (xAt 36 U (s_X0_slotOf unit port))), (0, .ref (ad 0)), (1, .int unit), (2, .int port), (3, .int ou), (4, .int op)]) (pc' := 73) 0 rfl ((nI i1) + 1) rfl (by decide) rfl dX0_changes_70 rfl ?_
          refine v_goto C0 46 dX0_changes_73 (by decide) ?_
          exact v_sub (lv' := [(7, .int ((nI i1) + 1)), (6, .int (xAt 36 U (s_X0_slotOf ou op))), (5, .int (xAt 36 U (s_X0_slotOf unit port))), (0, .ref (ad 0)), (1, .int unit), (2, .int port), (3, .int ou), (4, .int op)]) [0, 1, 2, 3, 4, 5, 6, 7] rfl (ih1 (i1 + 1) ((nI i1) + 1) (xPut 36 WT_L1 (nI i1) (s_X0_changesOver U T F WU TR (nI i1) (xAt 36 U (s_X0_slotOf unit port)))) (by omega) (by rw [nI_1]) (by rw [lp_succ, ← hs_L1]; simp only [s_X0_changes_L1, if_neg h1, if_pos h2, if_neg h5]))
    · refine v_iconst C0 (pc' := 42) (-1) (by decide) dX0_changes_41 rfl ?_
      refine v_world (ws' := wX cI ad U T F C B RU RC WU ST RP RN (s_X0_changes_WT U T F WU WT TR unit port ou op) (s_X0_changes_SM U T F WU WT SM TR unit port ou op) CC TR) (by simp only [s_X0_changes, s_X0_changes_WT, s_X0_changes_SM, if_neg h1, if_neg h2]) ?_
      exact v_iret C0 hr hlk hK (by simp only [s_X0_changes, s_X0_changes_WT, s_X0_changes_SM, if_neg h1, if_neg h2]) dX0_changes_42
