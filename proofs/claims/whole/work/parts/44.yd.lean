def s_X1_hops (U : Nat → Int32) (T : Nat → Int32) (F : Nat → Int32) (C : Nat → Int32) (TR : Int32) (RO : Nat → Int32) (WY : Nat → Int32) (SU : Nat → Int32) (ST : Nat → Int32) (QU : Nat → Int32) (unit : Int32) (lane : Int32) (ou : Int32) (ol : Int32) : Int32 := if (s_X1_isPlace unit lane) = 0 then 0 else (if (s_X1_isPlace ou ol) = 0 then 0 else xAt 96 (s_X1_spread_ST U T F C TR RO WY SU ST QU (s_X1_place unit lane)) (s_X1_place ou ol))
def s_X1_hops_RO (F : Nat → Int32) (RO : Nat → Int32) (unit : Int32) (lane : Int32) (ou : Int32) (ol : Int32) : Nat → Int32 := if (s_X1_isPlace unit lane) = 0 then RO else (if (s_X1_isPlace ou ol) = 0 then RO else (s_X1_spread_RO F RO))
def s_X1_hops_WY (F : Nat → Int32) (C : Nat → Int32) (RO : Nat → Int32) (WY : Nat → Int32) (SU : Nat → Int32) (unit : Int32) (lane : Int32) (ou : Int32) (ol : Int32) : Nat → Int32 := if (s_X1_isPlace unit lane) = 0 then WY else (if (s_X1_isPlace ou ol) = 0 then WY else (s_X1_spread_WY F C RO WY SU))
def s_X1_hops_SU (F : Nat → Int32) (C : Nat → Int32) (RO : Nat → Int32) (SU : Nat → Int32) (unit : Int32) (lane : Int32) (ou : Int32) (ol : Int32) : Nat → Int32 := if (s_X1_isPlace unit lane) = 0 then SU else (if (s_X1_isPlace ou ol) = 0 then SU else (s_X1_spread_SU F C RO SU))
def s_X1_hops_TH (unit : Int32) (lane : Int32) (ou : Int32) (ol : Int32) : Int32 := if (s_X1_isPlace unit lane) = 0 then 1 else (if (s_X1_isPlace ou ol) = 0 then 1 else 0)
def s_X1_hops_ST (U : Nat → Int32) (T : Nat → Int32) (F : Nat → Int32) (C : Nat → Int32) (TR : Int32) (RO : Nat → Int32) (WY : Nat → Int32) (SU : Nat → Int32) (ST : Nat → Int32) (QU : Nat → Int32) (unit : Int32) (lane : Int32) (ou : Int32) (ol : Int32) : Nat → Int32 := if (s_X1_isPlace unit lane) = 0 then ST else (if (s_X1_isPlace ou ol) = 0 then ST else (s_X1_spread_ST U T F C TR RO WY SU ST QU (s_X1_place unit lane)))
def s_X1_hops_QU (U : Nat → Int32) (T : Nat → Int32) (F : Nat → Int32) (C : Nat → Int32) (TR : Int32) (RO : Nat → Int32) (WY : Nat → Int32) (SU : Nat → Int32) (ST : Nat → Int32) (QU : Nat → Int32) (unit : Int32) (lane : Int32) (ou : Int32) (ol : Int32) : Nat → Int32 := if (s_X1_isPlace unit lane) = 0 then QU else (if (s_X1_isPlace ou ol) = 0 then QU else (s_X1_spread_QU U T F C TR RO WY SU ST QU (s_X1_place unit lane)))
def s_X1_hops_QN (U : Nat → Int32) (T : Nat → Int32) (F : Nat → Int32) (C : Nat → Int32) (TR : Int32) (RO : Nat → Int32) (WY : Nat → Int32) (SU : Nat → Int32) (ST : Nat → Int32) (QU : Nat → Int32) (QN : Int32) (unit : Int32) (lane : Int32) (ou : Int32) (ol : Int32) : Int32 := if (s_X1_isPlace unit lane) = 0 then QN else (if (s_X1_isPlace ou ol) = 0 then QN else (s_X1_spread_QN U T F C TR RO WY SU ST QU (s_X1_place unit lane)))
set_option maxHeartbeats 4000000 in
set_option maxRecDepth 100000 in
theorem k_X1_hops (l : Launch) (D : va_G) (cI : ClassId) (bd : Nat → Nat) (U : Nat → Int32) (T : Nat → Int32) (F : Nat → Int32) (C : Nat → Int32) (B : Nat → Int32) (CM : Int32) (TR : Int32) (RO : Nat → Int32) (WY : Nat → Int32) (SU : Nat → Int32) (TH : Int32) (ST : Nat → Int32) (QU : Nat → Int32) (QN : Int32) (FE : Nat → Int32) (unit : Int32) (lane : Int32) (ou : Int32) (ol : Int32) (hb_TR : TR = 0 ∨ TR = 1) (hF : FR F) (hU : UR U) : Ki l yX1_hops wsX1_hops 3 71 0 0 D (TI cI) [.ref (bd 0), .int unit, .int lane, .int ou, .int ol] (wY cI bd U T F C B CM TR RO WY SU TH ST QU QN FE) (wY cI bd U T F C B CM TR (s_X1_hops_RO F RO unit lane ou ol) (s_X1_hops_WY F C RO WY SU unit lane ou ol) (s_X1_hops_SU F C RO SU unit lane ou ol) (s_X1_hops_TH unit lane ou ol) (s_X1_hops_ST U T F C TR RO WY SU ST QU unit lane ou ol) (s_X1_hops_QU U T F C TR RO WY SU ST QU unit lane ou ol) (s_X1_hops_QN U T F C TR RO WY SU ST QU QN unit lane ou ol) FE) (s_X1_hops U T F C TR RO WY SU ST QU unit lane ou ol) := by
  refine Ki.of (cc := cX1_hops) (maxL := 5) (rt := .int) (lv0 := [(0, .ref (bd 0)), (1, .int unit), (2, .int lane), (3, .int ou), (4, .int ol)]) (by decide +kernel) rfl (Nat.le_of_ble_eq_true rfl) rfl ?_
  intro p e s m args below meth c A C0 hr hlk hK hA
  refine v_aload_n C0 (pc' := 1) 0 rfl rfl dX1_hops_0 rfl ?_
  refine v_iload_n C0 (pc' := 2) 1 rfl rfl dX1_hops_1 rfl ?_
  refine v_iload_n C0 (pc' := 3) 2 rfl rfl dX1_hops_2 rfl ?_
  refine v_callSi0 C0 (av := [.int unit, .int lane]) (rest := [.ref (bd 0)]) (ws' := wY cI bd U T F C B CM TR RO WY SU TH ST QU QN FE) (pc' := 6) hK hA (k_X1_isPlace l D cI unit lane) (va_cwS 2 C0.2.2.2.2 gX1_hops_X1_isPlace rfl rfl rfl (by decide +kernel) ⟨Nat.le_of_ble_eq_true rfl, Nat.le_of_ble_eq_true rfl⟩) PLs.nil rfl rfl (Nat.le_of_ble_eq_true rfl) ⟨Nat.zero_le _, Nat.zero_le _⟩ dX1_hops_3 rfl ?_
  refine v_if_eq C0 22 (pc' := 9) dX1_hops_6 (by decide) rfl (fun h1 => ?_) (fun h1 => ?_)
  · refine v_iconst C0 (pc' := 23) 1 (by decide) dX1_hops_22 rfl ?_
    refine v_put C0 hK (C := RX1) (T := TX1) (N := 15) (ws' := wY cI bd U T F C B CM TR RO WY SU 1 ST QU QN FE) (pc' := 26) 0 10 tyX1 rfl rfl rfl (by decide) (Nat.le_of_ble_eq_true rfl) tyX1_ok nmX1 in_X1_hops fl_X1_hops_43 rfl rfl rfl rfl rfl dX1_hops_23 rfl ?_
    refine v_aload_n C0 (pc' := 27) 0 rfl rfl dX1_hops_26 rfl ?_
    refine v_get C0 hK (C := RX1) (T := TX1) (N := 15) (pc' := 30) 0 10 rfl rfl rfl (by decide) in_X1_hops fl_X1_hops_43 rfl dX1_hops_27 rfl ?_
    refine v_if_le C0 35 (pc' := 33) dX1_hops_30 (by decide) rfl (fun h2 => ?_) (fun h2 => ?_)
    · exact absurd h2 (by decide)
    · refine v_iconst C0 (pc' := 34) 0 (by decide) dX1_hops_33 rfl ?_
      refine v_world (ws' := wY cI bd U T F C B CM TR (s_X1_hops_RO F RO unit lane ou ol) (s_X1_hops_WY F C RO WY SU unit lane ou ol) (s_X1_hops_SU F C RO SU unit lane ou ol) (s_X1_hops_TH unit lane ou ol) (s_X1_hops_ST U T F C TR RO WY SU ST QU unit lane ou ol) (s_X1_hops_QU U T F C TR RO WY SU ST QU unit lane ou ol) (s_X1_hops_QN U T F C TR RO WY SU ST QU QN unit lane ou ol) FE) (by simp only [s_X1_hops, s_X1_hops_RO, s_X1_hops_WY, s_X1_hops_SU, s_X1_hops_TH, s_X1_hops_ST, s_X1_hops_QU, s_X1_hops_QN, if_pos h1]) ?_
      exact v_iret C0 hr hlk hK (by simp only [s_X1_hops, s_X1_hops_RO, s_X1_hops_WY, s_X1_hops_SU, s_X1_hops_TH, s_X1_hops_ST, s_X1_hops_QU, s_X1_hops_QN, if_pos h1]) dX1_hops_34
  · refine v_iload_n C0 (pc' := 10) 3 rfl rfl dX1_hops_9 rfl ?_
    refine v_iload C0 (pc' := 12) 4 rfl dX1_hops_10 rfl ?_
    refine v_callSi0 C0 (av := [.int ou, .int ol]) (rest := [.ref (bd 0)]) (ws' := wY cI bd U T F C B CM TR RO WY SU TH ST QU QN FE) (pc' := 15) hK hA (k_X1_isPlace l D cI ou ol) (va_cwS 2 C0.2.2.2.2 gX1_hops_X1_isPlace rfl rfl rfl (by decide +kernel) ⟨Nat.le_of_ble_eq_true rfl, Nat.le_of_ble_eq_true rfl⟩) PLs.nil rfl rfl (Nat.le_of_ble_eq_true rfl) ⟨Nat.zero_le _, Nat.zero_le _⟩ dX1_hops_12 rfl ?_
    refine v_if_eq C0 22 (pc' := 18) dX1_hops_15 (by decide) rfl (fun h3 => ?_) (fun h3 => ?_)
    · refine v_iconst C0 (pc' := 23) 1 (by decide) dX1_hops_22 rfl ?_
      refine v_put C0 hK (C := RX1) (T := TX1) (N := 15) (ws' := wY cI bd U T F C B CM TR RO WY SU 1 ST QU QN FE) (pc' := 26) 0 10 tyX1 rfl rfl rfl (by decide) (Nat.le_of_ble_eq_true rfl) tyX1_ok nmX1 in_X1_hops fl_X1_hops_43 rfl rfl rfl rfl rfl dX1_hops_23 rfl ?_
      refine v_aload_n C0 (pc' := 27) 0 rfl rfl dX1_hops_26 rfl ?_
      refine v_get C0 hK (C := RX1) (T := TX1) (N := 15) (pc' := 30) 0 10 rfl rfl rfl (by decide) in_X1_hops fl_X1_hops_43 rfl dX1_hops_27 rfl ?_
      refine v_if_le C0 35 (pc' := 33) dX1_hops_30 (by decide) rfl (fun h4 => ?_) (fun h4 => ?_)
      · exact absurd h4 (by decide)
      · refine v_iconst C0 (pc' := 34) 0 (by decide) dX1_hops_33 rfl ?_
        refine v_world (ws' := wY cI bd U T F C B CM TR (s_X1_hops_RO F RO unit lane ou ol) (s_X1_hops_WY F C RO WY SU unit lane ou ol) (s_X1_hops_SU F C RO SU unit lane ou ol) (s_X1_hops_TH unit lane ou ol) (s_X1_hops_ST U T F C TR RO WY SU ST QU unit lane ou ol) (s_X1_hops_QU U T F C TR RO WY SU ST QU unit lane ou ol) (s_X1_hops_QN U T F C TR RO WY SU ST QU QN unit lane ou ol) FE) (by simp only [s_X1_hops, s_X1_hops_RO, s_X1_hops_WY, s_X1_hops_SU, s_X1_hops_TH, s_X1_hops_ST, s_X1_hops_QU, s_X1_hops_QN, if_neg h1, if_pos h3]) ?_
        exact v_iret C0 hr hlk hK (by simp only [s_X1_hops, s_X1_hops_RO, s_X1_hops_WY, s_X1_hops_SU, s_X1_hops_TH, s_X1_hops_ST, s_X1_hops_QU, s_X1_hops_QN, if_neg h1, if_pos h3]) dX1_hops_34
    · refine v_iconst C0 (pc' := 19) 0 (by decide) dX1_hops_18 rfl ?_
      refine v_goto C0 23 dX1_hops_19 (by decide) ?_
      refine v_put C0 hK (C := RX1) (T := TX1) (N := 15) (ws' := wY cI bd U T F C B CM TR RO WY SU 0 ST QU QN FE) (pc' := 26) 0 10 tyX1 rfl rfl rfl (by decide) (Nat.le_of_ble_eq_true rfl) tyX1_ok nmX1 in_X1_hops fl_X1_hops_43 rfl rfl rfl rfl rfl dX1_hops_23 rfl ?_
      refine v_aload_n C0 (pc' := 27) 0 rfl rfl dX1_hops_26 rfl ?_
      refine v_get C0 hK (C := RX1) (T := TX1) (N := 15) (pc' := 30) 0 10 rfl rfl rfl (by decide) in_X1_hops fl_X1_hops_43 rfl dX1_hops_27 rfl ?_
      refine v_if_le C0 35 (pc' := 33) dX1_hops_30 (by decide) rfl (fun h5 => ?_) (fun h5 => ?_)
      · refine v_aload_n C0 (pc' := 36) 0 rfl rfl dX1_hops_35 rfl ?_
        refine v_iload_n C0 (pc' := 37) 1 rfl rfl dX1_hops_36 rfl ?_
        refine v_iload_n C0 (pc' := 38) 2 rfl rfl dX1_hops_37 rfl ?_
        refine v_callSi0 C0 (av := [.int unit, .int lane]) (rest := [.ref (bd 0)]) (ws' := wY cI bd U T F C B CM TR RO WY SU 0 ST QU QN FE) (pc' := 41) hK hA (k_X1_place l D cI unit lane) (va_cwS 2 C0.2.2.2.2 gX1_hops_X1_place rfl rfl rfl (by decide +kernel) ⟨Nat.le_of_ble_eq_true rfl, Nat.le_of_ble_eq_true rfl⟩) PLs.nil rfl rfl (Nat.le_of_ble_eq_true rfl) ⟨Nat.zero_le _, Nat.zero_le _⟩ dX1_hops_38 rfl ?_
        refine v_callVv0 C0 (av := [.int (s_X1_place unit lane)]) (rest := []) (ws' := wY cI bd U T F C B CM TR (s_X1_spread_RO F RO) (s_X1_spread_WY F C RO WY SU) (s_X1_spread_SU F C RO SU) 0 (s_X1_spread_ST U T F C TR RO WY SU ST QU (s_X1_place unit lane)) (s_X1_spread_QU U T F C TR RO WY SU ST QU (s_X1_place unit lane)) (s_X1_spread_QN U T F C TR RO WY SU ST QU (s_X1_place unit lane)) FE) (pc' := 44) hK hA (k_X1_spread l D cI bd U T F C B CM TR RO WY SU 0 ST QU QN FE (s_X1_place unit lane) hb_TR hF hU (place_in (isPlace_vp h1).1 (isPlace_vp h1).2)) (cwV 1 C0.2.2.2.2 gX1_hops_X1_spread rfl rfl rfl (by decide +kernel) ⟨Nat.le_of_ble_eq_true rfl, Nat.le_of_ble_eq_true rfl⟩) ⟨0, 1, _, _, _, rfl, rfl⟩ PLs.all rfl rfl (Nat.le_of_ble_eq_true rfl) ⟨Nat.zero_le _, Nat.zero_le _⟩ dX1_hops_41 rfl ?_
        refine v_aload_n C0 (pc' := 45) 0 rfl rfl dX1_hops_44 rfl ?_
        refine v_get C0 hK (C := RX1) (T := TX1) (N := 15) (pc' := 48) 0 11 rfl rfl rfl (by decide) in_X1_hops fl_X1_hops_34 rfl dX1_hops_45 rfl ?_
        refine v_iload_n C0 (pc' := 49) 3 rfl rfl dX1_hops_48 rfl ?_
        refine v_iload C0 (pc' := 51) 4 rfl dX1_hops_49 rfl ?_
        refine v_callSi0 C0 (av := [.int ou, .int ol]) (rest := [.ref (bd 9)]) (ws' := wY cI bd U T F C B CM TR (s_X1_spread_RO F RO) (s_X1_spread_WY F C RO WY SU) (s_X1_spread_SU F C RO SU) 0 (s_X1_spread_ST U T F C TR RO WY SU ST QU (s_X1_place unit lane)) (s_X1_spread_QU U T F C TR RO WY SU ST QU (s_X1_place unit lane)) (s_X1_spread_QN U T F C TR RO WY SU ST QU (s_X1_place unit lane)) FE) (pc' := 54) hK hA (k_X1_place l D cI ou ol) (va_cwS 2 C0.2.2.2.2 gX1_hops_X1_place rfl rfl rfl (by decide +kernel) ⟨Nat.le_of_ble_eq_true rfl, Nat.le_of_ble_eq_true rfl⟩) PLs.nil rfl rfl (Nat.le_of_ble_eq_true rfl) ⟨Nat.zero_le _, Nat.zero_le _⟩ dX1_hops_51 rfl ?_
        refine v_ialx C0 hK (pc' := 55) 9 0 rfl rfl (place_in (isPlace_vp h3).1 (isPlace_vp h3).2) (by decide) dX1_hops_54 rfl ?_
        refine v_world (ws' := wY cI bd U T F C B CM TR (s_X1_hops_RO F RO unit lane ou ol) (s_X1_hops_WY F C RO WY SU unit lane ou ol) (s_X1_hops_SU F C RO SU unit lane ou ol) (s_X1_hops_TH unit lane ou ol) (s_X1_hops_ST U T F C TR RO WY SU ST QU unit lane ou ol) (s_X1_hops_QU U T F C TR RO WY SU ST QU unit lane ou ol) (s_X1_hops_QN U T F C TR RO WY SU ST QU QN unit lane ou ol) FE) (by simp only [s_X1_hops, s_X1_hops_RO, s_X1_hops_WY, s_X1_hops_SU, s_X1_hops_TH, s_X1_hops_ST, s_X1_hops_QU, s_X1_hops_QN, if_neg h1, if_neg h3]) ?_
        exact v_iret C0 hr hlk hK (by simp only [s_X1_hops, s_X1_hops_RO, s_X1_hops_WY, s_X1_hops_SU, s_X1_hops_TH, s_X1_hops_ST, s_X1_hops_QU, s_X1_hops_QN, if_neg h1, if_neg h3]) dX1_hops_55
      · exact absurd (by decide) h5
def s_X1_meet (U : Nat → Int32) (T : Nat → Int32) (F : Nat → Int32) (C : Nat → Int32) (TR : Int32) (RO : Nat → Int32) (WY : Nat → Int32) (SU : Nat → Int32) (ST : Nat → Int32) (QU : Nat → Int32) (unit : Int32) (port : Int32) (ou : Int32) (op : Int32) : Int32 := if (s_X1_isPort unit port) = 0 then 0 else (if (s_X1_isPort ou op) = 0 then 0 else (if (xAt 36 U ((6 * unit) + port)) = 0 then 0 else (if (xAt 36 U ((6 * ou) + op)) = 0 then 0 else (if (xAt 96 (s_X1_spread_ST U T F C TR RO WY SU ST QU (s_X1_place unit (xAt 36 U ((6 * unit) + port)))) (s_X1_place ou (xAt 36 U ((6 * ou) + op)))) = (-1) then 0 else 1))))
def s_X1_meet_RO (U : Nat → Int32) (F : Nat → Int32) (RO : Nat → Int32) (unit : Int32) (port : Int32) (ou : Int32) (op : Int32) : Nat → Int32 := if (s_X1_isPort unit port) = 0 then RO else (if (s_X1_isPort ou op) = 0 then RO else (if (xAt 36 U ((6 * unit) + port)) = 0 then RO else (if (xAt 36 U ((6 * ou) + op)) = 0 then RO else ((s_X1_spread_RO F RO)))))
def s_X1_meet_WY (U : Nat → Int32) (F : Nat → Int32) (C : Nat → Int32) (RO : Nat → Int32) (WY : Nat → Int32) (SU : Nat → Int32) (unit : Int32) (port : Int32) (ou : Int32) (op : Int32) : Nat → Int32 := if (s_X1_isPort unit port) = 0 then WY else (if (s_X1_isPort ou op) = 0 then WY else (if (xAt 36 U ((6 * unit) + port)) = 0 then WY else (if (xAt 36 U ((6 * ou) + op)) = 0 then WY else ((s_X1_spread_WY F C RO WY SU)))))
def s_X1_meet_SU (U : Nat → Int32) (F : Nat → Int32) (C : Nat → Int32) (RO : Nat → Int32) (SU : Nat → Int32) (unit : Int32) (port : Int32) (ou : Int32) (op : Int32) : Nat → Int32 := if (s_X1_isPort unit port) = 0 then SU else (if (s_X1_isPort ou op) = 0 then SU else (if (xAt 36 U ((6 * unit) + port)) = 0 then SU else (if (xAt 36 U ((6 * ou) + op)) = 0 then SU else ((s_X1_spread_SU F C RO SU)))))
def s_X1_meet_TH (unit : Int32) (port : Int32) (ou : Int32) (op : Int32) : Int32 := if (s_X1_isPort unit port) = 0 then 1 else (if (s_X1_isPort ou op) = 0 then 1 else (0))
def s_X1_meet_ST (U : Nat → Int32) (T : Nat → Int32) (F : Nat → Int32) (C : Nat → Int32) (TR : Int32) (RO : Nat → Int32) (WY : Nat → Int32) (SU : Nat → Int32) (ST : Nat → Int32) (QU : Nat → Int32) (unit : Int32) (port : Int32) (ou : Int32) (op : Int32) : Nat → Int32 := if (s_X1_isPort unit port) = 0 then ST else (if (s_X1_isPort ou op) = 0 then ST else (if (xAt 36 U ((6 * unit) + port)) = 0 then ST else (if (xAt 36 U ((6 * ou) + op)) = 0 then ST else ((s_X1_spread_ST U T F C TR RO WY SU ST QU (s_X1_place unit (xAt 36 U ((6 * unit) + port))))))))
def s_X1_meet_QU (U : Nat → Int32) (T : Nat → Int32) (F : Nat → Int32) (C : Nat → Int32) (TR : Int32) (RO : Nat → Int32) (WY : Nat → Int32) (SU : Nat → Int32) (ST : Nat → Int32) (QU : Nat → Int32) (unit : Int32) (port : Int32) (ou : Int32) (op : Int32) : Nat → Int32 := if (s_X1_isPort unit port) = 0 then QU else (if (s_X1_isPort ou op) = 0 then QU else (if (xAt 36 U ((6 * unit) + port)) = 0 then QU else (if (xAt 36 U ((6 * ou) + op)) = 0 then QU else ((s_X1_spread_QU U T F C TR RO WY SU ST QU (s_X1_place unit (xAt 36 U ((6 * unit) + port))))))))
def s_X1_meet_QN (U : Nat → Int32) (T : Nat → Int32) (F : Nat → Int32) (C : Nat → Int32) (TR : Int32) (RO : Nat → Int32) (WY : Nat → Int32) (SU : Nat → Int32) (ST : Nat → Int32) (QU : Nat → Int32) (QN : Int32) (unit : Int32) (port : Int32) (ou : Int32) (op : Int32) : Int32 := if (s_X1_isPort unit port) = 0 then QN else (if (s_X1_isPort ou op) = 0 then QN else (if (xAt 36 U ((6 * unit) + port)) = 0 then QN else (if (xAt 36 U ((6 * ou) + op)) = 0 then QN else ((s_X1_spread_QN U T F C TR RO WY SU ST QU (s_X1_place unit (xAt 36 U ((6 * unit) + port))))))))
set_option maxHeartbeats 4000000 in
set_option maxRecDepth 100000 in
theorem k_X1_meet (l : Launch) (D : va_G) (cI : ClassId) (bd : Nat → Nat) (U : Nat → Int32) (T : Nat → Int32) (F : Nat → Int32) (C : Nat → Int32) (B : Nat → Int32) (CM : Int32) (TR : Int32) (RO : Nat → Int32) (WY : Nat → Int32) (SU : Nat → Int32) (TH : Int32) (ST : Nat → Int32) (QU : Nat → Int32) (QN : Int32) (FE : Nat → Int32) (unit : Int32) (port : Int32) (ou : Int32) (op : Int32) (hb_TR : TR = 0 ∨ TR = 1) (hF : FR F) (hU : UR U) : Ki l yX1_meet wsX1_meet 3 71 0 0 D (TI cI) [.ref (bd 0), .int unit, .int port, .int ou, .int op] (wY cI bd U T F C B CM TR RO WY SU TH ST QU QN FE) (wY cI bd U T F C B CM TR (s_X1_meet_RO U F RO unit port ou op) (s_X1_meet_WY U F C RO WY SU unit port ou op) (s_X1_meet_SU U F C RO SU unit port ou op) (s_X1_meet_TH unit port ou op) (s_X1_meet_ST U T F C TR RO WY SU ST QU unit port ou op) (s_X1_meet_QU U T F C TR RO WY SU ST QU unit port ou op) (s_X1_meet_QN U T F C TR RO WY SU ST QU QN unit port ou op) FE) (s_X1_meet U T F C TR RO WY SU ST QU unit port ou op) := by
  refine Ki.of (cc := cX1_meet) (maxL := 7) (rt := .boolean) (lv0 := [(0, .ref (bd 0)), (1, .int unit), (2, .int port), (3, .int ou), (4, .int op)]) (by decide +kernel) rfl (Nat.le_of_ble_eq_true rfl) rfl ?_
  intro p e s m args below meth c A C0 hr hlk hK hA
  refine v_aload_n C0 (pc' := 1) 0 rfl rfl dX1_meet_0 rfl ?_
  refine v_iload_n C0 (pc' := 2) 1 rfl rfl dX1_meet_1 rfl ?_
  refine v_iload_n C0 (pc' := 3) 2 rfl rfl dX1_meet_2 rfl ?_
  refine v_callSi0 C0 (av := [.int unit, .int port]) (rest := [.ref (bd 0)]) (ws' := wY cI bd U T F C B CM TR RO WY SU TH ST QU QN FE) (pc' := 6) hK hA (k_X1_isPort l D cI unit port) (va_cwS 2 C0.2.2.2.2 gX1_meet_X1_isPort rfl rfl rfl (by decide +kernel) ⟨Nat.le_of_ble_eq_true rfl, Nat.le_of_ble_eq_true rfl⟩) PLs.nil rfl rfl (Nat.le_of_ble_eq_true rfl) ⟨Nat.zero_le _, Nat.zero_le _⟩ dX1_meet_3 rfl ?_
  refine v_if_eq C0 22 (pc' := 9) dX1_meet_6 (by decide) rfl (fun h1 => ?_) (fun h1 => ?_)
  · refine v_iconst C0 (pc' := 23) 1 (by decide) dX1_meet_22 rfl ?_
    refine v_put C0 hK (C := RX1) (T := TX1) (N := 15) (ws' := wY cI bd U T F C B CM TR RO WY SU 1 ST QU QN FE) (pc' := 26) 0 10 tyX1 rfl rfl rfl (by decide) (Nat.le_of_ble_eq_true rfl) tyX1_ok nmX1 in_X1_meet fl_X1_meet_43 rfl rfl rfl rfl rfl dX1_meet_23 rfl ?_
    refine v_aload_n C0 (pc' := 27) 0 rfl rfl dX1_meet_26 rfl ?_
    refine v_get C0 hK (C := RX1) (T := TX1) (N := 15) (pc' := 30) 0 10 rfl rfl rfl (by decide) in_X1_meet fl_X1_meet_43 rfl dX1_meet_27 rfl ?_
    refine v_if_le C0 35 (pc' := 33) dX1_meet_30 (by decide) rfl (fun h2 => ?_) (fun h2 => ?_)
    · exact absurd h2 (by decide)
    · refine v_iconst C0 (pc' := 34) 0 (by decide) dX1_meet_33 rfl ?_
      refine v_world (ws' := wY cI bd U T F C B CM TR (s_X1_meet_RO U F RO unit port ou op) (s_X1_meet_WY U F C RO WY SU unit port ou op) (s_X1_meet_SU U F C RO SU unit port ou op) (s_X1_meet_TH unit port ou op) (s_X1_meet_ST U T F C TR RO WY SU ST QU unit port ou op) (s_X1_meet_QU U T F C TR RO WY SU ST QU unit port ou op) (s_X1_meet_QN U T F C TR RO WY SU ST QU QN unit port ou op) FE) (by simp only [s_X1_meet, s_X1_meet_RO, s_X1_meet_WY, s_X1_meet_SU, s_X1_meet_TH, s_X1_meet_ST, s_X1_meet_QU, s_X1_meet_QN, if_pos h1]) ?_
      exact v_zret C0 hr hlk hK (Or.inl rfl : (0 : Int32) = 0 ∨ (0 : Int32) = 1) (by simp only [s_X1_meet, s_X1_meet_RO, s_X1_meet_WY, s_X1_meet_SU, s_X1_meet_TH, s_X1_meet_ST, s_X1_meet_QU, s_X1_meet_QN, if_pos h1]) dX1_meet_34
  · refine v_iload_n C0 (pc' := 10) 3 rfl rfl dX1_meet_9 rfl ?_
    refine v_iload C0 (pc' := 12) 4 rfl dX1_meet_10 rfl ?_
    refine v_callSi0 C0 (av := [.int ou, .int op]) (rest := [.ref (bd 0)]) (ws' := wY cI bd U T F C B CM TR RO WY SU TH ST QU QN FE) (pc' := 15) hK hA (k_X1_isPort l D cI ou op) (va_cwS 2 C0.2.2.2.2 gX1_meet_X1_isPort rfl rfl rfl (by decide +kernel) ⟨Nat.le_of_ble_eq_true rfl, Nat.le_of_ble_eq_true rfl⟩) PLs.nil rfl rfl (Nat.le_of_ble_eq_true rfl) ⟨Nat.zero_le _, Nat.zero_le _⟩ dX1_meet_12 rfl ?_
    refine v_if_eq C0 22 (pc' := 18) dX1_meet_15 (by decide) rfl (fun h3 => ?_) (fun h3 => ?_)
    · refine v_iconst C0 (pc' := 23) 1 (by decide) dX1_meet_22 rfl ?_
      refine v_put C0 hK (C := RX1) (T := TX1) (N := 15) (ws' := wY cI bd U T F C B CM TR RO WY SU 1 ST QU QN FE) (pc' := 26) 0 10 tyX1 rfl rfl rfl (by decide) (Nat.le_of_ble_eq_true rfl) tyX1_ok nmX1 in_X1_meet fl_X1_meet_43 rfl rfl rfl rfl rfl dX1_meet_23 rfl ?_
      refine v_aload_n C0 (pc' := 27) 0 rfl rfl dX1_meet_26 rfl ?_
      refine v_get C0 hK (C := RX1) (T := TX1) (N := 15) (pc' := 30) 0 10 rfl rfl rfl (by decide) in_X1_meet fl_X1_meet_43 rfl dX1_meet_27 rfl ?_
      refine v_if_le C0 35 (pc' := 33) dX1_meet_30 (by decide) rfl (fun h4 => ?_) (fun h4 => ?_)
      · exact absurd h4 (by decide)
      · refine v_iconst C0 (pc' := 34) 0 (by decide) dX1_meet_33 rfl ?_
        refine v_world (ws' := wY cI bd U T F C B CM TR (s_X1_meet_RO U F RO unit port ou op) (s_X1_meet_WY U F C RO WY SU unit port ou op) (s_X1_meet_SU U F C RO SU unit port ou op) (s_X1_meet_TH unit port ou op) (s_X1_meet_ST U T F C TR RO WY SU ST QU unit port ou op) (s_X1_meet_QU U T F C TR RO WY SU ST QU unit port ou op) (s_X1_meet_QN U T F C TR RO WY SU ST QU QN unit port ou op) FE) (by simp only [s_X1_meet, s_X1_meet_RO, s_X1_meet_WY, s_X1_meet_SU, s_X1_meet_TH, s_X1_meet_ST, s_X1_meet_QU, s_X1_meet_QN, if_neg h1, if_pos h3]) ?_
        exact v_zret C0 hr hlk hK (Or.inl rfl : (0 : Int32) = 0 ∨ (0 : Int32) = 1) (by simp only [s_X1_meet, s_X1_meet_RO, s_X1_meet_WY, s_X1_meet_SU, s_X1_meet_TH, s_X1_meet_ST, s_X1_meet_QU, s_X1_meet_QN, if_neg h1, if_pos h3]) dX1_meet_34
    · refine v_iconst C0 (pc' := 19) 0 (by decide) dX1_meet_18 rfl ?_
      refine v_goto C0 23 dX1_meet_19 (by decide) ?_
      refine v_put C0 hK (C := RX1) (T := TX1) (N := 15) (ws' := wY cI bd U T F C B CM TR RO WY SU 0 ST QU QN FE) (pc' := 26) 0 10 tyX1 rfl rfl rfl (by decide) (Nat.le_of_ble_eq_true rfl) tyX1_ok nmX1 in_X1_meet fl_X1_meet_43 rfl rfl rfl rfl rfl dX1_meet_23 rfl ?_
      refine v_aload_n C0 (pc' := 27) 0 rfl rfl dX1_meet_26 rfl ?_
      refine v_get C0 hK (C := RX1) (T := TX1) (N := 15) (pc' := 30) 0 10 rfl rfl rfl (by decide) in_X1_meet fl_X1_meet_43 rfl dX1_meet_27 rfl ?_
      refine v_if_le C0 35 (pc' := 33) dX1_meet_30 (by decide) rfl (fun h5 => ?_) (fun h5 => ?_)
      · refine v_aload_n C0 (pc' := 36) 0 rfl rfl dX1_meet_35 rfl ?_
        refine v_get C0 hK (C := RX1) (T := TX1) (N := 15) (pc' := 39) 0 0 rfl rfl rfl (by decide) in_X1_meet fl_X1_meet_7 rfl dX1_meet_36 rfl ?_
        refine v_bipush C0 (pc' := 41) 6 (by decide) dX1_meet_39 rfl ?_
        refine v_iload_n C0 (pc' := 42) 1 rfl rfl dX1_meet_41 rfl ?_
        refine v_imul C0 (pc' := 43) dX1_meet_42 rfl ?_
        refine v_iload_n C0 (pc' := 44) 2 rfl rfl dX1_meet_43 rfl ?_
        refine v_iadd C0 (pc' := 45) dX1_meet_44 rfl ?_
        refine v_ialx C0 hK (pc' := 46) 1 0 rfl rfl (isPort_in h1) (by decide) dX1_meet_45 rfl ?_
        refine v_istore C0 (lv' := [(5, .int (xAt 36 U ((6 * unit) + port))), (0, .ref (bd 0)), (1, .int unit), (2, .int port), (3, .int ou), (4, .int op)]) (pc' := 48) (by decide) rfl dX1_meet_46 rfl ?_
        refine v_aload_n C0 (pc' := 49) 1 rfl rfl dX1_meet_48 rfl ?_
        refine v_get C0 hK (C := RX1) (T := TX1) (N := 15) (pc' := 52) 0 0 rfl rfl rfl (by decide) in_X1_meet fl_X1_meet_7 rfl dX1_meet_49 rfl ?_
        refine v_bipush C0 (pc' := 54) 6 (by decide) dX1_meet_52 rfl ?_
        refine v_iload_n C0 (pc' := 55) 4 rfl rfl dX1_meet_54 rfl ?_
        refine v_imul C0 (pc' := 56) dX1_meet_55 rfl ?_
        refine v_iload C0 (pc' := 58) 5 rfl dX1_meet_56 rfl ?_
        refine v_iadd C0 (pc' := 59) dX1_meet_58 rfl ?_
        refine v_ialx C0 hK (pc' := 60) 1 0 rfl rfl (isPort_in h3) (by decide) dX1_meet_59 rfl ?_
        refine v_istore C0 (lv' := [(6, .int (xAt 36 U ((6 * ou) + op))), (5, .int (xAt 36 U ((6 * unit) + port))), (0, .ref (bd 0)), (1, .int unit), (2, .int port), (3, .int ou), (4, .int op)]) (pc' := 62) (by decide) rfl dX1_meet_60 rfl ?_
        refine v_iload C0 (pc' := 64) 1 rfl dX1_meet_62 rfl ?_
        refine v_if_eq C0 72 (pc' := 67) dX1_meet_64 (by decide) rfl (fun h6 => ?_) (fun h6 => ?_)
        · refine v_iconst C0 (pc' := 73) 0 (by decide) dX1_meet_72 rfl ?_
          refine v_world (ws' := wY cI bd U T F C B CM TR (s_X1_meet_RO U F RO unit port ou op) (s_X1_meet_WY U F C RO WY SU unit port ou op) (s_X1_meet_SU U F C RO SU unit port ou op) (s_X1_meet_TH unit port ou op) (s_X1_meet_ST U T F C TR RO WY SU ST QU unit port ou op) (s_X1_meet_QU U T F C TR RO WY SU ST QU unit port ou op) (s_X1_meet_QN U T F C TR RO WY SU ST QU QN unit port ou op) FE) (by simp only [s_X1_meet, s_X1_meet_RO, s_X1_meet_WY, s_X1_meet_SU, s_X1_meet_TH, s_X1_meet_ST, s_X1_meet_QU, s_X1_meet_QN, if_neg h1, if_neg h3, if_pos h6]) ?_
          exact v_zret C0 hr hlk hK (Or.inl rfl : (0 : Int32) = 0 ∨ (0 : Int32) = 1) (by simp only [s_X1_meet, s_X1_meet_RO, s_X1_meet_WY, s_X1_meet_SU, s_X1_meet_TH, s_X1_meet_ST, s_X1_meet_QU, s_X1_meet_QN, if_neg h1, if_neg h3, if_pos h6]) dX1_meet_73
        · refine v_iload C0 (pc' := 69) 0 rfl dX1_meet_67 rfl ?_
          refine v_if_ne C0 74 (pc' := 72) dX1_meet_69 (by decide) rfl (fun h7 => ?_) (fun h7 => ?_)
          · refine v_aload_n C0 (pc' := 75) 2 rfl rfl dX1_meet_74 rfl ?_
            refine v_iload_n C0 (pc' := 76) 3 rfl rfl dX1_meet_75 rfl ?_
            refine v_iload C0 (pc' := 78) 1 rfl dX1_meet_76 rfl ?_
            refine v_callSi0 C0 (av := [.int unit, .int (xAt 36 U ((6 * unit) + port))]) (rest := [.ref (bd 0)]) (ws' := wY cI bd U T F C B CM TR RO WY SU 0 ST QU QN FE) (pc' := 81) hK hA (k_X1_place l D cI unit (xAt 36 U ((6 * unit) + port))) (va_cwS 2 C0.2.2.2.2 gX1_meet_X1_place rfl rfl rfl (by decide +kernel) ⟨Nat.le_of_ble_eq_true rfl, Nat.le_of_ble_eq_true rfl⟩) PLs.nil rfl rfl (Nat.le_of_ble_eq_true rfl) ⟨Nat.zero_le _, Nat.zero_le _⟩ dX1_meet_78 rfl ?_
            refine v_callVv0 C0 (av := [.int (s_X1_place unit (xAt 36 U ((6 * unit) + port)))]) (rest := []) (ws' := wY cI bd U T F C B CM TR (s_X1_spread_RO F RO) (s_X1_spread_WY F C RO WY SU) (s_X1_spread_SU F C RO SU) 0 (s_X1_spread_ST U T F C TR RO WY SU ST QU (s_X1_place unit (xAt 36 U ((6 * unit) + port)))) (s_X1_spread_QU U T F C TR RO WY SU ST QU (s_X1_place unit (xAt 36 U ((6 * unit) + port)))) (s_X1_spread_QN U T F C TR RO WY SU ST QU (s_X1_place unit (xAt 36 U ((6 * unit) + port)))) FE) (pc' := 84) hK hA (k_X1_spread l D cI bd U T F C B CM TR RO WY SU 0 ST QU QN FE (s_X1_place unit (xAt 36 U ((6 * unit) + port))) hb_TR hF hU (place_in (isPort_vp h1).1 (hU _ (isPort_in h1)))) (cwV 1 C0.2.2.2.2 gX1_meet_X1_spread rfl rfl rfl (by decide +kernel) ⟨Nat.le_of_ble_eq_true rfl, Nat.le_of_ble_eq_true rfl⟩) ⟨0, 1, _, _, _, rfl, rfl⟩ PLs.all rfl rfl (Nat.le_of_ble_eq_true rfl) ⟨Nat.zero_le _, Nat.zero_le _⟩ dX1_meet_81 rfl ?_
            refine v_aload_n C0 (pc' := 85) 2 rfl rfl dX1_meet_84 rfl ?_
            refine v_get C0 hK (C := RX1) (T := TX1) (N := 15) (pc' := 88) 0 11 rfl rfl rfl (by decide) in_X1_meet fl_X1_meet_34 rfl dX1_meet_85 rfl ?_
            refine v_iload_n C0 (pc' := 89) 5 rfl rfl dX1_meet_88 rfl ?_
            refine v_iload C0 (pc' := 91) 0 rfl dX1_meet_89 rfl ?_
            refine v_callSi0 C0 (av := [.int ou, .int (xAt 36 U ((6 * ou) + op))]) (rest := [.ref (bd 9)]) (ws' := wY cI bd U T F C B CM TR (s_X1_spread_RO F RO) (s_X1_spread_WY F C RO WY SU) (s_X1_spread_SU F C RO SU) 0 (s_X1_spread_ST U T F C TR RO WY SU ST QU (s_X1_place unit (xAt 36 U ((6 * unit) + port)))) (s_X1_spread_QU U T F C TR RO WY SU ST QU (s_X1_place unit (xAt 36 U ((6 * unit) + port)))) (s_X1_spread_QN U T F C TR RO WY SU ST QU (s_X1_place unit (xAt 36 U ((6 * unit) + port)))) FE) (pc' := 94) hK hA (k_X1_place l D cI ou (xAt 36 U ((6 * ou) + op))) (va_cwS 2 C0.2.2.2.2 gX1_meet_X1_place rfl rfl rfl (by decide +kernel) ⟨Nat.le_of_ble_eq_true rfl, Nat.le_of_ble_eq_true rfl⟩) PLs.nil rfl rfl (Nat.le_of_ble_eq_true rfl) ⟨Nat.zero_le _, Nat.zero_le _⟩ dX1_meet_91 rfl ?_
            refine v_ialx C0 hK (pc' := 95) 9 0 rfl rfl (place_in (isPort_vp h3).1 (hU _ (isPort_in h3))) (by decide) dX1_meet_94 rfl ?_
            refine v_iconst C0 (pc' := 96) (-1) (by decide) dX1_meet_95 rfl ?_
            refine v_icmp_eq C0 103 (pc' := 99) dX1_meet_96 (by decide) rfl (fun h8 => ?_) (fun h8 => ?_)
            · refine v_iconst C0 (pc' := 104) 0 (by decide) dX1_meet_103 rfl ?_
              refine v_world (ws' := wY cI bd U T F C B CM TR (s_X1_meet_RO U F RO unit port ou op) (s_X1_meet_WY U F C RO WY SU unit port ou op) (s_X1_meet_SU U F C RO SU unit port ou op) (s_X1_meet_TH unit port ou op) (s_X1_meet_ST U T F C TR RO WY SU ST QU unit port ou op) (s_X1_meet_QU U T F C TR RO WY SU ST QU unit port ou op) (s_X1_meet_QN U T F C TR RO WY SU ST QU QN unit port ou op) FE) (by simp only [s_X1_meet, s_X1_meet_RO, s_X1_meet_WY, s_X1_meet_SU, s_X1_meet_TH, s_X1_meet_ST, s_X1_meet_QU, s_X1_meet_QN, if_neg h1, if_neg h3, if_neg h6, if_neg h7, if_pos h8]) ?_
              exact v_zret C0 hr hlk hK (Or.inl rfl : (0 : Int32) = 0 ∨ (0 : Int32) = 1) (by simp only [s_X1_meet, s_X1_meet_RO, s_X1_meet_WY, s_X1_meet_SU, s_X1_meet_TH, s_X1_meet_ST, s_X1_meet_QU, s_X1_meet_QN, if_neg h1, if_neg h3, if_neg h6, if_neg h7, if_pos h8]) dX1_meet_104
            · refine v_iconst C0 (pc' := 100) 1 (by decide) dX1_meet_99 rfl ?_
              refine v_goto C0 104 dX1_meet_100 (by decide) ?_
              refine v_world (ws' := wY cI bd U T F C B CM TR (s_X1_meet_RO U F RO unit port ou op) (s_X1_meet_WY U F C RO WY SU unit port ou op) (s_X1_meet_SU U F C RO SU unit port ou op) (s_X1_meet_TH unit port ou op) (s_X1_meet_ST U T F C TR RO WY SU ST QU unit port ou op) (s_X1_meet_QU U T F C TR RO WY SU ST QU unit port ou op) (s_X1_meet_QN U T F C TR RO WY SU ST QU QN unit port ou op) FE) (by simp only [s_X1_meet, s_X1_meet_RO, s_X1_meet_WY, s_X1_meet_SU, s_X1_meet_TH, s_X1_meet_ST, s_X1_meet_QU, s_X1_meet_QN, if_neg h1, if_neg h3, if_neg h6, if_neg h7, if_neg h8]) ?_
              exact v_zret C0 hr hlk hK (Or.inr rfl : (1 : Int32) = 0 ∨ (1 : Int32) = 1) (by simp only [s_X1_meet, s_X1_meet_RO, s_X1_meet_WY, s_X1_meet_SU, s_X1_meet_TH, s_X1_meet_ST, s_X1_meet_QU, s_X1_meet_QN, if_neg h1, if_neg h3, if_neg h6, if_neg h7, if_neg h8]) dX1_meet_104
          · refine v_iconst C0 (pc' := 73) 0 (by decide) dX1_meet_72 rfl ?_
            refine v_world (ws' := wY cI bd U T F C B CM TR (s_X1_meet_RO U F RO unit port ou op) (s_X1_meet_WY U F C RO WY SU unit port ou op) (s_X1_meet_SU U F C RO SU unit port ou op) (s_X1_meet_TH unit port ou op) (s_X1_meet_ST U T F C TR RO WY SU ST QU unit port ou op) (s_X1_meet_QU U T F C TR RO WY SU ST QU unit port ou op) (s_X1_meet_QN U T F C TR RO WY SU ST QU QN unit port ou op) FE) (by simp only [s_X1_meet, s_X1_meet_RO, s_X1_meet_WY, s_X1_meet_SU, s_X1_meet_TH, s_X1_meet_ST, s_X1_meet_QU, s_X1_meet_QN, if_neg h1, if_neg h3, if_neg h6, if_pos h7]) ?_
            exact v_zret C0 hr hlk hK (Or.inl rfl : (0 : Int32) = 0 ∨ (0 : Int32) = 1) (by simp only [s_X1_meet, s_X1_meet_RO, s_X1_meet_WY, s_X1_meet_SU, s_X1_meet_TH, s_X1_meet_ST, s_X1_meet_QU, s_X1_meet_QN, if_neg h1, if_neg h3, if_neg h6, if_pos h7]) dX1_meet_73
      · exact absurd (by decide) h5
theorem b_X1_meet (U : Nat → Int32) (T : Nat → Int32) (F : Nat → Int32) (C : Nat → Int32) (TR : Int32) (RO : Nat → Int32) (WY : Nat → Int32) (SU : Nat → Int32) (ST : Nat → Int32) (QU : Nat → Int32) (unit : Int32) (port : Int32) (ou : Int32) (op : Int32) : s_X1_meet U T F C TR RO WY SU ST QU unit port ou op = 0 ∨ s_X1_meet U T F C TR RO WY SU ST QU unit port ou op = 1 := by unfold s_X1_meet; (repeat' split) <;> first | exact Or.inl rfl | exact Or.inr rfl
def s_X1_joined (U : Nat → Int32) (T : Nat → Int32) (F : Nat → Int32) (C : Nat → Int32) (TR : Int32) (RO : Nat → Int32) (WY : Nat → Int32) (SU : Nat → Int32) (ST : Nat → Int32) (QU : Nat → Int32) (unit : Int32) (lane : Int32) : Int32 := if (s_X1_isPlace unit lane) = 0 then 0 else s_X1_spread_QN U T F C TR RO WY SU ST QU (s_X1_place unit lane)
def s_X1_joined_RO (F : Nat → Int32) (RO : Nat → Int32) (unit : Int32) (lane : Int32) : Nat → Int32 := if (s_X1_isPlace unit lane) = 0 then RO else (s_X1_spread_RO F RO)
def s_X1_joined_WY (F : Nat → Int32) (C : Nat → Int32) (RO : Nat → Int32) (WY : Nat → Int32) (SU : Nat → Int32) (unit : Int32) (lane : Int32) : Nat → Int32 := if (s_X1_isPlace unit lane) = 0 then WY else (s_X1_spread_WY F C RO WY SU)
def s_X1_joined_SU (F : Nat → Int32) (C : Nat → Int32) (RO : Nat → Int32) (SU : Nat → Int32) (unit : Int32) (lane : Int32) : Nat → Int32 := if (s_X1_isPlace unit lane) = 0 then SU else (s_X1_spread_SU F C RO SU)
def s_X1_joined_TH (unit : Int32) (lane : Int32) : Int32 := if (s_X1_isPlace unit lane) = 0 then 1 else 0
def s_X1_joined_ST (U : Nat → Int32) (T : Nat → Int32) (F : Nat → Int32) (C : Nat → Int32) (TR : Int32) (RO : Nat → Int32) (WY : Nat → Int32) (SU : Nat → Int32) (ST : Nat → Int32) (QU : Nat → Int32) (unit : Int32) (lane : Int32) : Nat → Int32 := if (s_X1_isPlace unit lane) = 0 then ST else (s_X1_spread_ST U T F C TR RO WY SU ST QU (s_X1_place unit lane))
def s_X1_joined_QU (U : Nat → Int32) (T : Nat → Int32) (F : Nat → Int32) (C : Nat → Int32) (TR : Int32) (RO : Nat → Int32) (WY : Nat → Int32) (SU : Nat → Int32) (ST : Nat → Int32) (QU : Nat → Int32) (unit : Int32) (lane : Int32) : Nat → Int32 := if (s_X1_isPlace unit lane) = 0 then QU else (s_X1_spread_QU U T F C TR RO WY SU ST QU (s_X1_place unit lane))
def s_X1_joined_QN (U : Nat → Int32) (T : Nat → Int32) (F : Nat → Int32) (C : Nat → Int32) (TR : Int32) (RO : Nat → Int32) (WY : Nat → Int32) (SU : Nat → Int32) (ST : Nat → Int32) (QU : Nat → Int32) (QN : Int32) (unit : Int32) (lane : Int32) : Int32 := if (s_X1_isPlace unit lane) = 0 then QN else (s_X1_spread_QN U T F C TR RO WY SU ST QU (s_X1_place unit lane))
set_option maxHeartbeats 4000000 in
set_option maxRecDepth 100000 in
theorem k_X1_joined (l : Launch) (D : va_G) (cI : ClassId) (bd : Nat → Nat) (U : Nat → Int32) (T : Nat → Int32) (F : Nat → Int32) (C : Nat → Int32) (B : Nat → Int32) (CM : Int32) (TR : Int32) (RO : Nat → Int32) (WY : Nat → Int32) (SU : Nat → Int32) (TH : Int32) (ST : Nat → Int32) (QU : Nat → Int32) (QN : Int32) (FE : Nat → Int32) (unit : Int32) (lane : Int32) (hb_TR : TR = 0 ∨ TR = 1) (hF : FR F) (hU : UR U) : Ki l yX1_joined wsX1_joined 3 71 0 0 D (TI cI) [.ref (bd 0), .int unit, .int lane] (wY cI bd U T F C B CM TR RO WY SU TH ST QU QN FE) (wY cI bd U T F C B CM TR (s_X1_joined_RO F RO unit lane) (s_X1_joined_WY F C RO WY SU unit lane) (s_X1_joined_SU F C RO SU unit lane) (s_X1_joined_TH unit lane) (s_X1_joined_ST U T F C TR RO WY SU ST QU unit lane) (s_X1_joined_QU U T F C TR RO WY SU ST QU unit lane) (s_X1_joined_QN U T F C TR RO WY SU ST QU QN unit lane) FE) (s_X1_joined U T F C TR RO WY SU ST QU unit lane) := by
  refine Ki.of (cc := cX1_joined) (maxL := 3) (rt := .int) (lv0 := [(0, .ref (bd 0)), (1, .int unit), (2, .int lane)]) (by decide +kernel) rfl (Nat.le_of_ble_eq_true rfl) rfl ?_
  intro p e s m args below meth c A C0 hr hlk hK hA
  refine v_aload_n C0 (pc' := 1) 0 rfl rfl dX1_joined_0 rfl ?_
  refine v_iload_n C0 (pc' := 2) 1 rfl rfl dX1_joined_1 rfl ?_
  refine v_iload_n C0 (pc' := 3) 2 rfl rfl dX1_joined_2 rfl ?_
  refine v_callSi0 C0 (av := [.int unit, .int lane]) (rest := [.ref (bd 0)]) (ws' := wY cI bd U T F C B CM TR RO WY SU TH ST QU QN FE) (pc' := 6) hK hA (k_X1_isPlace l D cI unit lane) (va_cwS 2 C0.2.2.2.2 gX1_joined_X1_isPlace rfl rfl rfl (by decide +kernel) ⟨Nat.le_of_ble_eq_true rfl, Nat.le_of_ble_eq_true rfl⟩) PLs.nil rfl rfl (Nat.le_of_ble_eq_true rfl) ⟨Nat.zero_le _, Nat.zero_le _⟩ dX1_joined_3 rfl ?_
  refine v_if_eq C0 13 (pc' := 9) dX1_joined_6 (by decide) rfl (fun h1 => ?_) (fun h1 => ?_)
  · refine v_iconst C0 (pc' := 14) 1 (by decide) dX1_joined_13 rfl ?_
    refine v_put C0 hK (C := RX1) (T := TX1) (N := 15) (ws' := wY cI bd U T F C B CM TR RO WY SU 1 ST QU QN FE) (pc' := 17) 0 10 tyX1 rfl rfl rfl (by decide) (Nat.le_of_ble_eq_true rfl) tyX1_ok nmX1 in_X1_joined fl_X1_joined_43 rfl rfl rfl rfl rfl dX1_joined_14 rfl ?_
    refine v_aload_n C0 (pc' := 18) 0 rfl rfl dX1_joined_17 rfl ?_
    refine v_get C0 hK (C := RX1) (T := TX1) (N := 15) (pc' := 21) 0 10 rfl rfl rfl (by decide) in_X1_joined fl_X1_joined_43 rfl dX1_joined_18 rfl ?_
    refine v_if_le C0 26 (pc' := 24) dX1_joined_21 (by decide) rfl (fun h2 => ?_) (fun h2 => ?_)
    · exact absurd h2 (by decide)
    · refine v_iconst C0 (pc' := 25) 0 (by decide) dX1_joined_24 rfl ?_
      refine v_world (ws' := wY cI bd U T F C B CM TR (s_X1_joined_RO F RO unit lane) (s_X1_joined_WY F C RO WY SU unit lane) (s_X1_joined_SU F C RO SU unit lane) (s_X1_joined_TH unit lane) (s_X1_joined_ST U T F C TR RO WY SU ST QU unit lane) (s_X1_joined_QU U T F C TR RO WY SU ST QU unit lane) (s_X1_joined_QN U T F C TR RO WY SU ST QU QN unit lane) FE) (by simp only [s_X1_joined, s_X1_joined_RO, s_X1_joined_WY, s_X1_joined_SU, s_X1_joined_TH, s_X1_joined_ST, s_X1_joined_QU, s_X1_joined_QN, if_pos h1]) ?_
      exact v_iret C0 hr hlk hK (by simp only [s_X1_joined, s_X1_joined_RO, s_X1_joined_WY, s_X1_joined_SU, s_X1_joined_TH, s_X1_joined_ST, s_X1_joined_QU, s_X1_joined_QN, if_pos h1]) dX1_joined_25
  · refine v_iconst C0 (pc' := 10) 0 (by decide) dX1_joined_9 rfl ?_
    refine v_goto C0 14 dX1_joined_10 (by decide) ?_
    refine v_put C0 hK (C := RX1) (T := TX1) (N := 15) (ws' := wY cI bd U T F C B CM TR RO WY SU 0 ST QU QN FE) (pc' := 17) 0 10 tyX1 rfl rfl rfl (by decide) (Nat.le_of_ble_eq_true rfl) tyX1_ok nmX1 in_X1_joined fl_X1_joined_43 rfl rfl rfl rfl rfl dX1_joined_14 rfl ?_
    refine v_aload_n C0 (pc' := 18) 0 rfl rfl dX1_joined_17 rfl ?_
    refine v_get C0 hK (C := RX1) (T := TX1) (N := 15) (pc' := 21) 0 10 rfl rfl rfl (by decide) in_X1_joined fl_X1_joined_43 rfl dX1_joined_18 rfl ?_
    refine v_if_le C0 26 (pc' := 24) dX1_joined_21 (by decide) rfl (fun h3 => ?_) (fun h3 => ?_)
    · refine v_aload_n C0 (pc' := 27) 0 rfl rfl dX1_joined_26 rfl ?_
      refine v_iload_n C0 (pc' := 28) 1 rfl rfl dX1_joined_27 rfl ?_
      refine v_iload_n C0 (pc' := 29) 2 rfl rfl dX1_joined_28 rfl ?_
      refine v_callSi0 C0 (av := [.int unit, .int lane]) (rest := [.ref (bd 0)]) (ws' := wY cI bd U T F C B CM TR RO WY SU 0 ST QU QN FE) (pc' := 32) hK hA (k_X1_place l D cI unit lane) (va_cwS 2 C0.2.2.2.2 gX1_joined_X1_place rfl rfl rfl (by decide +kernel) ⟨Nat.le_of_ble_eq_true rfl, Nat.le_of_ble_eq_true rfl⟩) PLs.nil rfl rfl (Nat.le_of_ble_eq_true rfl) ⟨Nat.zero_le _, Nat.zero_le _⟩ dX1_joined_29 rfl ?_
      refine v_callVv0 C0 (av := [.int (s_X1_place unit lane)]) (rest := []) (ws' := wY cI bd U T F C B CM TR (s_X1_spread_RO F RO) (s_X1_spread_WY F C RO WY SU) (s_X1_spread_SU F C RO SU) 0 (s_X1_spread_ST U T F C TR RO WY SU ST QU (s_X1_place unit lane)) (s_X1_spread_QU U T F C TR RO WY SU ST QU (s_X1_place unit lane)) (s_X1_spread_QN U T F C TR RO WY SU ST QU (s_X1_place unit lane)) FE) (pc' := 35) hK hA (k_X1_spread l D cI bd U T F C B CM TR RO WY SU 0 ST QU QN FE (s_X1_place unit lane) hb_TR hF hU (place_in (isPlace_vp h1).1 (isPlace_vp h1).2)) (cwV 1 C0.2.2.2.2 gX1_joined_X1_spread rfl rfl rfl (by decide +kernel) ⟨Nat.le_of_ble_eq_true rfl, Nat.le_of_ble_eq_true rfl⟩) ⟨0, 1, _, _, _, rfl, rfl⟩ PLs.all rfl rfl (Nat.le_of_ble_eq_true rfl) ⟨Nat.zero_le _, Nat.zero_le _⟩ dX1_joined_32 rfl ?_
      refine v_aload_n C0 (pc' := 36) 0 rfl rfl dX1_joined_35 rfl ?_
      refine v_get C0 hK (C := RX1) (T := TX1) (N := 15) (pc' := 39) 0 13 rfl rfl rfl (by decide) in_X1_joined fl_X1_joined_90 rfl dX1_joined_36 rfl ?_
      refine v_world (ws' := wY cI bd U T F C B CM TR (s_X1_joined_RO F RO unit lane) (s_X1_joined_WY F C RO WY SU unit lane) (s_X1_joined_SU F C RO SU unit lane) (s_X1_joined_TH unit lane) (s_X1_joined_ST U T F C TR RO WY SU ST QU unit lane) (s_X1_joined_QU U T F C TR RO WY SU ST QU unit lane) (s_X1_joined_QN U T F C TR RO WY SU ST QU QN unit lane) FE) (by simp only [s_X1_joined, s_X1_joined_RO, s_X1_joined_WY, s_X1_joined_SU, s_X1_joined_TH, s_X1_joined_ST, s_X1_joined_QU, s_X1_joined_QN, if_neg h1]) ?_
      exact v_iret C0 hr hlk hK (by simp only [s_X1_joined, s_X1_joined_RO, s_X1_joined_WY, s_X1_joined_SU, s_X1_joined_TH, s_X1_joined_ST, s_X1_joined_QU, s_X1_joined_QN, if_neg h1]) dX1_joined_39
    · exact absurd (by decide) h3
theorem pl16 {pl : Nat} (h : pl < 96) : nI pl / 16 * 6 = nI (pl / 16 * 6) := by
  rw [show (16 : Int32) = nI 16 from rfl, show (6 : Int32) = nI 6 from rfl, pk_div (by omega) (by decide) (by decide), pk_mul]
theorem plb {pl : Nat} (h : pl < 96) : nI pl / 16 * 6 + 6 = nI (6 + pl / 16 * 6) := by
  rw [pl16 h, show (6 : Int32) = nI 6 from rfl, nI_add, Nat.add_comm]
def s_X1_isUsed_L1 (U : Nat → Int32) (T : Nat → Int32) (pl : Nat) (i1 : Nat) (is_L1 : Int32) : Int32 := if is_L1 = 0 then (if (s_X1_isTagged T (nI (i1 + (pl / 16 * 6))) ((nI pl) - (nI pl) / 16 * 16)) = 0 then (if (xAt 36 U (nI (i1 + (pl / 16 * 6)))) = ((nI pl) - (nI pl) / 16 * 16) then 1 else 0) else 1) else 1
def s_X1_isUsed (U : Nat → Int32) (T : Nat → Int32) (pl : Nat) : Int32 := if (lp (s_X1_isUsed_L1 U T pl) 6 0) = 0 then 0 else (if ((nI pl) - (nI pl) / 16 * 16) ≤ 0 then 0 else 1)
set_option maxHeartbeats 4000000 in
set_option maxRecDepth 100000 in
theorem k_X1_isUsed (l : Launch) (D : va_G) (cI : ClassId) (bd : Nat → Nat) (U : Nat → Int32) (T : Nat → Int32) (F : Nat → Int32) (C : Nat → Int32) (B : Nat → Int32) (CM : Int32) (TR : Int32) (RO : Nat → Int32) (WY : Nat → Int32) (SU : Nat → Int32) (TH : Int32) (ST : Nat → Int32) (QU : Nat → Int32) (QN : Int32) (FE : Nat → Int32) (pl : Nat) (hp : pl < 96) : Ki l yX1_isUsed wsX1_isUsed 1 22 0 0 D (TI cI) [.ref (bd 0), .int (nI pl)] (wY cI bd U T F C B CM TR RO WY SU TH ST QU QN FE) (wY cI bd U T F C B CM TR RO WY SU TH ST QU QN FE) (s_X1_isUsed U T pl) := by
  refine Ki.of (cc := cX1_isUsed) (maxL := 4) (rt := .boolean) (lv0 := [(0, .ref (bd 0)), (1, .int (nI pl))]) (by decide +kernel) rfl (Nat.le_of_ble_eq_true rfl) rfl ?_
  intro p e s m args below meth c A C0 hr hlk hK hA
  refine v_iconst C0 (pc' := 1) 0 (by decide) dX1_isUsed_0 rfl ?_
  refine v_istore_n C0 (lv' := [(2, .int 0), (0, .ref (bd 0)), (1, .int (nI pl))]) (pc' := 2) rfl (by decide) rfl dX1_isUsed_1 rfl ?_
  refine v_iload_n C0 (pc' := 3) 2 rfl rfl dX1_isUsed_2 rfl ?_
  refine v_bipush C0 (pc' := 5) 16 (by decide) dX1_isUsed_3 rfl ?_
  refine v_idiv C0 (pc' := 6) (by decide) dX1_isUsed_5 rfl ?_
  refine v_bipush C0 (pc' := 8) 6 (by decide) dX1_isUsed_6 rfl ?_
  refine v_imul C0 (pc' := 9) dX1_isUsed_8 rfl ?_
  refine v_eqi (y := nI (pl / 16 * 6)) (pl16 hp) ?_
  refine v_istore_n C0 (lv' := [(3, .int (nI (pl / 16 * 6))), (2, .int 0), (0, .ref (bd 0)), (1, .int (nI pl))]) (pc' := 10) rfl (by decide) rfl dX1_isUsed_9 rfl ?_
  suffices LP1 : ∀ (j1 i1 : Nat) (x1 : Int32) (is_L1 : Int32), i1 + j1 = 6 → x1 = nI (i1 + (pl / 16 * 6)) → is_L1 = lp (s_X1_isUsed_L1 U T pl) i1 0 → V p l e { frames := 1, cells := 0, slots := 0, locals := 22 } s m args below meth c D A 4 0 0 (MQ below (QI D (TI cI) (wY cI bd U T F C B CM TR RO WY SU TH ST QU QN FE) A (s_X1_isUsed U T pl)) args s 0 0 A) (wY cI bd U T F C B CM TR RO WY SU TH ST QU QN FE) [(3, .int x1), (2, .int is_L1), (0, .ref (bd 0)), (1, .int (nI pl))] 10 [] by
    exact v_sub (lv' := [(3, .int (nI (pl / 16 * 6))), (2, .int 0), (0, .ref (bd 0)), (1, .int (nI pl))]) [0, 1, 2, 3] rfl (LP1 6 0 (nI (pl / 16 * 6)) 0 (Nat.zero_add _) (by rw [Nat.zero_add]) (lp_zero _ _).symm)
  intro j1
  induction j1 with
  | zero =>
    intro i1 x1 is_L1 hi1 hx1 hs_L1
    have hi1 : 6 = i1 := by omega
    subst hi1
    subst hx1
    refine v_iload_n C0 (pc' := 11) 0 rfl rfl dX1_isUsed_10 rfl ?_
    refine v_iload_n C0 (pc' := 12) 3 rfl rfl dX1_isUsed_11 rfl ?_
    refine v_bipush C0 (pc' := 14) 16 (by decide) dX1_isUsed_12 rfl ?_
    refine v_idiv C0 (pc' := 15) (by decide) dX1_isUsed_14 rfl ?_
    refine v_bipush C0 (pc' := 17) 6 (by decide) dX1_isUsed_15 rfl ?_
    refine v_imul C0 (pc' := 18) dX1_isUsed_17 rfl ?_
    refine v_bipush C0 (pc' := 20) 6 (by decide) dX1_isUsed_18 rfl ?_
    refine v_iadd C0 (pc' := 21) dX1_isUsed_20 rfl ?_
    refine v_icmp_ge C0 65 (pc' := 24) dX1_isUsed_21 (by decide) rfl (fun h1 => ?_) (fun h1 => ?_)
    · refine v_iload_n C0 (pc' := 66) 1 rfl rfl dX1_isUsed_65 rfl ?_
      refine v_if_eq C0 80 (pc' := 69) dX1_isUsed_66 (by decide) rfl (fun h2 => ?_) (fun h2 => ?_)
      · refine v_iconst C0 (pc' := 81) 0 (by decide) dX1_isUsed_80 rfl ?_
        exact v_zret C0 hr hlk hK (Or.inl rfl : (0 : Int32) = 0 ∨ (0 : Int32) = 1) (by simp only [s_X1_isUsed, if_pos h1, if_pos h2, ← hs_L1]) dX1_isUsed_81
      · refine v_iload_n C0 (pc' := 70) 3 rfl rfl dX1_isUsed_69 rfl ?_
        refine v_bipush C0 (pc' := 72) 16 (by decide) dX1_isUsed_70 rfl ?_
        refine v_irem C0 (pc' := 73) (by decide) dX1_isUsed_72 rfl ?_
        refine v_if_le C0 80 (pc' := 76) dX1_isUsed_73 (by decide) rfl (fun h3 => ?_) (fun h3 => ?_)
        · refine v_iconst C0 (pc' := 81) 0 (by decide) dX1_isUsed_80 rfl ?_
          exact v_zret C0 hr hlk hK (Or.inl rfl : (0 : Int32) = 0 ∨ (0 : Int32) = 1) (by simp only [s_X1_isUsed, if_pos h1, if_neg h2, if_pos h3, ← hs_L1]) dX1_isUsed_81
        · refine v_iconst C0 (pc' := 77) 1 (by decide) dX1_isUsed_76 rfl ?_
          refine v_goto C0 81 dX1_isUsed_77 (by decide) ?_
          exact v_zret C0 hr hlk hK (Or.inr rfl : (1 : Int32) = 0 ∨ (1 : Int32) = 1) (by simp only [s_X1_isUsed, if_pos h1, if_neg h2, if_neg h3, ← hs_L1]) dX1_isUsed_81
    · exact absurd (by rw [plb hp]; exact Int32.le_refl _) h1
  | succ j1 ih1 =>
    intro i1 x1 is_L1 hi1 hx1 hs_L1
    subst hx1
    refine v_iload_n C0 (pc' := 11) 0 rfl rfl dX1_isUsed_10 rfl ?_
    refine v_iload_n C0 (pc' := 12) 3 rfl rfl dX1_isUsed_11 rfl ?_
    refine v_bipush C0 (pc' := 14) 16 (by decide) dX1_isUsed_12 rfl ?_
    refine v_idiv C0 (pc' := 15) (by decide) dX1_isUsed_14 rfl ?_
    refine v_bipush C0 (pc' := 17) 6 (by decide) dX1_isUsed_15 rfl ?_
    refine v_imul C0 (pc' := 18) dX1_isUsed_17 rfl ?_
    refine v_bipush C0 (pc' := 20) 6 (by decide) dX1_isUsed_18 rfl ?_
    refine v_iadd C0 (pc' := 21) dX1_isUsed_20 rfl ?_
    refine v_icmp_ge C0 65 (pc' := 24) dX1_isUsed_21 (by decide) rfl (fun h4 => ?_) (fun h4 => ?_)
    · exact absurd (plb hp ▸ h4) (nI_ge (a := i1 + pl / 16 * 6) (b := 6 + pl / 16 * 6) (by omega) (by omega))
    · refine v_iload_n C0 (pc' := 25) 1 rfl rfl dX1_isUsed_24 rfl ?_
      refine v_if_ne C0 53 (pc' := 28) dX1_isUsed_25 (by decide) rfl (fun h5 => ?_) (fun h5 => ?_)
      · refine v_iconst C0 (pc' := 54) 1 (by decide) dX1_isUsed_53 rfl ?_
        refine v_goto C0 58 dX1_isUsed_54 (by decide) ?_
        refine v_istore_n C0 (lv' := [(2, .int 1), (3, .int (nI (i1 + (pl / 16 * 6)))), (0, .ref (bd 0)), (1, .int (nI pl))]) (pc' := 59) rfl (by decide) rfl dX1_isUsed_58 rfl ?_
        refine v_iinc C0 (lv' := [(3, .int ((nI (i1 + (pl / 16 * 6))) + 1)), (2, .int 1), (0, .ref (bd 0)), (1, .int (nI pl))]) (pc' := 62) 1 rfl ((nI (i1 + (pl / 16 * 6))) + 1) rfl (by decide) rfl dX1_isUsed_59 rfl ?_
        refine v_goto C0 10 dX1_isUsed_62 (by decide) ?_
        exact v_sub (lv' := [(3, .int ((nI (i1 + (pl / 16 * 6))) + 1)), (2, .int 1), (0, .ref (bd 0)), (1, .int (nI pl))]) [0, 1, 2, 3] rfl (ih1 (i1 + 1) ((nI (i1 + (pl / 16 * 6))) + 1) 1 (by omega) (by rw [nI_1, Nat.add_right_comm]) (by rw [lp_succ, ← hs_L1]; simp only [s_X1_isUsed_L1, if_neg h4, if_neg h5]))
      · refine v_aload_n C0 (pc' := 29) 2 rfl rfl dX1_isUsed_28 rfl ?_
        refine v_iload_n C0 (pc' := 30) 0 rfl rfl dX1_isUsed_29 rfl ?_
        refine v_iload_n C0 (pc' := 31) 3 rfl rfl dX1_isUsed_30 rfl ?_
        refine v_bipush C0 (pc' := 33) 16 (by decide) dX1_isUsed_31 rfl ?_
        refine v_irem C0 (pc' := 34) (by decide) dX1_isUsed_33 rfl ?_
        refine v_callVi0 C0 (av := [.int (nI (i1 + (pl / 16 * 6))), .int ((nI pl) - (nI pl) / 16 * 16)]) (rest := []) (ws' := wY cI bd U T F C B CM TR RO WY SU TH ST QU QN FE) (pc' := 37) hK hA (k_X1_isTagged l D cI bd U T F C B CM TR RO WY SU TH ST QU QN FE (nI (i1 + (pl / 16 * 6))) ((nI pl) - (nI pl) / 16 * 16) (vp_in_nI (by omega) (by decide))) (cwV 2 C0.2.2.2.2 gX1_isUsed_X1_isTagged rfl rfl rfl (by decide +kernel) ⟨Nat.le_of_ble_eq_true rfl, Nat.le_of_ble_eq_true rfl⟩) ⟨0, 1, _, _, _, rfl, rfl⟩ PLs.all rfl rfl (Nat.le_of_ble_eq_true rfl) ⟨Nat.zero_le _, Nat.zero_le _⟩ dX1_isUsed_34 rfl ?_
        refine v_if_ne C0 53 (pc' := 40) dX1_isUsed_37 (by decide) rfl (fun h6 => ?_) (fun h6 => ?_)
        · refine v_iconst C0 (pc' := 54) 1 (by decide) dX1_isUsed_53 rfl ?_
          refine v_goto C0 58 dX1_isUsed_54 (by decide) ?_
          refine v_istore_n C0 (lv' := [(2, .int 1), (3, .int (nI (i1 + (pl / 16 * 6)))), (0, .ref (bd 0)), (1, .int (nI pl))]) (pc' := 59) rfl (by decide) rfl dX1_isUsed_58 rfl ?_
          refine v_iinc C0 (lv' := [(3, .int ((nI (i1 + (pl / 16 * 6))) + 1)), (2, .int 1), (0, .ref (bd 0)), (1, .int (nI pl))]) (pc' := 62) 1 rfl ((nI (i1 + (pl / 16 * 6))) + 1) rfl (by decide) rfl dX1_isUsed_59 rfl ?_
          refine v_goto C0 10 dX1_isUsed_62 (by decide) ?_
          exact v_sub (lv' := [(3, .int ((nI (i1 + (pl / 16 * 6))) + 1)), (2, .int 1), (0, .ref (bd 0)), (1, .int (nI pl))]) [0, 1, 2, 3] rfl (ih1 (i1 + 1) ((nI (i1 + (pl / 16 * 6))) + 1) 1 (by omega) (by rw [nI_1, Nat.add_right_comm]) (by rw [lp_succ, ← hs_L1]; simp only [s_X1_isUsed_L1, if_neg h4, if_pos h5, if_neg h6]))
        · refine v_aload_n C0 (pc' := 41) 2 rfl rfl dX1_isUsed_40 rfl ?_
          refine v_get C0 hK (C := RX1) (T := TX1) (N := 15) (pc' := 44) 0 0 rfl rfl rfl (by decide) in_X1_isUsed fl_X1_isUsed_7 rfl dX1_isUsed_41 rfl ?_
          refine v_iload_n C0 (pc' := 45) 0 rfl rfl dX1_isUsed_44 rfl ?_
          refine v_ialx C0 hK (pc' := 46) 1 0 rfl rfl (vp_in_nI (by omega) (by decide)) (by decide) dX1_isUsed_45 rfl ?_
          refine v_iload_n C0 (pc' := 47) 3 rfl rfl dX1_isUsed_46 rfl ?_
          refine v_bipush C0 (pc' := 49) 16 (by decide) dX1_isUsed_47 rfl ?_
          refine v_irem C0 (pc' := 50) (by decide) dX1_isUsed_49 rfl ?_
          refine v_icmp_ne C0 57 (pc' := 53) dX1_isUsed_50 (by decide) rfl (fun h7 => ?_) (fun h7 => ?_)
          · refine v_iconst C0 (pc' := 58) 0 (by decide) dX1_isUsed_57 rfl ?_
            refine v_istore_n C0 (lv' := [(2, .int 0), (3, .int (nI (i1 + (pl / 16 * 6)))), (0, .ref (bd 0)), (1, .int (nI pl))]) (pc' := 59) rfl (by decide) rfl dX1_isUsed_58 rfl ?_
            refine v_iinc C0 (lv' := [(3, .int ((nI (i1 + (pl / 16 * 6))) + 1)), (2, .int 0), (0, .ref (bd 0)), (1, .int (nI pl))]) (pc' := 62) 1 rfl ((nI (i1 + (pl / 16 * 6))) + 1) rfl (by decide) rfl dX1_isUsed_59 rfl ?_
            refine v_goto C0 10 dX1_isUsed_62 (by decide) ?_
            exact v_sub (lv' := [(3, .int ((nI (i1 + (pl / 16 * 6))) + 1)), (2, .int 0), (0, .ref (bd 0)), (1, .int (nI pl))]) [0, 1, 2, 3] rfl (ih1 (i1 + 1) ((nI (i1 + (pl / 16 * 6))) + 1) 0 (by omega) (by rw [nI_1, Nat.add_right_comm]) (by rw [lp_succ, ← hs_L1]; simp only [s_X1_isUsed_L1, if_neg h4, if_pos h5, if_pos h6, if_neg h7]))
          · refine v_iconst C0 (pc' := 54) 1 (by decide) dX1_isUsed_53 rfl ?_
            refine v_goto C0 58 dX1_isUsed_54 (by decide) ?_
            refine v_istore_n C0 (lv' := [(2, .int 1), (3, .int (nI (i1 + (pl / 16 * 6)))), (0, .ref (bd 0)), (1, .int (nI pl))]) (pc' := 59) rfl (by decide) rfl dX1_isUsed_58 rfl ?_
            refine v_iinc C0 (lv' := [(3, .int ((nI (i1 + (pl / 16 * 6))) + 1)), (2, .int 1), (0, .ref (bd 0)), (1, .int (nI pl))]) (pc' := 62) 1 rfl ((nI (i1 + (pl / 16 * 6))) + 1) rfl (by decide) rfl dX1_isUsed_59 rfl ?_
            refine v_goto C0 10 dX1_isUsed_62 (by decide) ?_
            exact v_sub (lv' := [(3, .int ((nI (i1 + (pl / 16 * 6))) + 1)), (2, .int 1), (0, .ref (bd 0)), (1, .int (nI pl))]) [0, 1, 2, 3] rfl (ih1 (i1 + 1) ((nI (i1 + (pl / 16 * 6))) + 1) 1 (by omega) (by rw [nI_1, Nat.add_right_comm]) (by rw [lp_succ, ← hs_L1]; simp only [s_X1_isUsed_L1, if_neg h4, if_pos h5, if_pos h6, if_pos h7]))
theorem b_X1_isUsed (U : Nat → Int32) (T : Nat → Int32) (pl : Nat) : s_X1_isUsed U T pl = 0 ∨ s_X1_isUsed U T pl = 1 := by unfold s_X1_isUsed; (repeat' split) <;> first | exact Or.inl rfl | exact Or.inr rfl
def s_X1_islandMany_L2 (ST_p : Nat → Int32) (i2 : Nat) (is_L2 : Int32) : Int32 := if is_L2 = 0 then 0 else (if (xAt 96 ST_p (nI i2)) = (-1) then 1 else 0)
def s_X1_islandMany_L1 (U : Nat → Int32) (T : Nat → Int32) (F : Nat → Int32) (C : Nat → Int32) (TR : Int32) (i1 : Nat) (z : Int32 × (Nat → Int32) × (Nat → Int32) × (Nat → Int32) × (Nat → Int32) × (Nat → Int32) × Int32) : Int32 × (Nat → Int32) × (Nat → Int32) × (Nat → Int32) × (Nat → Int32) × (Nat → Int32) × Int32 := match z with
  | (n_L1, RO_L1, WY_L1, SU_L1, ST_L1, QU_L1, QN_L1) => if (s_X1_isUsed U T i1) = 0 then (if (lp (s_X1_islandMany_L2 ST_L1) i1 (s_X1_isUsed U T i1)) = 0 then (n_L1 + 0, RO_L1, WY_L1, SU_L1, ST_L1, QU_L1, QN_L1) else (n_L1 + 1, RO_L1, WY_L1, SU_L1, ST_L1, QU_L1, QN_L1)) else (if (lp (s_X1_islandMany_L2 (s_X1_spread_ST U T F C TR RO_L1 WY_L1 SU_L1 ST_L1 QU_L1 (nI i1))) i1 (s_X1_isUsed U T i1)) = 0 then (n_L1 + 0, s_X1_spread_RO F RO_L1, s_X1_spread_WY F C RO_L1 WY_L1 SU_L1, s_X1_spread_SU F C RO_L1 SU_L1, s_X1_spread_ST U T F C TR RO_L1 WY_L1 SU_L1 ST_L1 QU_L1 (nI i1), s_X1_spread_QU U T F C TR RO_L1 WY_L1 SU_L1 ST_L1 QU_L1 (nI i1), s_X1_spread_QN U T F C TR RO_L1 WY_L1 SU_L1 ST_L1 QU_L1 (nI i1)) else (n_L1 + 1, s_X1_spread_RO F RO_L1, s_X1_spread_WY F C RO_L1 WY_L1 SU_L1, s_X1_spread_SU F C RO_L1 SU_L1, s_X1_spread_ST U T F C TR RO_L1 WY_L1 SU_L1 ST_L1 QU_L1 (nI i1), s_X1_spread_QU U T F C TR RO_L1 WY_L1 SU_L1 ST_L1 QU_L1 (nI i1), s_X1_spread_QN U T F C TR RO_L1 WY_L1 SU_L1 ST_L1 QU_L1 (nI i1)))
def s_X1_islandMany (U : Nat → Int32) (T : Nat → Int32) (F : Nat → Int32) (C : Nat → Int32) (TR : Int32) (RO : Nat → Int32) (WY : Nat → Int32) (SU : Nat → Int32) (ST : Nat → Int32) (QU : Nat → Int32) (QN : Int32) : Int32 := ((lp (s_X1_islandMany_L1 U T F C TR) 96 (0, RO, WY, SU, ST, QU, QN)).1)
def s_X1_islandMany_RO (U : Nat → Int32) (T : Nat → Int32) (F : Nat → Int32) (C : Nat → Int32) (TR : Int32) (RO : Nat → Int32) (WY : Nat → Int32) (SU : Nat → Int32) (ST : Nat → Int32) (QU : Nat → Int32) (QN : Int32) : Nat → Int32 := ((lp (s_X1_islandMany_L1 U T F C TR) 96 (0, RO, WY, SU, ST, QU, QN)).2.1)
def s_X1_islandMany_WY (U : Nat → Int32) (T : Nat → Int32) (F : Nat → Int32) (C : Nat → Int32) (TR : Int32) (RO : Nat → Int32) (WY : Nat → Int32) (SU : Nat → Int32) (ST : Nat → Int32) (QU : Nat → Int32) (QN : Int32) : Nat → Int32 := ((lp (s_X1_islandMany_L1 U T F C TR) 96 (0, RO, WY, SU, ST, QU, QN)).2.2.1)
def s_X1_islandMany_SU (U : Nat → Int32) (T : Nat → Int32) (F : Nat → Int32) (C : Nat → Int32) (TR : Int32) (RO : Nat → Int32) (WY : Nat → Int32) (SU : Nat → Int32) (ST : Nat → Int32) (QU : Nat → Int32) (QN : Int32) : Nat → Int32 := ((lp (s_X1_islandMany_L1 U T F C TR) 96 (0, RO, WY, SU, ST, QU, QN)).2.2.2.1)
def s_X1_islandMany_ST (U : Nat → Int32) (T : Nat → Int32) (F : Nat → Int32) (C : Nat → Int32) (TR : Int32) (RO : Nat → Int32) (WY : Nat → Int32) (SU : Nat → Int32) (ST : Nat → Int32) (QU : Nat → Int32) (QN : Int32) : Nat → Int32 := ((lp (s_X1_islandMany_L1 U T F C TR) 96 (0, RO, WY, SU, ST, QU, QN)).2.2.2.2.1)
def s_X1_islandMany_QU (U : Nat → Int32) (T : Nat → Int32) (F : Nat → Int32) (C : Nat → Int32) (TR : Int32) (RO : Nat → Int32) (WY : Nat → Int32) (SU : Nat → Int32) (ST : Nat → Int32) (QU : Nat → Int32) (QN : Int32) : Nat → Int32 := ((lp (s_X1_islandMany_L1 U T F C TR) 96 (0, RO, WY, SU, ST, QU, QN)).2.2.2.2.2.1)
def s_X1_islandMany_QN (U : Nat → Int32) (T : Nat → Int32) (F : Nat → Int32) (C : Nat → Int32) (TR : Int32) (RO : Nat → Int32) (WY : Nat → Int32) (SU : Nat → Int32) (ST : Nat → Int32) (QU : Nat → Int32) (QN : Int32) : Int32 := ((lp (s_X1_islandMany_L1 U T F C TR) 96 (0, RO, WY, SU, ST, QU, QN)).2.2.2.2.2.2)
set_option maxHeartbeats 4000000 in
set_option maxRecDepth 100000 in
theorem k_X1_islandMany (l : Launch) (D : va_G) (cI : ClassId) (bd : Nat → Nat) (U : Nat → Int32) (T : Nat → Int32) (F : Nat → Int32) (C : Nat → Int32) (B : Nat → Int32) (CM : Int32) (TR : Int32) (RO : Nat → Int32) (WY : Nat → Int32) (SU : Nat → Int32) (TH : Int32) (ST : Nat → Int32) (QU : Nat → Int32) (QN : Int32) (FE : Nat → Int32)  (hb_TR : TR = 0 ∨ TR = 1) (hF : FR F) (hU : UR U) : Ki l yX1_islandMany wsX1_islandMany 3 71 0 0 D (TI cI) [.ref (bd 0)] (wY cI bd U T F C B CM TR RO WY SU TH ST QU QN FE) (wY cI bd U T F C B CM TR (s_X1_islandMany_RO U T F C TR RO WY SU ST QU QN) (s_X1_islandMany_WY U T F C TR RO WY SU ST QU QN) (s_X1_islandMany_SU U T F C TR RO WY SU ST QU QN) TH (s_X1_islandMany_ST U T F C TR RO WY SU ST QU QN) (s_X1_islandMany_QU U T F C TR RO WY SU ST QU QN) (s_X1_islandMany_QN U T F C TR RO WY SU ST QU QN) FE) (s_X1_islandMany U T F C TR RO WY SU ST QU QN) := by
  refine Ki.of (cc := cX1_islandMany) (maxL := 5) (rt := .int) (lv0 := [(0, .ref (bd 0))]) (by decide +kernel) rfl (Nat.le_of_ble_eq_true rfl) rfl ?_
  intro p e s m args below meth c A C0 hr hlk hK hA
  refine v_iconst C0 (pc' := 1) 0 (by decide) dX1_islandMany_0 rfl ?_
  refine v_istore_n C0 (lv' := [(1, .int 0), (0, .ref (bd 0))]) (pc' := 2) rfl (by decide) rfl dX1_islandMany_1 rfl ?_
  refine v_iconst C0 (pc' := 3) 0 (by decide) dX1_islandMany_2 rfl ?_
  refine v_istore_n C0 (lv' := [(2, .int 0), (1, .int 0), (0, .ref (bd 0))]) (pc' := 4) rfl (by decide) rfl dX1_islandMany_3 rfl ?_
  suffices LP1 : ∀ (j1 i1 : Nat) (x1 : Int32) (n_L1 : Int32) (RO_L1 : Nat → Int32) (WY_L1 : Nat → Int32) (SU_L1 : Nat → Int32) (ST_L1 : Nat → Int32) (QU_L1 : Nat → Int32) (QN_L1 : Int32), i1 + j1 = 96 → x1 = nI i1 → (n_L1, RO_L1, WY_L1, SU_L1, ST_L1, QU_L1, QN_L1) = lp (s_X1_islandMany_L1 U T F C TR) i1 (0, RO, WY, SU, ST, QU, QN) → V p l e { frames := 3, cells := 0, slots := 0, locals := 71 } s m args below meth c D A 5 0 0 (MQ below (QI D (TI cI) (wY cI bd U T F C B CM TR (s_X1_islandMany_RO U T F C TR RO WY SU ST QU QN) (s_X1_islandMany_WY U T F C TR RO WY SU ST QU QN) (s_X1_islandMany_SU U T F C TR RO WY SU ST QU QN) TH (s_X1_islandMany_ST U T F C TR RO WY SU ST QU QN) (s_X1_islandMany_QU U T F C TR RO WY SU ST QU QN) (s_X1_islandMany_QN U T F C TR RO WY SU ST QU QN) FE) A (s_X1_islandMany U T F C TR RO WY SU ST QU QN)) args s 0 0 A) (wY cI bd U T F C B CM TR RO_L1 WY_L1 SU_L1 TH ST_L1 QU_L1 QN_L1 FE) [(2, .int x1), (1, .int n_L1), (0, .ref (bd 0))] 4 [] by
    exact v_sub (lv' := [(2, .int 0), (1, .int 0), (0, .ref (bd 0))]) [0, 1, 2] rfl (LP1 96 0 0 0 RO WY SU ST QU QN (Nat.zero_add _) nI_0.symm (lp_zero _ _).symm)
  intro j1
  induction j1 with
  | zero =>
    intro i1 x1 n_L1 RO_L1 WY_L1 SU_L1 ST_L1 QU_L1 QN_L1 hi1 hx1 hs_L1
    have hi1 : 96 = i1 := by omega
    subst hi1
    subst hx1
    refine v_iload_n C0 (pc' := 5) 0 rfl rfl dX1_islandMany_4 rfl ?_
    refine v_bipush C0 (pc' := 7) 96 (by decide) dX1_islandMany_5 rfl ?_
    refine v_icmp_ge C0 79 (pc' := 10) dX1_islandMany_7 (by decide) rfl (fun h1 => ?_) (fun h1 => ?_)
    · refine v_iload_n C0 (pc' := 80) 1 rfl rfl dX1_islandMany_79 rfl ?_
      refine v_world (ws' := wY cI bd U T F C B CM TR (s_X1_islandMany_RO U T F C TR RO WY SU ST QU QN) (s_X1_islandMany_WY U T F C TR RO WY SU ST QU QN) (s_X1_islandMany_SU U T F C TR RO WY SU ST QU QN) TH (s_X1_islandMany_ST U T F C TR RO WY SU ST QU QN) (s_X1_islandMany_QU U T F C TR RO WY SU ST QU QN) (s_X1_islandMany_QN U T F C TR RO WY SU ST QU QN) FE) (by simp only [s_X1_islandMany, s_X1_islandMany_RO, s_X1_islandMany_WY, s_X1_islandMany_SU, s_X1_islandMany_ST, s_X1_islandMany_QU, s_X1_islandMany_QN, if_pos h1, ← hs_L1]) ?_
      exact v_iret C0 hr hlk hK (by simp only [s_X1_islandMany, s_X1_islandMany_RO, s_X1_islandMany_WY, s_X1_islandMany_SU, s_X1_islandMany_ST, s_X1_islandMany_QU, s_X1_islandMany_QN, if_pos h1, ← hs_L1]) dX1_islandMany_80
    · exact absurd (by decide +kernel) h1
  | succ j1 ih1 =>
    intro i1 x1 n_L1 RO_L1 WY_L1 SU_L1 ST_L1 QU_L1 QN_L1 hi1 hx1 hs_L1
    subst hx1
    refine v_iload_n C0 (pc' := 5) 0 rfl rfl dX1_islandMany_4 rfl ?_
    refine v_bipush C0 (pc' := 7) 96 (by decide) dX1_islandMany_5 rfl ?_
    refine v_icmp_ge C0 79 (pc' := 10) dX1_islandMany_7 (by decide) rfl (fun h2 => ?_) (fun h2 => ?_)
    · exact absurd h2 (nI_ge (a := i1) (b := 96) (by omega) (by decide))
    · refine v_aload_n C0 (pc' := 11) 2 rfl rfl dX1_islandMany_10 rfl ?_
      refine v_iload_n C0 (pc' := 12) 0 rfl rfl dX1_islandMany_11 rfl ?_
      refine v_callVi0 C0 (av := [.int (nI i1)]) (rest := []) (ws' := wY cI bd U T F C B CM TR RO_L1 WY_L1 SU_L1 TH ST_L1 QU_L1 QN_L1 FE) (pc' := 15) hK hA (k_X1_isUsed l D cI bd U T F C B CM TR RO_L1 WY_L1 SU_L1 TH ST_L1 QU_L1 QN_L1 FE i1 (by omega)) (cwV 1 C0.2.2.2.2 gX1_islandMany_X1_isUsed rfl rfl rfl (by decide +kernel) ⟨Nat.le_of_ble_eq_true rfl, Nat.le_of_ble_eq_true rfl⟩) ⟨0, 1, _, _, _, rfl, rfl⟩ PLs.all rfl rfl (Nat.le_of_ble_eq_true rfl) ⟨Nat.zero_le _, Nat.zero_le _⟩ dX1_islandMany_12 rfl ?_
      refine v_istore_n C0 (lv' := [(3, .int (s_X1_isUsed U T i1)), (2, .int (nI i1)), (1, .int n_L1), (0, .ref (bd 0))]) (pc' := 16) rfl (by decide) rfl dX1_islandMany_15 rfl ?_
      refine v_iload_n C0 (pc' := 17) 0 rfl rfl dX1_islandMany_16 rfl ?_
      refine v_if_eq C0 25 (pc' := 20) dX1_islandMany_17 (by decide) rfl (fun h3 => ?_) (fun h3 => ?_)
      · refine v_iconst C0 (pc' := 26) 0 (by decide) dX1_islandMany_25 rfl ?_
        refine v_istore C0 (lv' := [(4, .int 0), (3, .int (s_X1_isUsed U T i1)), (2, .int (nI i1)), (1, .int n_L1), (0, .ref (bd 0))]) (pc' := 28) (by decide) rfl dX1_islandMany_26 rfl ?_
        suffices LP2 : ∀ (j2 i2 : Nat) (x2 : Int32) (is_L2 : Int32), i2 + j2 = i1 → x2 = nI i2 → is_L2 = lp (s_X1_islandMany_L2 ST_L1) i2 (s_X1_isUsed U T i1) → V p l e { frames := 3, cells := 0, slots := 0, locals := 71 } s m args below meth c D A 5 0 0 (MQ below (QI D (TI cI) (wY cI bd U T F C B CM TR (s_X1_islandMany_RO U T F C TR RO WY SU ST QU QN) (s_X1_islandMany_WY U T F C TR RO WY SU ST QU QN) (s_X1_islandMany_SU U T F C TR RO WY SU ST QU QN) TH (s_X1_islandMany_ST U T F C TR RO WY SU ST QU QN) (s_X1_islandMany_QU U T F C TR RO WY SU ST QU QN) (s_X1_islandMany_QN U T F C TR RO WY SU ST QU QN) FE) A (s_X1_islandMany U T F C TR RO WY SU ST QU QN)) args s 0 0 A) (wY cI bd U T F C B CM TR RO_L1 WY_L1 SU_L1 TH ST_L1 QU_L1 QN_L1 FE) [(4, .int x2), (3, .int is_L2), (2, .int (nI i1)), (1, .int n_L1), (0, .ref (bd 0))] 28 [] by
          exact v_sub (lv' := [(4, .int 0), (3, .int (s_X1_isUsed U T i1)), (2, .int (nI i1)), (1, .int n_L1), (0, .ref (bd 0))]) [0, 1, 2, 3, 4] rfl (LP2 i1 0 0 (s_X1_isUsed U T i1) (Nat.zero_add _) nI_0.symm (lp_zero _ _).symm)
        intro j2
        induction j2 with
        | zero =>
          intro i2 x2 is_L2 hi2 hx2 hs_L2
          have hi2 : i1 = i2 := by omega
          subst hi2
          subst hx2
          refine v_iload C0 (pc' := 30) 0 rfl dX1_islandMany_28 rfl ?_
          refine v_iload_n C0 (pc' := 31) 2 rfl rfl dX1_islandMany_30 rfl ?_
          refine v_icmp_ge C0 61 (pc' := 34) dX1_islandMany_31 (by decide) rfl (fun h4 => ?_) (fun h4 => ?_)
          · refine v_iload_n C0 (pc' := 62) 3 rfl rfl dX1_islandMany_61 rfl ?_
            refine v_iload_n C0 (pc' := 63) 1 rfl rfl dX1_islandMany_62 rfl ?_
            refine v_if_eq C0 70 (pc' := 66) dX1_islandMany_63 (by decide) rfl (fun h5 => ?_) (fun h5 => ?_)
            · refine v_iconst C0 (pc' := 71) 0 (by decide) dX1_islandMany_70 rfl ?_
              refine v_iadd C0 (pc' := 72) dX1_islandMany_71 rfl ?_
              refine v_istore_n C0 (lv' := [(1, .int (n_L1 + 0)), (4, .int (nI i1)), (3, .int is_L2), (2, .int (nI i1)), (0, .ref (bd 0))]) (pc' := 73) rfl (by decide) rfl dX1_islandMany_72 rfl ?_
              refine v_iinc C0 (lv' := [(2, .int ((nI i1) + 1)), (1, .int (n_L1 + 0)), (4, .int (nI i1)), (3, .int is_L2), (0, .ref (bd 0))]) (pc' := 76) 3 rfl ((nI i1) + 1) rfl (by decide) rfl dX1_islandMany_73 rfl ?_
              refine v_goto C0 4 dX1_islandMany_76 (by decide) ?_
              exact v_sub (lv' := [(2, .int ((nI i1) + 1)), (1, .int (n_L1 + 0)), (0, .ref (bd 0))]) [0, 1, 4] rfl (ih1 (i1 + 1) ((nI i1) + 1) (n_L1 + 0) RO_L1 WY_L1 SU_L1 ST_L1 QU_L1 QN_L1 (by omega) (by rw [nI_1]) (by rw [lp_succ, ← hs_L1]; simp only [s_X1_islandMany_L1, if_neg h2, if_pos h3, if_pos h4, if_pos h5, ← hs_L2]))
            · refine v_iconst C0 (pc' := 67) 1 (by decide) dX1_islandMany_66 rfl ?_
              refine v_goto C0 71 dX1_islandMany_67 (by decide) ?_
              refine v_iadd C0 (pc' := 72) dX1_islandMany_71 rfl ?_
              refine v_istore_n C0 (lv' := [(1, .int (n_L1 + 1)), (4, .int (nI i1)), (3, .int is_L2), (2, .int (nI i1)), (0, .ref (bd 0))]) (pc' := 73) rfl (by decide) rfl dX1_islandMany_72 rfl ?_
              refine v_iinc C0 (lv' := [(2, .int ((nI i1) + 1)), (1, .int (n_L1 + 1)), (4, .int (nI i1)), (3, .int is_L2), (0, .ref (bd 0))]) (pc' := 76) 3 rfl ((nI i1) + 1) rfl (by decide) rfl dX1_islandMany_73 rfl ?_
              refine v_goto C0 4 dX1_islandMany_76 (by decide) ?_
              exact v_sub (lv' := [(2, .int ((nI i1) + 1)), (1, .int (n_L1 + 1)), (0, .ref (bd 0))]) [0, 1, 4] rfl (ih1 (i1 + 1) ((nI i1) + 1) (n_L1 + 1) RO_L1 WY_L1 SU_L1 ST_L1 QU_L1 QN_L1 (by omega) (by rw [nI_1]) (by rw [lp_succ, ← hs_L1]; simp only [s_X1_islandMany_L1, if_neg h2, if_pos h3, if_pos h4, if_neg h5, ← hs_L2]))
          · exact absurd (Int32.le_refl _) h4
        | succ j2 ih2 =>
          intro i2 x2 is_L2 hi2 hx2 hs_L2
          subst hx2
          refine v_iload C0 (pc' := 30) 0 rfl dX1_islandMany_28 rfl ?_
          refine v_iload_n C0 (pc' := 31) 2 rfl rfl dX1_islandMany_30 rfl ?_
          refine v_icmp_ge C0 61 (pc' := 34) dX1_islandMany_31 (by decide) rfl (fun h6 => ?_) (fun h6 => ?_)
          · exact absurd h6 (nI_ge (a := i2) (b := i1) (by omega) (by omega))
          · refine v_iload_n C0 (pc' := 35) 1 rfl rfl dX1_islandMany_34 rfl ?_
            refine v_if_eq C0 53 (pc' := 38) dX1_islandMany_35 (by decide) rfl (fun h7 => ?_) (fun h7 => ?_)
            · refine v_iconst C0 (pc' := 54) 0 (by decide) dX1_islandMany_53 rfl ?_
              refine v_istore_n C0 (lv' := [(3, .int 0), (4, .int (nI i2)), (2, .int (nI i1)), (1, .int n_L1), (0, .ref (bd 0))]) (pc' := 55) rfl (by decide) rfl dX1_islandMany_54 rfl ?_
              refine v_iinc C0 (lv' := [(4, .int ((nI i2) + 1)), (3, .int 0), (2, .int (nI i1)), (1, .int n_L1), (0, .ref (bd 0))]) (pc' := 58) 1 rfl ((nI i2) + 1) rfl (by decide) rfl dX1_islandMany_55 rfl ?_
              refine v_goto C0 28 dX1_islandMany_58 (by decide) ?_
              exact v_sub (lv' := [(4, .int ((nI i2) + 1)), (3, .int 0), (2, .int (nI i1)), (1, .int n_L1), (0, .ref (bd 0))]) [0, 1, 2, 3, 4] rfl (ih2 (i2 + 1) ((nI i2) + 1) 0 (by omega) (by rw [nI_1]) (by rw [lp_succ, ← hs_L2]; simp only [s_X1_islandMany_L2, if_neg h2, if_pos h3, if_neg h6, if_pos h7]))
            · refine v_aload_n C0 (pc' := 39) 4 rfl rfl dX1_islandMany_38 rfl ?_
              refine v_get C0 hK (C := RX1) (T := TX1) (N := 15) (pc' := 42) 0 11 rfl rfl rfl (by decide) in_X1_islandMany fl_X1_islandMany_34 rfl dX1_islandMany_39 rfl ?_
              refine v_iload C0 (pc' := 44) 0 rfl dX1_islandMany_42 rfl ?_
              refine v_ialx C0 hK (pc' := 45) 9 0 rfl rfl (vp_in_nI (by omega) (by decide)) (by decide) dX1_islandMany_44 rfl ?_
              refine v_iconst C0 (pc' := 46) (-1) (by decide) dX1_islandMany_45 rfl ?_
              refine v_icmp_ne C0 53 (pc' := 49) dX1_islandMany_46 (by decide) rfl (fun h8 => ?_) (fun h8 => ?_)
              · refine v_iconst C0 (pc' := 54) 0 (by decide) dX1_islandMany_53 rfl ?_
                refine v_istore_n C0 (lv' := [(3, .int 0), (4, .int (nI i2)), (2, .int (nI i1)), (1, .int n_L1), (0, .ref (bd 0))]) (pc' := 55) rfl (by decide) rfl dX1_islandMany_54 rfl ?_
                refine v_iinc C0 (lv' := [(4, .int ((nI i2) + 1)), (3, .int 0), (2, .int (nI i1)), (1, .int n_L1), (0, .ref (bd 0))]) (pc' := 58) 1 rfl ((nI i2) + 1) rfl (by decide) rfl dX1_islandMany_55 rfl ?_
                refine v_goto C0 28 dX1_islandMany_58 (by decide) ?_
                exact v_sub (lv' := [(4, .int ((nI i2) + 1)), (3, .int 0), (2, .int (nI i1)), (1, .int n_L1), (0, .ref (bd 0))]) [0, 1, 2, 3, 4] rfl (ih2 (i2 + 1) ((nI i2) + 1) 0 (by omega) (by rw [nI_1]) (by rw [lp_succ, ← hs_L2]; simp only [s_X1_islandMany_L2, if_neg h2, if_pos h3, if_neg h6, if_neg h7, if_neg h8]))
              · refine v_iconst C0 (pc' := 50) 1 (by decide) dX1_islandMany_49 rfl ?_
                refine v_goto C0 54 dX1_islandMany_50 (by decide) ?_
                refine v_istore_n C0 (lv' := [(3, .int 1), (4, .int (nI i2)), (2, .int (nI i1)), (1, .int n_L1), (0, .ref (bd 0))]) (pc' := 55) rfl (by decide) rfl dX1_islandMany_54 rfl ?_
                refine v_iinc C0 (lv' := [(4, .int ((nI i2) + 1)), (3, .int 1), (2, .int (nI i1)), (1, .int n_L1), (0, .ref (bd 0))]) (pc' := 58) 1 rfl ((nI i2) + 1) rfl (by decide) rfl dX1_islandMany_55 rfl ?_
                refine v_goto C0 28 dX1_islandMany_58 (by decide) ?_
                exact v_sub (lv' := [(4, .int ((nI i2) + 1)), (3, .int 1), (2, .int (nI i1)), (1, .int n_L1), (0, .ref (bd 0))]) [0, 1, 2, 3, 4] rfl (ih2 (i2 + 1) ((nI i2) + 1) 1 (by omega) (by rw [nI_1]) (by rw [lp_succ, ← hs_L2]; simp only [s_X1_islandMany_L2, if_neg h2, if_pos h3, if_neg h6, if_neg h7, if_pos h8]))
      · refine v_aload_n C0 (pc' := 21) 3 rfl rfl dX1_islandMany_20 rfl ?_
        refine v_iload_n C0 (pc' := 22) 1 rfl rfl dX1_islandMany_21 rfl ?_
        refine v_callVv0 C0 (av := [.int (nI i1)]) (rest := []) (ws' := wY cI bd U T F C B CM TR (s_X1_spread_RO F RO_L1) (s_X1_spread_WY F C RO_L1 WY_L1 SU_L1) (s_X1_spread_SU F C RO_L1 SU_L1) TH (s_X1_spread_ST U T F C TR RO_L1 WY_L1 SU_L1 ST_L1 QU_L1 (nI i1)) (s_X1_spread_QU U T F C TR RO_L1 WY_L1 SU_L1 ST_L1 QU_L1 (nI i1)) (s_X1_spread_QN U T F C TR RO_L1 WY_L1 SU_L1 ST_L1 QU_L1 (nI i1)) FE) (pc' := 25) hK hA (k_X1_spread l D cI bd U T F C B CM TR RO_L1 WY_L1 SU_L1 TH ST_L1 QU_L1 QN_L1 FE (nI i1) hb_TR hF hU (vp_in_nI (by omega) (by decide))) (cwV 1 C0.2.2.2.2 gX1_islandMany_X1_spread rfl rfl rfl (by decide +kernel) ⟨Nat.le_of_ble_eq_true rfl, Nat.le_of_ble_eq_true rfl⟩) ⟨0, 1, _, _, _, rfl, rfl⟩ PLs.all rfl rfl (Nat.le_of_ble_eq_true rfl) ⟨Nat.zero_le _, Nat.zero_le _⟩ dX1_islandMany_22 rfl ?_
        refine v_iconst C0 (pc' := 26) 0 (by decide) dX1_islandMany_25 rfl ?_
        refine v_istore C0 (lv' := [(4, .int 0), (3, .int (s_X1_isUsed U T i1)), (2, .int (nI i1)), (1, .int n_L1), (0, .ref (bd 0))]) (pc' := 28) (by decide) rfl dX1_islandMany_26 rfl ?_
        suffices LP2 : ∀ (j2 i2 : Nat) (x2 : Int32) (is_L2 : Int32), i2 + j2 = i1 → x2 = nI i2 → is_L2 = lp (s_X1_islandMany_L2 (s_X1_spread_ST U T F C TR RO_L1 WY_L1 SU_L1 ST_L1 QU_L1 (nI i1))) i2 (s_X1_isUsed U T i1) → V p l e { frames := 3, cells := 0, slots := 0, locals := 71 } s m args below meth c D A 5 0 0 (MQ below (QI D (TI cI) (wY cI bd U T F C B CM TR (s_X1_islandMany_RO U T F C TR RO WY SU ST QU QN) (s_X1_islandMany_WY U T F C TR RO WY SU ST QU QN) (s_X1_islandMany_SU U T F C TR RO WY SU ST QU QN) TH (s_X1_islandMany_ST U T F C TR RO WY SU ST QU QN) (s_X1_islandMany_QU U T F C TR RO WY SU ST QU QN) (s_X1_islandMany_QN U T F C TR RO WY SU ST QU QN) FE) A (s_X1_islandMany U T F C TR RO WY SU ST QU QN)) args s 0 0 A) (wY cI bd U T F C B CM TR (s_X1_spread_RO F RO_L1) (s_X1_spread_WY F C RO_L1 WY_L1 SU_L1) (s_X1_spread_SU F C RO_L1 SU_L1) TH (s_X1_spread_ST U T F C TR RO_L1 WY_L1 SU_L1 ST_L1 QU_L1 (nI i1)) (s_X1_spread_QU U T F C TR RO_L1 WY_L1 SU_L1 ST_L1 QU_L1 (nI i1)) (s_X1_spread_QN U T F C TR RO_L1 WY_L1 SU_L1 ST_L1 QU_L1 (nI i1)) FE) [(4, .int x2), (3, .int is_L2), (2, .int (nI i1)), (1, .int n_L1), (0, .ref (bd 0))] 28 [] by
          exact v_sub (lv' := [(4, .int 0), (3, .int (s_X1_isUsed U T i1)), (2, .int (nI i1)), (1, .int n_L1), (0, .ref (bd 0))]) [0, 1, 2, 3, 4] rfl (LP2 i1 0 0 (s_X1_isUsed U T i1) (Nat.zero_add _) nI_0.symm (lp_zero _ _).symm)
        intro j2
        induction j2 with
        | zero =>
          intro i2 x2 is_L2 hi2 hx2 hs_L2
          have hi2 : i1 = i2 := by omega
          subst hi2
          subst hx2
          refine v_iload C0 (pc' := 30) 0 rfl dX1_islandMany_28 rfl ?_
          refine v_iload_n C0 (pc' := 31) 2 rfl rfl dX1_islandMany_30 rfl ?_
          refine v_icmp_ge C0 61 (pc' := 34) dX1_islandMany_31 (by decide) rfl (fun h9 => ?_) (fun h9 => ?_)
          · refine v_iload_n C0 (pc' := 62) 3 rfl rfl dX1_islandMany_61 rfl ?_
            refine v_iload_n C0 (pc' := 63) 1 rfl rfl dX1_islandMany_62 rfl ?_
            refine v_if_eq C0 70 (pc' := 66) dX1_islandMany_63 (by decide) rfl (fun h10 => ?_) (fun h10 => ?_)
            · refine v_iconst C0 (pc' := 71) 0 (by decide) dX1_islandMany_70 rfl ?_
              refine v_iadd C0 (pc' := 72) dX1_islandMany_71 rfl ?_
              refine v_istore_n C0 (lv' := [(1, .int (n_L1 + 0)), (4, .int (nI i1)), (3, .int is_L2), (2, .int (nI i1)), (0, .ref (bd 0))]) (pc' := 73) rfl (by decide) rfl dX1_islandMany_72 rfl ?_
              refine v_iinc C0 (lv' := [(2, .int ((nI i1) + 1)), (1, .int (n_L1 + 0)), (4, .int (nI i1)), (3, .int is_L2), (0, .ref (bd 0))]) (pc' := 76) 3 rfl ((nI i1) + 1) rfl (by decide) rfl dX1_islandMany_73 rfl ?_
              refine v_goto C0 4 dX1_islandMany_76 (by decide) ?_
              exact v_sub (lv' := [(2, .int ((nI i1) + 1)), (1, .int (n_L1 + 0)), (0, .ref (bd 0))]) [0, 1, 4] rfl (ih1 (i1 + 1) ((nI i1) + 1) (n_L1 + 0) (s_X1_spread_RO F RO_L1) (s_X1_spread_WY F C RO_L1 WY_L1 SU_L1) (s_X1_spread_SU F C RO_L1 SU_L1) (s_X1_spread_ST U T F C TR RO_L1 WY_L1 SU_L1 ST_L1 QU_L1 (nI i1)) (s_X1_spread_QU U T F C TR RO_L1 WY_L1 SU_L1 ST_L1 QU_L1 (nI i1)) (s_X1_spread_QN U T F C TR RO_L1 WY_L1 SU_L1 ST_L1 QU_L1 (nI i1)) (by omega) (by rw [nI_1]) (by rw [lp_succ, ← hs_L1]; simp only [s_X1_islandMany_L1, if_neg h2, if_neg h3, if_pos h9, if_pos h10, ← hs_L2]))
            · refine v_iconst C0 (pc' := 67) 1 (by decide) dX1_islandMany_66 rfl ?_
              refine v_goto C0 71 dX1_islandMany_67 (by decide) ?_
              refine v_iadd C0 (pc' := 72) dX1_islandMany_71 rfl ?_
              refine v_istore_n C0 (lv' := [(1, .int (n_L1 + 1)), (4, .int (nI i1)), (3, .int is_L2), (2, .int (nI i1)), (0, .ref (bd 0))]) (pc' := 73) rfl (by decide) rfl dX1_islandMany_72 rfl ?_
              refine v_iinc C0 (lv' := [(2, .int ((nI i1) + 1)), (1, .int (n_L1 + 1)), (4, .int (nI i1)), (3, .int is_L2), (0, .ref (bd 0))]) (pc' := 76) 3 rfl ((nI i1) + 1) rfl (by decide) rfl dX1_islandMany_73 rfl ?_
              refine v_goto C0 4 dX1_islandMany_76 (by decide) ?_
              exact v_sub (lv' := [(2, .int ((nI i1) + 1)), (1, .int (n_L1 + 1)), (0, .ref (bd 0))]) [0, 1, 4] rfl (ih1 (i1 + 1) ((nI i1) + 1) (n_L1 + 1) (s_X1_spread_RO F RO_L1) (s_X1_spread_WY F C RO_L1 WY_L1 SU_L1) (s_X1_spread_SU F C RO_L1 SU_L1) (s_X1_spread_ST U T F C TR RO_L1 WY_L1 SU_L1 ST_L1 QU_L1 (nI i1)) (s_X1_spread_QU U T F C TR RO_L1 WY_L1 SU_L1 ST_L1 QU_L1 (nI i1)) (s_X1_spread_QN U T F C TR RO_L1 WY_L1 SU_L1 ST_L1 QU_L1 (nI i1)) (by omega) (by rw [nI_1]) (by rw [lp_succ, ← hs_L1]; simp only [s_X1_islandMany_L1, if_neg h2, if_neg h3, if_pos h9, if_neg h10, ← hs_L2]))
          · exact absurd (Int32.le_refl _) h9
        | succ j2 ih2 =>
          intro i2 x2 is_L2 hi2 hx2 hs_L2
          subst hx2
          refine v_iload C0 (pc' := 30) 0 rfl dX1_islandMany_28 rfl ?_
          refine v_iload_n C0 (pc' := 31) 2 rfl rfl dX1_islandMany_30 rfl ?_
          refine v_icmp_ge C0 61 (pc' := 34) dX1_islandMany_31 (by decide) rfl (fun h11 => ?_) (fun h11 => ?_)
          · exact absurd h11 (nI_ge (a := i2) (b := i1) (by omega) (by omega))
          · refine v_iload_n C0 (pc' := 35) 1 rfl rfl dX1_islandMany_34 rfl ?_
            refine v_if_eq C0 53 (pc' := 38) dX1_islandMany_35 (by decide) rfl (fun h12 => ?_) (fun h12 => ?_)
            · refine v_iconst C0 (pc' := 54) 0 (by decide) dX1_islandMany_53 rfl ?_
              refine v_istore_n C0 (lv' := [(3, .int 0), (4, .int (nI i2)), (2, .int (nI i1)), (1, .int n_L1), (0, .ref (bd 0))]) (pc' := 55) rfl (by decide) rfl dX1_islandMany_54 rfl ?_
              refine v_iinc C0 (lv' := [(4, .int ((nI i2) + 1)), (3, .int 0), (2, .int (nI i1)), (1, .int n_L1), (0, .ref (bd 0))]) (pc' := 58) 1 rfl ((nI i2) + 1) rfl (by decide) rfl dX1_islandMany_55 rfl ?_
              refine v_goto C0 28 dX1_islandMany_58 (by decide) ?_
              exact v_sub (lv' := [(4, .int ((nI i2) + 1)), (3, .int 0), (2, .int (nI i1)), (1, .int n_L1), (0, .ref (bd 0))]) [0, 1, 2, 3, 4] rfl (ih2 (i2 + 1) ((nI i2) + 1) 0 (by omega) (by rw [nI_1]) (by rw [lp_succ, ← hs_L2]; simp only [s_X1_islandMany_L2, if_neg h2, if_neg h3, if_neg h11, if_pos h12]))
            · refine v_aload_n C0 (pc' := 39) 4 rfl rfl dX1_islandMany_38 rfl ?_
              refine v_get C0 hK (C := RX1) (T := TX1) (N := 15) (pc' := 42) 0 11 rfl rfl rfl (by decide) in_X1_islandMany fl_X1_islandMany_34 rfl dX1_islandMany_39 rfl ?_
              refine v_iload C0 (pc' := 44) 0 rfl dX1_islandMany_42 rfl ?_
              refine v_ialx C0 hK (pc' := 45) 9 0 rfl rfl (vp_in_nI (by omega) (by decide)) (by decide) dX1_islandMany_44 rfl ?_
              refine v_iconst C0 (pc' := 46) (-1) (by decide) dX1_islandMany_45 rfl ?_
              refine v_icmp_ne C0 53 (pc' := 49) dX1_islandMany_46 (by decide) rfl (fun h13 => ?_) (fun h13 => ?_)
              · refine v_iconst C0 (pc' := 54) 0 (by decide) dX1_islandMany_53 rfl ?_
                refine v_istore_n C0 (lv' := [(3, .int 0), (4, .int (nI i2)), (2, .int (nI i1)), (1, .int n_L1), (0, .ref (bd 0))]) (pc' := 55) rfl (by decide) rfl dX1_islandMany_54 rfl ?_
                refine v_iinc C0 (lv' := [(4, .int ((nI i2) + 1)), (3, .int 0), (2, .int (nI i1)), (1, .int n_L1), (0, .ref (bd 0))]) (pc' := 58) 1 rfl ((nI i2) + 1) rfl (by decide) rfl dX1_islandMany_55 rfl ?_
                refine v_goto C0 28 dX1_islandMany_58 (by decide) ?_
                exact v_sub (lv' := [(4, .int ((nI i2) + 1)), (3, .int 0), (2, .int (nI i1)), (1, .int n_L1), (0, .ref (bd 0))]) [0, 1, 2, 3, 4] rfl (ih2 (i2 + 1) ((nI i2) + 1) 0 (by omega) (by rw [nI_1]) (by rw [lp_succ, ← hs_L2]; simp only [s_X1_islandMany_L2, if_neg h2, if_neg h3, if_neg h11, if_neg h12, if_neg h13]))
              · refine v_iconst C0 (pc' := 50) 1 (by decide) dX1_islandMany_49 rfl ?_
                refine v_goto C0 54 dX1_islandMany_50 (by decide) ?_
                refine v_istore_n C0 (lv' := [(3, .int 1), (4, .int (nI i2)), (2, .int (nI i1)), (1, .int n_L1), (0, .ref (bd 0))]) (pc' := 55) rfl (by decide) rfl dX1_islandMany_54 rfl ?_
                refine v_iinc C0 (lv' := [(4, .int ((nI i2) + 1)), (3, .int 1), (2, .int (nI i1)), (1, .int n_L1), (0, .ref (bd 0))]) (pc' := 58) 1 rfl ((nI i2) + 1) rfl (by decide) rfl dX1_islandMany_55 rfl ?_
                refine v_goto C0 28 dX1_islandMany_58 (by decide) ?_
                exact v_sub (lv' := [(4, .int ((nI i2) + 1)), (3, .int 1), (2, .int (nI i1)), (1, .int n_L1), (0, .ref (bd 0))]) [0, 1, 2, 3, 4] rfl (ih2 (i2 + 1) ((nI i2) + 1) 1 (by omega) (by rw [nI_1]) (by rw [lp_succ, ← hs_L2]; simp only [s_X1_islandMany_L2, if_neg h2, if_neg h3, if_neg h11, if_neg h12, if_pos h13]))
def s_X1_islands (U : Nat → Int32) (T : Nat → Int32) (F : Nat → Int32) (C : Nat → Int32) (TR : Int32) (RO : Nat → Int32) (WY : Nat → Int32) (SU : Nat → Int32) (ST : Nat → Int32) (QU : Nat → Int32) (QN : Int32) : Int32 := s_X1_islandMany U T F C TR RO WY SU ST QU QN
def s_X1_islands_RO (U : Nat → Int32) (T : Nat → Int32) (F : Nat → Int32) (C : Nat → Int32) (TR : Int32) (RO : Nat → Int32) (WY : Nat → Int32) (SU : Nat → Int32) (ST : Nat → Int32) (QU : Nat → Int32) (QN : Int32) : Nat → Int32 := (s_X1_islandMany_RO U T F C TR RO WY SU ST QU QN)
def s_X1_islands_WY (U : Nat → Int32) (T : Nat → Int32) (F : Nat → Int32) (C : Nat → Int32) (TR : Int32) (RO : Nat → Int32) (WY : Nat → Int32) (SU : Nat → Int32) (ST : Nat → Int32) (QU : Nat → Int32) (QN : Int32) : Nat → Int32 := (s_X1_islandMany_WY U T F C TR RO WY SU ST QU QN)
def s_X1_islands_SU (U : Nat → Int32) (T : Nat → Int32) (F : Nat → Int32) (C : Nat → Int32) (TR : Int32) (RO : Nat → Int32) (WY : Nat → Int32) (SU : Nat → Int32) (ST : Nat → Int32) (QU : Nat → Int32) (QN : Int32) : Nat → Int32 := (s_X1_islandMany_SU U T F C TR RO WY SU ST QU QN)
def s_X1_islands_TH  : Int32 := 0
def s_X1_islands_ST (U : Nat → Int32) (T : Nat → Int32) (F : Nat → Int32) (C : Nat → Int32) (TR : Int32) (RO : Nat → Int32) (WY : Nat → Int32) (SU : Nat → Int32) (ST : Nat → Int32) (QU : Nat → Int32) (QN : Int32) : Nat → Int32 := (s_X1_islandMany_ST U T F C TR RO WY SU ST QU QN)
def s_X1_islands_QU (U : Nat → Int32) (T : Nat → Int32) (F : Nat → Int32) (C : Nat → Int32) (TR : Int32) (RO : Nat → Int32) (WY : Nat → Int32) (SU : Nat → Int32) (ST : Nat → Int32) (QU : Nat → Int32) (QN : Int32) : Nat → Int32 := (s_X1_islandMany_QU U T F C TR RO WY SU ST QU QN)
def s_X1_islands_QN (U : Nat → Int32) (T : Nat → Int32) (F : Nat → Int32) (C : Nat → Int32) (TR : Int32) (RO : Nat → Int32) (WY : Nat → Int32) (SU : Nat → Int32) (ST : Nat → Int32) (QU : Nat → Int32) (QN : Int32) : Int32 := (s_X1_islandMany_QN U T F C TR RO WY SU ST QU QN)
set_option maxHeartbeats 4000000 in
set_option maxRecDepth 100000 in
theorem k_X1_islands (l : Launch) (D : va_G) (cI : ClassId) (bd : Nat → Nat) (U : Nat → Int32) (T : Nat → Int32) (F : Nat → Int32) (C : Nat → Int32) (B : Nat → Int32) (CM : Int32) (TR : Int32) (RO : Nat → Int32) (WY : Nat → Int32) (SU : Nat → Int32) (TH : Int32) (ST : Nat → Int32) (QU : Nat → Int32) (QN : Int32) (FE : Nat → Int32)  (hb_TR : TR = 0 ∨ TR = 1) (hF : FR F) (hU : UR U) : Ki l yX1_islands wsX1_islands 4 95 0 0 D (TI cI) [.ref (bd 0)] (wY cI bd U T F C B CM TR RO WY SU TH ST QU QN FE) (wY cI bd U T F C B CM TR (s_X1_islands_RO U T F C TR RO WY SU ST QU QN) (s_X1_islands_WY U T F C TR RO WY SU ST QU QN) (s_X1_islands_SU U T F C TR RO WY SU ST QU QN) (s_X1_islands_TH ) (s_X1_islands_ST U T F C TR RO WY SU ST QU QN) (s_X1_islands_QU U T F C TR RO WY SU ST QU QN) (s_X1_islands_QN U T F C TR RO WY SU ST QU QN) FE) (s_X1_islands U T F C TR RO WY SU ST QU QN) := by
  refine Ki.of (cc := cX1_islands) (maxL := 1) (rt := .int) (lv0 := [(0, .ref (bd 0))]) (by decide +kernel) rfl (Nat.le_of_ble_eq_true rfl) rfl ?_
  intro p e s m args below meth c A C0 hr hlk hK hA
  refine v_aload_n C0 (pc' := 1) 0 rfl rfl dX1_islands_0 rfl ?_
  refine v_iconst C0 (pc' := 2) 0 (by decide) dX1_islands_1 rfl ?_
  refine v_put C0 hK (C := RX1) (T := TX1) (N := 15) (ws' := wY cI bd U T F C B CM TR RO WY SU 0 ST QU QN FE) (pc' := 5) 0 10 tyX1 rfl rfl rfl (by decide) (Nat.le_of_ble_eq_true rfl) tyX1_ok nmX1 in_X1_islands fl_X1_islands_43 rfl rfl rfl rfl rfl dX1_islands_2 rfl ?_
  refine v_aload_n C0 (pc' := 6) 0 rfl rfl dX1_islands_5 rfl ?_
  refine v_callVi0 C0 (av := []) (rest := []) (ws' := wY cI bd U T F C B CM TR (s_X1_islandMany_RO U T F C TR RO WY SU ST QU QN) (s_X1_islandMany_WY U T F C TR RO WY SU ST QU QN) (s_X1_islandMany_SU U T F C TR RO WY SU ST QU QN) 0 (s_X1_islandMany_ST U T F C TR RO WY SU ST QU QN) (s_X1_islandMany_QU U T F C TR RO WY SU ST QU QN) (s_X1_islandMany_QN U T F C TR RO WY SU ST QU QN) FE) (pc' := 9) hK hA (k_X1_islandMany l D cI bd U T F C B CM TR RO WY SU 0 ST QU QN FE  hb_TR hF hU) (cwV 0 C0.2.2.2.2 gX1_islands_X1_islandMany rfl rfl rfl (by decide +kernel) ⟨Nat.le_of_ble_eq_true rfl, Nat.le_of_ble_eq_true rfl⟩) ⟨0, 1, _, _, _, rfl, rfl⟩ PLs.all rfl rfl (Nat.le_of_ble_eq_true rfl) ⟨Nat.zero_le _, Nat.zero_le _⟩ dX1_islands_6 rfl ?_
  refine v_world (ws' := wY cI bd U T F C B CM TR (s_X1_islands_RO U T F C TR RO WY SU ST QU QN) (s_X1_islands_WY U T F C TR RO WY SU ST QU QN) (s_X1_islands_SU U T F C TR RO WY SU ST QU QN) (s_X1_islands_TH ) (s_X1_islands_ST U T F C TR RO WY SU ST QU QN) (s_X1_islands_QU U T F C TR RO WY SU ST QU QN) (s_X1_islands_QN U T F C TR RO WY SU ST QU QN) FE) rfl ?_
  exact v_iret C0 hr hlk hK rfl dX1_islands_9
def s_X1_loops_L2 (U : Nat → Int32) (T : Nat → Int32) (F : Nat → Int32) (C : Nat → Int32) (TR : Int32) (RO : Nat → Int32) (WY : Nat → Int32) (SU : Nat → Int32) (ST : Nat → Int32) (QU : Nat → Int32) (QN : Int32) (i1 : Nat) (i2 : Nat) (n_L2 : Int32) : Int32 := if (s_X1_isLive F TR (s_X1_layTree_WY F C (s_X1_islandMany_RO U T F C TR RO WY SU ST QU QN) (s_X1_islandMany_WY U T F C TR RO WY SU ST QU QN) (s_X1_islandMany_SU U T F C TR RO WY SU ST QU QN)) ((((nI i1) / 16) * 6) + (nI i2))) = 0 then (n_L2 + 0) else (if (xAt 36 F ((((nI i1) / 16) * 6) + (nI i2))) ≤ ((((nI i1) / 16) * 6) + (nI i2)) then (n_L2 + 0) else (if (s_X1_carried U T F ((((nI i1) / 16) * 6) + (nI i2)) ((nI i1) - (nI i1) / 16 * 16)) = (-1) then (n_L2 + 0) else (n_L2 + 1)))
def s_X1_loops_L1 (U : Nat → Int32) (T : Nat → Int32) (F : Nat → Int32) (C : Nat → Int32) (TR : Int32) (RO : Nat → Int32) (WY : Nat → Int32) (SU : Nat → Int32) (ST : Nat → Int32) (QU : Nat → Int32) (QN : Int32) (i1 : Nat) (n_L1 : Int32) : Int32 := if (s_X1_isUsed U T i1) = 0 then (if ((nI i1) - (nI i1) / 16 * 16) ≤ 0 then (n_L1 - 0) else (lp (s_X1_loops_L2 U T F C TR RO WY SU ST QU QN i1) 6 (n_L1 - 0))) else (if ((nI i1) - (nI i1) / 16 * 16) ≤ 0 then (n_L1 - 1) else (lp (s_X1_loops_L2 U T F C TR RO WY SU ST QU QN i1) 6 (n_L1 - 1)))
def s_X1_loops (U : Nat → Int32) (T : Nat → Int32) (F : Nat → Int32) (C : Nat → Int32) (TR : Int32) (RO : Nat → Int32) (WY : Nat → Int32) (SU : Nat → Int32) (ST : Nat → Int32) (QU : Nat → Int32) (QN : Int32) : Int32 := (lp (s_X1_loops_L1 U T F C TR RO WY SU ST QU QN) 96 (s_X1_islandMany U T F C TR RO WY SU ST QU QN))
def s_X1_loops_RO (U : Nat → Int32) (T : Nat → Int32) (F : Nat → Int32) (C : Nat → Int32) (TR : Int32) (RO : Nat → Int32) (WY : Nat → Int32) (SU : Nat → Int32) (ST : Nat → Int32) (QU : Nat → Int32) (QN : Int32) : Nat → Int32 := (s_X1_layTree_RO F (s_X1_islandMany_RO U T F C TR RO WY SU ST QU QN))
def s_X1_loops_WY (U : Nat → Int32) (T : Nat → Int32) (F : Nat → Int32) (C : Nat → Int32) (TR : Int32) (RO : Nat → Int32) (WY : Nat → Int32) (SU : Nat → Int32) (ST : Nat → Int32) (QU : Nat → Int32) (QN : Int32) : Nat → Int32 := (s_X1_layTree_WY F C (s_X1_islandMany_RO U T F C TR RO WY SU ST QU QN) (s_X1_islandMany_WY U T F C TR RO WY SU ST QU QN) (s_X1_islandMany_SU U T F C TR RO WY SU ST QU QN))
def s_X1_loops_SU (U : Nat → Int32) (T : Nat → Int32) (F : Nat → Int32) (C : Nat → Int32) (TR : Int32) (RO : Nat → Int32) (WY : Nat → Int32) (SU : Nat → Int32) (ST : Nat → Int32) (QU : Nat → Int32) (QN : Int32) : Nat → Int32 := (s_X1_layTree_SU F C (s_X1_islandMany_RO U T F C TR RO WY SU ST QU QN) (s_X1_islandMany_SU U T F C TR RO WY SU ST QU QN))
def s_X1_loops_TH  : Int32 := 0
def s_X1_loops_ST (U : Nat → Int32) (T : Nat → Int32) (F : Nat → Int32) (C : Nat → Int32) (TR : Int32) (RO : Nat → Int32) (WY : Nat → Int32) (SU : Nat → Int32) (ST : Nat → Int32) (QU : Nat → Int32) (QN : Int32) : Nat → Int32 := (s_X1_islandMany_ST U T F C TR RO WY SU ST QU QN)
def s_X1_loops_QU (U : Nat → Int32) (T : Nat → Int32) (F : Nat → Int32) (C : Nat → Int32) (TR : Int32) (RO : Nat → Int32) (WY : Nat → Int32) (SU : Nat → Int32) (ST : Nat → Int32) (QU : Nat → Int32) (QN : Int32) : Nat → Int32 := (s_X1_islandMany_QU U T F C TR RO WY SU ST QU QN)
def s_X1_loops_QN (U : Nat → Int32) (T : Nat → Int32) (F : Nat → Int32) (C : Nat → Int32) (TR : Int32) (RO : Nat → Int32) (WY : Nat → Int32) (SU : Nat → Int32) (ST : Nat → Int32) (QU : Nat → Int32) (QN : Int32) : Int32 := (s_X1_islandMany_QN U T F C TR RO WY SU ST QU QN)
set_option maxHeartbeats 4000000 in
set_option maxRecDepth 100000 in
theorem k_X1_loops (l : Launch) (D : va_G) (cI : ClassId) (bd : Nat → Nat) (U : Nat → Int32) (T : Nat → Int32) (F : Nat → Int32) (C : Nat → Int32) (B : Nat → Int32) (CM : Int32) (TR : Int32) (RO : Nat → Int32) (WY : Nat → Int32) (SU : Nat → Int32) (TH : Int32) (ST : Nat → Int32) (QU : Nat → Int32) (QN : Int32) (FE : Nat → Int32)  (hb_TR : TR = 0 ∨ TR = 1) (hF : FR F) (hU : UR U) : Ki l yX1_loops wsX1_loops 4 95 0 0 D (TI cI) [.ref (bd 0)] (wY cI bd U T F C B CM TR RO WY SU TH ST QU QN FE) (wY cI bd U T F C B CM TR (s_X1_loops_RO U T F C TR RO WY SU ST QU QN) (s_X1_loops_WY U T F C TR RO WY SU ST QU QN) (s_X1_loops_SU U T F C TR RO WY SU ST QU QN) (s_X1_loops_TH ) (s_X1_loops_ST U T F C TR RO WY SU ST QU QN) (s_X1_loops_QU U T F C TR RO WY SU ST QU QN) (s_X1_loops_QN U T F C TR RO WY SU ST QU QN) FE) (s_X1_loops U T F C TR RO WY SU ST QU QN) := by
  refine Ki.of (cc := cX1_loops) (maxL := 5) (rt := .int) (lv0 := [(0, .ref (bd 0))]) (by decide +kernel) rfl (Nat.le_of_ble_eq_true rfl) rfl ?_
  intro p e s m args below meth c A C0 hr hlk hK hA
  refine v_aload_n C0 (pc' := 1) 0 rfl rfl dX1_loops_0 rfl ?_
  refine v_iconst C0 (pc' := 2) 0 (by decide) dX1_loops_1 rfl ?_
  refine v_put C0 hK (C := RX1) (T := TX1) (N := 15) (ws' := wY cI bd U T F C B CM TR RO WY SU 0 ST QU QN FE) (pc' := 5) 0 10 tyX1 rfl rfl rfl (by decide) (Nat.le_of_ble_eq_true rfl) tyX1_ok nmX1 in_X1_loops fl_X1_loops_43 rfl rfl rfl rfl rfl dX1_loops_2 rfl ?_
  refine v_aload_n C0 (pc' := 6) 0 rfl rfl dX1_loops_5 rfl ?_
  refine v_callVi0 C0 (av := []) (rest := []) (ws' := wY cI bd U T F C B CM TR (s_X1_islandMany_RO U T F C TR RO WY SU ST QU QN) (s_X1_islandMany_WY U T F C TR RO WY SU ST QU QN) (s_X1_islandMany_SU U T F C TR RO WY SU ST QU QN) 0 (s_X1_islandMany_ST U T F C TR RO WY SU ST QU QN) (s_X1_islandMany_QU U T F C TR RO WY SU ST QU QN) (s_X1_islandMany_QN U T F C TR RO WY SU ST QU QN) FE) (pc' := 9) hK hA (k_X1_islandMany l D cI bd U T F C B CM TR RO WY SU 0 ST QU QN FE  hb_TR hF hU) (cwV 0 C0.2.2.2.2 gX1_loops_X1_islandMany rfl rfl rfl (by decide +kernel) ⟨Nat.le_of_ble_eq_true rfl, Nat.le_of_ble_eq_true rfl⟩) ⟨0, 1, _, _, _, rfl, rfl⟩ PLs.all rfl rfl (Nat.le_of_ble_eq_true rfl) ⟨Nat.zero_le _, Nat.zero_le _⟩ dX1_loops_6 rfl ?_
  refine v_istore_n C0 (lv' := [(1, .int (s_X1_islandMany U T F C TR RO WY SU ST QU QN)), (0, .ref (bd 0))]) (pc' := 10) rfl (by decide) rfl dX1_loops_9 rfl ?_
  refine v_aload_n C0 (pc' := 11) 1 rfl rfl dX1_loops_10 rfl ?_
  refine v_callVv0 C0 (av := []) (rest := []) (ws' := wY cI bd U T F C B CM TR (s_X1_layTree_RO F (s_X1_islandMany_RO U T F C TR RO WY SU ST QU QN)) (s_X1_layTree_WY F C (s_X1_islandMany_RO U T F C TR RO WY SU ST QU QN) (s_X1_islandMany_WY U T F C TR RO WY SU ST QU QN) (s_X1_islandMany_SU U T F C TR RO WY SU ST QU QN)) (s_X1_layTree_SU F C (s_X1_islandMany_RO U T F C TR RO WY SU ST QU QN) (s_X1_islandMany_SU U T F C TR RO WY SU ST QU QN)) 0 (s_X1_islandMany_ST U T F C TR RO WY SU ST QU QN) (s_X1_islandMany_QU U T F C TR RO WY SU ST QU QN) (s_X1_islandMany_QN U T F C TR RO WY SU ST QU QN) FE) (pc' := 14) hK hA (k_X1_layTree l D cI bd U T F C B CM TR (s_X1_islandMany_RO U T F C TR RO WY SU ST QU QN) (s_X1_islandMany_WY U T F C TR RO WY SU ST QU QN) (s_X1_islandMany_SU U T F C TR RO WY SU ST QU QN) 0 (s_X1_islandMany_ST U T F C TR RO WY SU ST QU QN) (s_X1_islandMany_QU U T F C TR RO WY SU ST QU QN) (s_X1_islandMany_QN U T F C TR RO WY SU ST QU QN) FE  hF) (cwV 0 C0.2.2.2.2 gX1_loops_X1_layTree rfl rfl rfl (by decide +kernel) ⟨Nat.le_of_ble_eq_true rfl, Nat.le_of_ble_eq_true rfl⟩) ⟨0, 1, _, _, _, rfl, rfl⟩ PLs.all rfl rfl (Nat.le_of_ble_eq_true rfl) ⟨Nat.zero_le _, Nat.zero_le _⟩ dX1_loops_11 rfl ?_
  refine v_iconst C0 (pc' := 15) 0 (by decide) dX1_loops_14 rfl ?_
  refine v_istore_n C0 (lv' := [(2, .int 0), (1, .int (s_X1_islandMany U T F C TR RO WY SU ST QU QN)), (0, .ref (bd 0))]) (pc' := 16) rfl (by decide) rfl dX1_loops_15 rfl ?_
  suffices LP1 : ∀ (j1 i1 : Nat) (x1 : Int32) (n_L1 : Int32), i1 + j1 = 96 → x1 = nI i1 → n_L1 = lp (s_X1_loops_L1 U T F C TR RO WY SU ST QU QN) i1 (s_X1_islandMany U T F C TR RO WY SU ST QU QN) → V p l e { frames := 4, cells := 0, slots := 0, locals := 95 } s m args below meth c D A 5 0 0 (MQ below (QI D (TI cI) (wY cI bd U T F C B CM TR (s_X1_loops_RO U T F C TR RO WY SU ST QU QN) (s_X1_loops_WY U T F C TR RO WY SU ST QU QN) (s_X1_loops_SU U T F C TR RO WY SU ST QU QN) (s_X1_loops_TH ) (s_X1_loops_ST U T F C TR RO WY SU ST QU QN) (s_X1_loops_QU U T F C TR RO WY SU ST QU QN) (s_X1_loops_QN U T F C TR RO WY SU ST QU QN) FE) A (s_X1_loops U T F C TR RO WY SU ST QU QN)) args s 0 0 A) (wY cI bd U T F C B CM TR (s_X1_layTree_RO F (s_X1_islandMany_RO U T F C TR RO WY SU ST QU QN)) (s_X1_layTree_WY F C (s_X1_islandMany_RO U T F C TR RO WY SU ST QU QN) (s_X1_islandMany_WY U T F C TR RO WY SU ST QU QN) (s_X1_islandMany_SU U T F C TR RO WY SU ST QU QN)) (s_X1_layTree_SU F C (s_X1_islandMany_RO U T F C TR RO WY SU ST QU QN) (s_X1_islandMany_SU U T F C TR RO WY SU ST QU QN)) 0 (s_X1_islandMany_ST U T F C TR RO WY SU ST QU QN) (s_X1_islandMany_QU U T F C TR RO WY SU ST QU QN) (s_X1_islandMany_QN U T F C TR RO WY SU ST QU QN) FE) [(2, .int x1), (1, .int n_L1), (0, .ref (bd 0))] 16 [] by
    exact v_sub (lv' := [(2, .int 0), (1, .int (s_X1_islandMany U T F C TR RO WY SU ST QU QN)), (0, .ref (bd 0))]) [0, 1, 2] rfl (LP1 96 0 0 (s_X1_islandMany U T F C TR RO WY SU ST QU QN) (Nat.zero_add _) nI_0.symm (lp_zero _ _).symm)
  intro j1
  induction j1 with
  | zero =>
    intro i1 x1 n_L1 hi1 hx1 hs_L1
    have hi1 : 96 = i1 := by omega
    subst hi1
    subst hx1
    refine v_iload_n C0 (pc' := 17) 0 rfl rfl dX1_loops_16 rfl ?_
    refine v_bipush C0 (pc' := 19) 96 (by decide) dX1_loops_17 rfl ?_
    refine v_icmp_ge C0 119 (pc' := 22) dX1_loops_19 (by decide) rfl (fun h1 => ?_) (fun h1 => ?_)
    · refine v_iload_n C0 (pc' := 120) 1 rfl rfl dX1_loops_119 rfl ?_
      refine v_world (ws' := wY cI bd U T F C B CM TR (s_X1_loops_RO U T F C TR RO WY SU ST QU QN) (s_X1_loops_WY U T F C TR RO WY SU ST QU QN) (s_X1_loops_SU U T F C TR RO WY SU ST QU QN) (s_X1_loops_TH ) (s_X1_loops_ST U T F C TR RO WY SU ST QU QN) (s_X1_loops_QU U T F C TR RO WY SU ST QU QN) (s_X1_loops_QN U T F C TR RO WY SU ST QU QN) FE) (by simp only [s_X1_loops, s_X1_loops_RO, s_X1_loops_WY, s_X1_loops_SU, s_X1_loops_TH, s_X1_loops_ST, s_X1_loops_QU, s_X1_loops_QN, if_pos h1, ← hs_L1]) ?_
      exact v_iret C0 hr hlk hK (by simp only [s_X1_loops, s_X1_loops_RO, s_X1_loops_WY, s_X1_loops_SU, s_X1_loops_TH, s_X1_loops_ST, s_X1_loops_QU, s_X1_loops_QN, if_pos h1, ← hs_L1]) dX1_loops_120
    · exact absurd (by decide +kernel) h1
  | succ j1 ih1 =>
    intro i1 x1 n_L1 hi1 hx1 hs_L1
    subst hx1
    refine v_iload_n C0 (pc' := 17) 0 rfl rfl dX1_loops_16 rfl ?_
    refine v_bipush C0 (pc' := 19) 96 (by decide) dX1_loops_17 rfl ?_
    refine v_icmp_ge C0 119 (pc' := 22) dX1_loops_19 (by decide) rfl (fun h2 => ?_) (fun h2 => ?_)
    · exact absurd h2 (nI_ge (a := i1) (b := 96) (by omega) (by decide))
    · refine v_iload_n C0 (pc' := 23) 1 rfl rfl dX1_loops_22 rfl ?_
      refine v_aload_n C0 (pc' := 24) 2 rfl rfl dX1_loops_23 rfl ?_
      refine v_iload_n C0 (pc' := 25) 0 rfl rfl dX1_loops_24 rfl ?_
      refine v_callVi0 C0 (av := [.int (nI i1)]) (rest := [.int n_L1]) (ws' := wY cI bd U T F C B CM TR (s_X1_layTree_RO F (s_X1_islandMany_RO U T F C TR RO WY SU ST QU QN)) (s_X1_layTree_WY F C (s_X1_islandMany_RO U T F C TR RO WY SU ST QU QN) (s_X1_islandMany_WY U T F C TR RO WY SU ST QU QN) (s_X1_islandMany_SU U T F C TR RO WY SU ST QU QN)) (s_X1_layTree_SU F C (s_X1_islandMany_RO U T F C TR RO WY SU ST QU QN) (s_X1_islandMany_SU U T F C TR RO WY SU ST QU QN)) 0 (s_X1_islandMany_ST U T F C TR RO WY SU ST QU QN) (s_X1_islandMany_QU U T F C TR RO WY SU ST QU QN) (s_X1_islandMany_QN U T F C TR RO WY SU ST QU QN) FE) (pc' := 28) hK hA (k_X1_isUsed l D cI bd U T F C B CM TR (s_X1_layTree_RO F (s_X1_islandMany_RO U T F C TR RO WY SU ST QU QN)) (s_X1_layTree_WY F C (s_X1_islandMany_RO U T F C TR RO WY SU ST QU QN) (s_X1_islandMany_WY U T F C TR RO WY SU ST QU QN) (s_X1_islandMany_SU U T F C TR RO WY SU ST QU QN)) (s_X1_layTree_SU F C (s_X1_islandMany_RO U T F C TR RO WY SU ST QU QN) (s_X1_islandMany_SU U T F C TR RO WY SU ST QU QN)) 0 (s_X1_islandMany_ST U T F C TR RO WY SU ST QU QN) (s_X1_islandMany_QU U T F C TR RO WY SU ST QU QN) (s_X1_islandMany_QN U T F C TR RO WY SU ST QU QN) FE i1 (by omega)) (cwV 1 C0.2.2.2.2 gX1_loops_X1_isUsed rfl rfl rfl (by decide +kernel) ⟨Nat.le_of_ble_eq_true rfl, Nat.le_of_ble_eq_true rfl⟩) ⟨0, 1, _, _, _, rfl, rfl⟩ PLs.all rfl rfl (Nat.le_of_ble_eq_true rfl) ⟨Nat.zero_le _, Nat.zero_le _⟩ dX1_loops_25 rfl ?_
      refine v_if_eq C0 35 (pc' := 31) dX1_loops_28 (by decide) rfl (fun h3 => ?_) (fun h3 => ?_)
      · refine v_iconst C0 (pc' := 36) 0 (by decide) dX1_loops_35 rfl ?_
        refine v_isub C0 (pc' := 37) dX1_loops_36 rfl ?_
        refine v_istore_n C0 (lv' := [(1, .int (n_L1 - 0)), (2, .int (nI i1)), (0, .ref (bd 0))]) (pc' := 38) rfl (by decide) rfl dX1_loops_37 rfl ?_
        refine v_iconst C0 (pc' := 39) 0 (by decide) dX1_loops_38 rfl ?_
        refine v_istore_n C0 (lv' := [(3, .int 0), (1, .int (n_L1 - 0)), (2, .int (nI i1)), (0, .ref (bd 0))]) (pc' := 40) rfl (by decide) rfl dX1_loops_39 rfl ?_
        by_cases h4 : ((nI i1) - (nI i1) / 16 * 16) ≤ 0
        · refine v_iload_n C0 (pc' := 41) 0 rfl rfl dX1_loops_40 rfl ?_
          refine v_bipush C0 (pc' := 43) 6 (by decide) dX1_loops_41 rfl ?_
          refine v_icmp_ge C0 113 (pc' := 46) dX1_loops_43 (by decide) rfl (fun h5 => ?_) (fun h5 => ?_)
          · exact absurd h5 (by decide)
          · refine v_iload_n C0 (pc' := 47) 2 rfl rfl dX1_loops_46 rfl ?_
            refine v_bipush C0 (pc' := 49) 16 (by decide) dX1_loops_47 rfl ?_
            refine v_irem C0 (pc' := 50) (by decide) dX1_loops_49 rfl ?_
            refine v_if_le C0 113 (pc' := 53) dX1_loops_50 (by decide) rfl (fun h6 => ?_) (fun h6 => ?_)
            · refine v_iinc C0 (lv' := [(2, .int ((nI i1) + 1)), (3, .int 0), (1, .int (n_L1 - 0)), (0, .ref (bd 0))]) (pc' := 116) 2 rfl ((nI i1) + 1) rfl (by decide) rfl dX1_loops_113 rfl ?_
              refine v_goto C0 16 dX1_loops_116 (by decide) ?_
              exact v_sub (lv' := [(2, .int ((nI i1) + 1)), (1, .int (n_L1 - 0)), (0, .ref (bd 0))]) [0, 2, 3] rfl (ih1 (i1 + 1) ((nI i1) + 1) (n_L1 - 0) (by omega) (by rw [nI_1]) (by rw [lp_succ, ← hs_L1]; simp only [s_X1_loops_L1, if_neg h2, if_pos h3, if_pos h4]))
            · exact absurd h4 h6
        · suffices LP2 : ∀ (j2 i2 : Nat) (x2 : Int32) (n_L2 : Int32), i2 + j2 = 6 → x2 = nI i2 → n_L2 = lp (s_X1_loops_L2 U T F C TR RO WY SU ST QU QN i1) i2 (n_L1 - 0) → V p l e { frames := 4, cells := 0, slots := 0, locals := 95 } s m args below meth c D A 5 0 0 (MQ below (QI D (TI cI) (wY cI bd U T F C B CM TR (s_X1_loops_RO U T F C TR RO WY SU ST QU QN) (s_X1_loops_WY U T F C TR RO WY SU ST QU QN) (s_X1_loops_SU U T F C TR RO WY SU ST QU QN) (s_X1_loops_TH ) (s_X1_loops_ST U T F C TR RO WY SU ST QU QN) (s_X1_loops_QU U T F C TR RO WY SU ST QU QN) (s_X1_loops_QN U T F C TR RO WY SU ST QU QN) FE) A (s_X1_loops U T F C TR RO WY SU ST QU QN)) args s 0 0 A) (wY cI bd U T F C B CM TR (s_X1_layTree_RO F (s_X1_islandMany_RO U T F C TR RO WY SU ST QU QN)) (s_X1_layTree_WY F C (s_X1_islandMany_RO U T F C TR RO WY SU ST QU QN) (s_X1_islandMany_WY U T F C TR RO WY SU ST QU QN) (s_X1_islandMany_SU U T F C TR RO WY SU ST QU QN)) (s_X1_layTree_SU F C (s_X1_islandMany_RO U T F C TR RO WY SU ST QU QN) (s_X1_islandMany_SU U T F C TR RO WY SU ST QU QN)) 0 (s_X1_islandMany_ST U T F C TR RO WY SU ST QU QN) (s_X1_islandMany_QU U T F C TR RO WY SU ST QU QN) (s_X1_islandMany_QN U T F C TR RO WY SU ST QU QN) FE) [(3, .int x2), (1, .int n_L2), (2, .int (nI i1)), (0, .ref (bd 0))] 40 [] by
            exact v_sub (lv' := [(3, .int 0), (1, .int (n_L1 - 0)), (2, .int (nI i1)), (0, .ref (bd 0))]) [0, 1, 2, 3] rfl (LP2 6 0 0 (n_L1 - 0) (Nat.zero_add _) nI_0.symm (lp_zero _ _).symm)
          intro j2
          induction j2 with
          | zero =>
            intro i2 x2 n_L2 hi2 hx2 hs_L2
            have hi2 : 6 = i2 := by omega
            subst hi2
            subst hx2
            refine v_iload_n C0 (pc' := 41) 0 rfl rfl dX1_loops_40 rfl ?_
            refine v_bipush C0 (pc' := 43) 6 (by decide) dX1_loops_41 rfl ?_
            refine v_icmp_ge C0 113 (pc' := 46) dX1_loops_43 (by decide) rfl (fun h7 => ?_) (fun h7 => ?_)
            · refine v_iinc C0 (lv' := [(2, .int ((nI i1) + 1)), (3, .int (nI 6)), (1, .int n_L2), (0, .ref (bd 0))]) (pc' := 116) 2 rfl ((nI i1) + 1) rfl (by decide) rfl dX1_loops_113 rfl ?_
              refine v_goto C0 16 dX1_loops_116 (by decide) ?_
              exact v_sub (lv' := [(2, .int ((nI i1) + 1)), (1, .int n_L2), (0, .ref (bd 0))]) [0, 2, 3] rfl (ih1 (i1 + 1) ((nI i1) + 1) n_L2 (by omega) (by rw [nI_1]) (by rw [lp_succ, ← hs_L1]; simp only [s_X1_loops_L1, if_neg h2, if_pos h3, if_neg h4, if_pos h7, ← hs_L2]))
            · exact absurd (by decide +kernel) h7
          | succ j2 ih2 =>
            intro i2 x2 n_L2 hi2 hx2 hs_L2
            subst hx2
            refine v_iload_n C0 (pc' := 41) 0 rfl rfl dX1_loops_40 rfl ?_
            refine v_bipush C0 (pc' := 43) 6 (by decide) dX1_loops_41 rfl ?_
            refine v_icmp_ge C0 113 (pc' := 46) dX1_loops_43 (by decide) rfl (fun h8 => ?_) (fun h8 => ?_)
            · exact absurd h8 (nI_ge (a := i2) (b := 6) (by omega) (by decide))
            · refine v_iload_n C0 (pc' := 47) 2 rfl rfl dX1_loops_46 rfl ?_
              refine v_bipush C0 (pc' := 49) 16 (by decide) dX1_loops_47 rfl ?_
              refine v_irem C0 (pc' := 50) (by decide) dX1_loops_49 rfl ?_
              refine v_if_le C0 113 (pc' := 53) dX1_loops_50 (by decide) rfl (fun h9 => ?_) (fun h9 => ?_)
              · exact absurd h9 h4
              · refine v_iload_n C0 (pc' := 54) 2 rfl rfl dX1_loops_53 rfl ?_
                refine v_bipush C0 (pc' := 56) 16 (by decide) dX1_loops_54 rfl ?_
                refine v_idiv C0 (pc' := 57) (by decide) dX1_loops_56 rfl ?_
                refine v_bipush C0 (pc' := 59) 6 (by decide) dX1_loops_57 rfl ?_
                refine v_imul C0 (pc' := 60) dX1_loops_59 rfl ?_
                refine v_iload_n C0 (pc' := 61) 0 rfl rfl dX1_loops_60 rfl ?_
                refine v_iadd C0 (pc' := 62) dX1_loops_61 rfl ?_
                refine v_istore C0 (lv' := [(4, .int ((((nI i1) / 16) * 6) + (nI i2))), (3, .int (nI i2)), (1, .int n_L2), (2, .int (nI i1)), (0, .ref (bd 0))]) (pc' := 64) (by decide) rfl dX1_loops_62 rfl ?_
                refine v_iload_n C0 (pc' := 65) 2 rfl rfl dX1_loops_64 rfl ?_
                refine v_aload_n C0 (pc' := 66) 4 rfl rfl dX1_loops_65 rfl ?_
                refine v_iload C0 (pc' := 68) 0 rfl dX1_loops_66 rfl ?_
                refine v_callVi0 C0 (av := [.int ((((nI i1) / 16) * 6) + (nI i2))]) (rest := [.int n_L2]) (ws' := wY cI bd U T F C B CM TR (s_X1_layTree_RO F (s_X1_islandMany_RO U T F C TR RO WY SU ST QU QN)) (s_X1_layTree_WY F C (s_X1_islandMany_RO U T F C TR RO WY SU ST QU QN) (s_X1_islandMany_WY U T F C TR RO WY SU ST QU QN) (s_X1_islandMany_SU U T F C TR RO WY SU ST QU QN)) (s_X1_layTree_SU F C (s_X1_islandMany_RO U T F C TR RO WY SU ST QU QN) (s_X1_islandMany_SU U T F C TR RO WY SU ST QU QN)) 0 (s_X1_islandMany_ST U T F C TR RO WY SU ST QU QN) (s_X1_islandMany_QU U T F C TR RO WY SU ST QU QN) (s_X1_islandMany_QN U T F C TR RO WY SU ST QU QN) FE) (pc' := 71) hK hA (k_X1_isLive l D cI bd U T F C B CM TR (s_X1_layTree_RO F (s_X1_islandMany_RO U T F C TR RO WY SU ST QU QN)) (s_X1_layTree_WY F C (s_X1_islandMany_RO U T F C TR RO WY SU ST QU QN) (s_X1_islandMany_WY U T F C TR RO WY SU ST QU QN) (s_X1_islandMany_SU U T F C TR RO WY SU ST QU QN)) (s_X1_layTree_SU F C (s_X1_islandMany_RO U T F C TR RO WY SU ST QU QN) (s_X1_islandMany_SU U T F C TR RO WY SU ST QU QN)) 0 (s_X1_islandMany_ST U T F C TR RO WY SU ST QU QN) (s_X1_islandMany_QU U T F C TR RO WY SU ST QU QN) (s_X1_islandMany_QN U T F C TR RO WY SU ST QU QN) FE ((((nI i1) / 16) * 6) + (nI i2)) hb_TR (at_in (vp_in_nI (by omega) (by decide)) (by omega)) hF) (cwV 1 C0.2.2.2.2 gX1_loops_X1_isLive rfl rfl rfl (by decide +kernel) ⟨Nat.le_of_ble_eq_true rfl, Nat.le_of_ble_eq_true rfl⟩) ⟨0, 1, _, _, _, rfl, rfl⟩ PLs.all rfl rfl (Nat.le_of_ble_eq_true rfl) ⟨Nat.zero_le _, Nat.zero_le _⟩ dX1_loops_68 rfl ?_
                refine v_if_eq C0 104 (pc' := 74) dX1_loops_71 (by decide) rfl (fun h10 => ?_) (fun h10 => ?_)
                · refine v_iconst C0 (pc' := 105) 0 (by decide) dX1_loops_104 rfl ?_
                  refine v_iadd C0 (pc' := 106) dX1_loops_105 rfl ?_
                  refine v_istore_n C0 (lv' := [(1, .int (n_L2 + 0)), (4, .int ((((nI i1) / 16) * 6) + (nI i2))), (3, .int (nI i2)), (2, .int (nI i1)), (0, .ref (bd 0))]) (pc' := 107) rfl (by decide) rfl dX1_loops_106 rfl ?_
                  refine v_iinc C0 (lv' := [(3, .int ((nI i2) + 1)), (1, .int (n_L2 + 0)), (4, .int ((((nI i1) / 16) * 6) + (nI i2))), (2, .int (nI i1)), (0, .ref (bd 0))]) (pc' := 110) 2 rfl ((nI i2) + 1) rfl (by decide) rfl dX1_loops_107 rfl ?_
                  refine v_goto C0 40 dX1_loops_110 (by decide) ?_
                  exact v_sub (lv' := [(3, .int ((nI i2) + 1)), (1, .int (n_L2 + 0)), (2, .int (nI i1)), (0, .ref (bd 0))]) [0, 1, 3, 4] rfl (ih2 (i2 + 1) ((nI i2) + 1) (n_L2 + 0) (by omega) (by rw [nI_1]) (by rw [lp_succ, ← hs_L2]; simp only [s_X1_loops_L2, if_neg h2, if_pos h3, if_neg h4, if_neg h8, if_pos h10]))
                · refine v_iload C0 (pc' := 76) 0 rfl dX1_loops_74 rfl ?_
                  refine v_aload_n C0 (pc' := 77) 4 rfl rfl dX1_loops_76 rfl ?_
                  refine v_get C0 hK (C := RX1) (T := TX1) (N := 15) (pc' := 80) 0 2 rfl rfl rfl (by decide) in_X1_loops fl_X1_loops_16 rfl dX1_loops_77 rfl ?_
                  refine v_iload C0 (pc' := 82) 0 rfl dX1_loops_80 rfl ?_
                  refine v_ialx C0 hK (pc' := 83) 3 0 rfl rfl (at_in (vp_in_nI (by omega) (by decide)) (by omega)) (by decide) dX1_loops_82 rfl ?_
                  refine v_icmp_ge C0 104 (pc' := 86) dX1_loops_83 (by decide) rfl (fun h11 => ?_) (fun h11 => ?_)
                  · refine v_iconst C0 (pc' := 105) 0 (by decide) dX1_loops_104 rfl ?_
                    refine v_iadd C0 (pc' := 106) dX1_loops_105 rfl ?_
                    refine v_istore_n C0 (lv' := [(1, .int (n_L2 + 0)), (4, .int ((((nI i1) / 16) * 6) + (nI i2))), (3, .int (nI i2)), (2, .int (nI i1)), (0, .ref (bd 0))]) (pc' := 107) rfl (by decide) rfl dX1_loops_106 rfl ?_
                    refine v_iinc C0 (lv' := [(3, .int ((nI i2) + 1)), (1, .int (n_L2 + 0)), (4, .int ((((nI i1) / 16) * 6) + (nI i2))), (2, .int (nI i1)), (0, .ref (bd 0))]) (pc' := 110) 2 rfl ((nI i2) + 1) rfl (by decide) rfl dX1_loops_107 rfl ?_
                    refine v_goto C0 40 dX1_loops_110 (by decide) ?_
                    exact v_sub (lv' := [(3, .int ((nI i2) + 1)), (1, .int (n_L2 + 0)), (2, .int (nI i1)), (0, .ref (bd 0))]) [0, 1, 3, 4] rfl (ih2 (i2 + 1) ((nI i2) + 1) (n_L2 + 0) (by omega) (by rw [nI_1]) (by rw [lp_succ, ← hs_L2]; simp only [s_X1_loops_L2, if_neg h2, if_pos h3, if_neg h4, if_neg h8, if_neg h10, if_pos h11]))
                  · refine v_aload_n C0 (pc' := 87) 4 rfl rfl dX1_loops_86 rfl ?_
                    refine v_iload C0 (pc' := 89) 0 rfl dX1_loops_87 rfl ?_
                    refine v_iload_n C0 (pc' := 90) 3 rfl rfl dX1_loops_89 rfl ?_
                    refine v_bipush C0 (pc' := 92) 16 (by decide) dX1_loops_90 rfl ?_
                    refine v_irem C0 (pc' := 93) (by decide) dX1_loops_92 rfl ?_
                    refine v_callVi0 C0 (av := [.int ((((nI i1) / 16) * 6) + (nI i2)), .int ((nI i1) - (nI i1) / 16 * 16)]) (rest := [.int n_L2]) (ws' := wY cI bd U T F C B CM TR (s_X1_layTree_RO F (s_X1_islandMany_RO U T F C TR RO WY SU ST QU QN)) (s_X1_layTree_WY F C (s_X1_islandMany_RO U T F C TR RO WY SU ST QU QN) (s_X1_islandMany_WY U T F C TR RO WY SU ST QU QN) (s_X1_islandMany_SU U T F C TR RO WY SU ST QU QN)) (s_X1_layTree_SU F C (s_X1_islandMany_RO U T F C TR RO WY SU ST QU QN) (s_X1_islandMany_SU U T F C TR RO WY SU ST QU QN)) 0 (s_X1_islandMany_ST U T F C TR RO WY SU ST QU QN) (s_X1_islandMany_QU U T F C TR RO WY SU ST QU QN) (s_X1_islandMany_QN U T F C TR RO WY SU ST QU QN) FE) (pc' := 96) hK hA (k_X1_carried l D cI bd U T F C B CM TR (s_X1_layTree_RO F (s_X1_islandMany_RO U T F C TR RO WY SU ST QU QN)) (s_X1_layTree_WY F C (s_X1_islandMany_RO U T F C TR RO WY SU ST QU QN) (s_X1_islandMany_WY U T F C TR RO WY SU ST QU QN) (s_X1_islandMany_SU U T F C TR RO WY SU ST QU QN)) (s_X1_layTree_SU F C (s_X1_islandMany_RO U T F C TR RO WY SU ST QU QN) (s_X1_islandMany_SU U T F C TR RO WY SU ST QU QN)) 0 (s_X1_islandMany_ST U T F C TR RO WY SU ST QU QN) (s_X1_islandMany_QU U T F C TR RO WY SU ST QU QN) (s_X1_islandMany_QN U T F C TR RO WY SU ST QU QN) FE ((((nI i1) / 16) * 6) + (nI i2)) ((nI i1) - (nI i1) / 16 * 16) (at_in (vp_in_nI (by omega) (by decide)) (by omega)) hF (live_end h10)) (cwV 2 C0.2.2.2.2 gX1_loops_X1_carried rfl rfl rfl (by decide +kernel) ⟨Nat.le_of_ble_eq_true rfl, Nat.le_of_ble_eq_true rfl⟩) ⟨0, 1, _, _, _, rfl, rfl⟩ PLs.all rfl rfl (Nat.le_of_ble_eq_true rfl) ⟨Nat.zero_le _, Nat.zero_le _⟩ dX1_loops_93 rfl ?_
                    refine v_iconst C0 (pc' := 97) (-1) (by decide) dX1_loops_96 rfl ?_
                    refine v_icmp_eq C0 104 (pc' := 100) dX1_loops_97 (by decide) rfl (fun h12 => ?_) (fun h12 => ?_)
                    · refine v_iconst C0 (pc' := 105) 0 (by decide) dX1_loops_104 rfl ?_
                      refine v_iadd C0 (pc' := 106) dX1_loops_105 rfl ?_
                      refine v_istore_n C0 (lv' := [(1, .int (n_L2 + 0)), (4, .int ((((nI i1) / 16) * 6) + (nI i2))), (3, .int (nI i2)), (2, .int (nI i1)), (0, .ref (bd 0))]) (pc' := 107) rfl (by decide) rfl dX1_loops_106 rfl ?_
                      refine v_iinc C0 (lv' := [(3, .int ((nI i2) + 1)), (1, .int (n_L2 + 0)), (4, .int ((((nI i1) / 16) * 6) + (nI i2))), (2, .int (nI i1)), (0, .ref (bd 0))]) (pc' := 110) 2 rfl ((nI i2) + 1) rfl (by decide) rfl dX1_loops_107 rfl ?_
                      refine v_goto C0 40 dX1_loops_110 (by decide) ?_
                      exact v_sub (lv' := [(3, .int ((nI i2) + 1)), (1, .int (n_L2 + 0)), (2, .int (nI i1)), (0, .ref (bd 0))]) [0, 1, 3, 4] rfl (ih2 (i2 + 1) ((nI i2) + 1) (n_L2 + 0) (by omega) (by rw [nI_1]) (by rw [lp_succ, ← hs_L2]; simp only [s_X1_loops_L2, if_neg h2, if_pos h3, if_neg h4, if_neg h8, if_neg h10, if_neg h11, if_pos h12]))
                    · refine v_iconst C0 (pc' := 101) 1 (by decide) dX1_loops_100 rfl ?_
                      refine v_goto C0 105 dX1_loops_101 (by decide) ?_
                      refine v_iadd C0 (pc' := 106) dX1_loops_105 rfl ?_
                      refine v_istore_n C0 (lv' := [(1, .int (n_L2 + 1)), (4, .int ((((nI i1) / 16) * 6) + (nI i2))), (3, .int (nI i2)), (2, .int (nI i1)), (0, .ref (bd 0))]) (pc' := 107) rfl (by decide) rfl dX1_loops_106 rfl ?_
                      refine v_iinc C0 (lv' := [(3, .int ((nI i2) + 1)), (1, .int (n_L2 + 1)), (4, .int ((((nI i1) / 16) * 6) + (nI i2))), (2, .int (nI i1)), (0, .ref (bd 0))]) (pc' := 110) 2 rfl ((nI i2) + 1) rfl (by decide) rfl dX1_loops_107 rfl ?_
                      refine v_goto C0 40 dX1_loops_110 (by decide) ?_
                      exact v_sub (lv' := [(3, .int ((nI i2) + 1)), (1, .int (n_L2 + 1)), (2, .int (nI i1)), (0, .ref (bd 0))]) [0, 1, 3, 4] rfl (ih2 (i2 + 1) ((nI i2) + 1) (n_L2 + 1) (by omega) (by rw [nI_1]) (by rw [lp_succ, ← hs_L2]; simp only [s_X1_loops_L2, if_neg h2, if_pos h3, if_neg h4, if_neg h8, if_neg h10, if_neg h11, if_neg h12]))
      · refine v_iconst C0 (pc' := 32) 1 (by decide) dX1_loops_31 rfl ?_
        refine v_goto C0 36 dX1_loops_32 (by decide) ?_
        refine v_isub C0 (pc' := 37) dX1_loops_36 rfl ?_
        refine v_istore_n C0 (lv' := [(1, .int (n_L1 - 1)), (2, .int (nI i1)), (0, .ref (bd 0))]) (pc' := 38) rfl (by decide) rfl dX1_loops_37 rfl ?_
        refine v_iconst C0 (pc' := 39) 0 (by decide) dX1_loops_38 rfl ?_
        refine v_istore_n C0 (lv' := [(3, .int 0), (1, .int (n_L1 - 1)), (2, .int (nI i1)), (0, .ref (bd 0))]) (pc' := 40) rfl (by decide) rfl dX1_loops_39 rfl ?_
        by_cases h13 : ((nI i1) - (nI i1) / 16 * 16) ≤ 0
        · refine v_iload_n C0 (pc' := 41) 0 rfl rfl dX1_loops_40 rfl ?_
          refine v_bipush C0 (pc' := 43) 6 (by decide) dX1_loops_41 rfl ?_
          refine v_icmp_ge C0 113 (pc' := 46) dX1_loops_43 (by decide) rfl (fun h14 => ?_) (fun h14 => ?_)
          · exact absurd h14 (by decide)
          · refine v_iload_n C0 (pc' := 47) 2 rfl rfl dX1_loops_46 rfl ?_
            refine v_bipush C0 (pc' := 49) 16 (by decide) dX1_loops_47 rfl ?_
            refine v_irem C0 (pc' := 50) (by decide) dX1_loops_49 rfl ?_
            refine v_if_le C0 113 (pc' := 53) dX1_loops_50 (by decide) rfl (fun h15 => ?_) (fun h15 => ?_)
            · refine v_iinc C0 (lv' := [(2, .int ((nI i1) + 1)), (3, .int 0), (1, .int (n_L1 - 1)), (0, .ref (bd 0))]) (pc' := 116) 2 rfl ((nI i1) + 1) rfl (by decide) rfl dX1_loops_113 rfl ?_
              refine v_goto C0 16 dX1_loops_116 (by decide) ?_
              exact v_sub (lv' := [(2, .int ((nI i1) + 1)), (1, .int (n_L1 - 1)), (0, .ref (bd 0))]) [0, 2, 3] rfl (ih1 (i1 + 1) ((nI i1) + 1) (n_L1 - 1) (by omega) (by rw [nI_1]) (by rw [lp_succ, ← hs_L1]; simp only [s_X1_loops_L1, if_neg h2, if_neg h3, if_pos h13]))
            · exact absurd h13 h15
        · suffices LP2 : ∀ (j2 i2 : Nat) (x2 : Int32) (n_L2 : Int32), i2 + j2 = 6 → x2 = nI i2 → n_L2 = lp (s_X1_loops_L2 U T F C TR RO WY SU ST QU QN i1) i2 (n_L1 - 1) → V p l e { frames := 4, cells := 0, slots := 0, locals := 95 } s m args below meth c D A 5 0 0 (MQ below (QI D (TI cI) (wY cI bd U T F C B CM TR (s_X1_loops_RO U T F C TR RO WY SU ST QU QN) (s_X1_loops_WY U T F C TR RO WY SU ST QU QN) (s_X1_loops_SU U T F C TR RO WY SU ST QU QN) (s_X1_loops_TH ) (s_X1_loops_ST U T F C TR RO WY SU ST QU QN) (s_X1_loops_QU U T F C TR RO WY SU ST QU QN) (s_X1_loops_QN U T F C TR RO WY SU ST QU QN) FE) A (s_X1_loops U T F C TR RO WY SU ST QU QN)) args s 0 0 A) (wY cI bd U T F C B CM TR (s_X1_layTree_RO F (s_X1_islandMany_RO U T F C TR RO WY SU ST QU QN)) (s_X1_layTree_WY F C (s_X1_islandMany_RO U T F C TR RO WY SU ST QU QN) (s_X1_islandMany_WY U T F C TR RO WY SU ST QU QN) (s_X1_islandMany_SU U T F C TR RO WY SU ST QU QN)) (s_X1_layTree_SU F C (s_X1_islandMany_RO U T F C TR RO WY SU ST QU QN) (s_X1_islandMany_SU U T F C TR RO WY SU ST QU QN)) 0 (s_X1_islandMany_ST U T F C TR RO WY SU ST QU QN) (s_X1_islandMany_QU U T F C TR RO WY SU ST QU QN) (s_X1_islandMany_QN U T F C TR RO WY SU ST QU QN) FE) [(3, .int x2), (1, .int n_L2), (2, .int (nI i1)), (0, .ref (bd 0))] 40 [] by
            exact v_sub (lv' := [(3, .int 0), (1, .int (n_L1 - 1)), (2, .int (nI i1)), (0, .ref (bd 0))]) [0, 1, 2, 3] rfl (LP2 6 0 0 (n_L1 - 1) (Nat.zero_add _) nI_0.symm (lp_zero _ _).symm)
          intro j2
          induction j2 with
          | zero =>
            intro i2 x2 n_L2 hi2 hx2 hs_L2
            have hi2 : 6 = i2 := by omega
            subst hi2
            subst hx2
            refine v_iload_n C0 (pc' := 41) 0 rfl rfl dX1_loops_40 rfl ?_
            refine v_bipush C0 (pc' := 43) 6 (by decide) dX1_loops_41 rfl ?_
            refine v_icmp_ge C0 113 (pc' := 46) dX1_loops_43 (by decide) rfl (fun h16 => ?_) (fun h16 => ?_)
            · refine v_iinc C0 (lv' := [(2, .int ((nI i1) + 1)), (3, .int (nI 6)), (1, .int n_L2), (0, .ref (bd 0))]) (pc' := 116) 2 rfl ((nI i1) + 1) rfl (by decide) rfl dX1_loops_113 rfl ?_
              refine v_goto C0 16 dX1_loops_116 (by decide) ?_
              exact v_sub (lv' := [(2, .int ((nI i1) + 1)), (1, .int n_L2), (0, .ref (bd 0))]) [0, 2, 3] rfl (ih1 (i1 + 1) ((nI i1) + 1) n_L2 (by omega) (by rw [nI_1]) (by rw [lp_succ, ← hs_L1]; simp only [s_X1_loops_L1, if_neg h2, if_neg h3, if_neg h13, if_pos h16, ← hs_L2]))
            · exact absurd (by decide +kernel) h16
          | succ j2 ih2 =>
            intro i2 x2 n_L2 hi2 hx2 hs_L2
            subst hx2
            refine v_iload_n C0 (pc' := 41) 0 rfl rfl dX1_loops_40 rfl ?_
            refine v_bipush C0 (pc' := 43) 6 (by decide) dX1_loops_41 rfl ?_
            refine v_icmp_ge C0 113 (pc' := 46) dX1_loops_43 (by decide) rfl (fun h17 => ?_) (fun h17 => ?_)
            · exact absurd h17 (nI_ge (a := i2) (b := 6) (by omega) (by decide))
            · refine v_iload_n C0 (pc' := 47) 2 rfl rfl dX1_loops_46 rfl ?_
              refine v_bipush C0 (pc' := 49) 16 (by decide) dX1_loops_47 rfl ?_
              refine v_irem C0 (pc' := 50) (by decide) dX1_loops_49 rfl ?_
              refine v_if_le C0 113 (pc' := 53) dX1_loops_50 (by decide) rfl (fun h18 => ?_) (fun h18 => ?_)
              · exact absurd h18 h13
              · refine v_iload_n C0 (pc' := 54) 2 rfl rfl dX1_loops_53 rfl ?_
                refine v_bipush C0 (pc' := 56) 16 (by decide) dX1_loops_54 rfl ?_
                refine v_idiv C0 (pc' := 57) (by decide) dX1_loops_56 rfl ?_
                refine v_bipush C0 (pc' := 59) 6 (by decide) dX1_loops_57 rfl ?_
                refine v_imul C0 (pc' := 60) dX1_loops_59 rfl ?_
                refine v_iload_n C0 (pc' := 61) 0 rfl rfl dX1_loops_60 rfl ?_
                refine v_iadd C0 (pc' := 62) dX1_loops_61 rfl ?_
                refine v_istore C0 (lv' := [(4, .int ((((nI i1) / 16) * 6) + (nI i2))), (3, .int (nI i2)), (1, .int n_L2), (2, .int (nI i1)), (0, .ref (bd 0))]) (pc' := 64) (by decide) rfl dX1_loops_62 rfl ?_
                refine v_iload_n C0 (pc' := 65) 2 rfl rfl dX1_loops_64 rfl ?_
                refine v_aload_n C0 (pc' := 66) 4 rfl rfl dX1_loops_65 rfl ?_
                refine v_iload C0 (pc' := 68) 0 rfl dX1_loops_66 rfl ?_
                refine v_callVi0 C0 (av := [.int ((((nI i1) / 16) * 6) + (nI i2))]) (rest := [.int n_L2]) (ws' := wY cI bd U T F C B CM TR (s_X1_layTree_RO F (s_X1_islandMany_RO U T F C TR RO WY SU ST QU QN)) (s_X1_layTree_WY F C (s_X1_islandMany_RO U T F C TR RO WY SU ST QU QN) (s_X1_islandMany_WY U T F C TR RO WY SU ST QU QN) (s_X1_islandMany_SU U T F C TR RO WY SU ST QU QN)) (s_X1_layTree_SU F C (s_X1_islandMany_RO U T F C TR RO WY SU ST QU QN) (s_X1_islandMany_SU U T F C TR RO WY SU ST QU QN)) 0 (s_X1_islandMany_ST U T F C TR RO WY SU ST QU QN) (s_X1_islandMany_QU U T F C TR RO WY SU ST QU QN) (s_X1_islandMany_QN U T F C TR RO WY SU ST QU QN) FE) (pc' := 71) hK hA (k_X1_isLive l D cI bd U T F C B CM TR (s_X1_layTree_RO F (s_X1_islandMany_RO U T F C TR RO WY SU ST QU QN)) (s_X1_layTree_WY F C (s_X1_islandMany_RO U T F C TR RO WY SU ST QU QN) (s_X1_islandMany_WY U T F C TR RO WY SU ST QU QN) (s_X1_islandMany_SU U T F C TR RO WY SU ST QU QN)) (s_X1_layTree_SU F C (s_X1_islandMany_RO U T F C TR RO WY SU ST QU QN) (s_X1_islandMany_SU U T F C TR RO WY SU ST QU QN)) 0 (s_X1_islandMany_ST U T F C TR RO WY SU ST QU QN) (s_X1_islandMany_QU U T F C TR RO WY SU ST QU QN) (s_X1_islandMany_QN U T F C TR RO WY SU ST QU QN) FE ((((nI i1) / 16) * 6) + (nI i2)) hb_TR (at_in (vp_in_nI (by omega) (by decide)) (by omega)) hF) (cwV 1 C0.2.2.2.2 gX1_loops_X1_isLive rfl rfl rfl (by decide +kernel) ⟨Nat.le_of_ble_eq_true rfl, Nat.le_of_ble_eq_true rfl⟩) ⟨0, 1, _, _, _, rfl, rfl⟩ PLs.all rfl rfl (Nat.le_of_ble_eq_true rfl) ⟨Nat.zero_le _, Nat.zero_le _⟩ dX1_loops_68 rfl ?_
                refine v_if_eq C0 104 (pc' := 74) dX1_loops_71 (by decide) rfl (fun h19 => ?_) (fun h19 => ?_)
                · refine v_iconst C0 (pc' := 105) 0 (by decide) dX1_loops_104 rfl ?_
                  refine v_iadd C0 (pc' := 106) dX1_loops_105 rfl ?_
                  refine v_istore_n C0 (lv' := [(1, .int (n_L2 + 0)), (4, .int ((((nI i1) / 16) * 6) + (nI i2))), (3, .int (nI i2)), (2, .int (nI i1)), (0, .ref (bd 0))]) (pc' := 107) rfl (by decide) rfl dX1_loops_106 rfl ?_
                  refine v_iinc C0 (lv' := [(3, .int ((nI i2) + 1)), (1, .int (n_L2 + 0)), (4, .int ((((nI i1) / 16) * 6) + (nI i2))), (2, .int (nI i1)), (0, .ref (bd 0))]) (pc' := 110) 2 rfl ((nI i2) + 1) rfl (by decide) rfl dX1_loops_107 rfl ?_
                  refine v_goto C0 40 dX1_loops_110 (by decide) ?_
                  exact v_sub (lv' := [(3, .int ((nI i2) + 1)), (1, .int (n_L2 + 0)), (2, .int (nI i1)), (0, .ref (bd 0))]) [0, 1, 3, 4] rfl (ih2 (i2 + 1) ((nI i2) + 1) (n_L2 + 0) (by omega) (by rw [nI_1]) (by rw [lp_succ, ← hs_L2]; simp only [s_X1_loops_L2, if_neg h2, if_neg h3, if_neg h13, if_neg h17, if_pos h19]))
                · refine v_iload C0 (pc' := 76) 0 rfl dX1_loops_74 rfl ?_
                  refine v_aload_n C0 (pc' := 77) 4 rfl rfl dX1_loops_76 rfl ?_
                  refine v_get C0 hK (C := RX1) (T := TX1) (N := 15) (pc' := 80) 0 2 rfl rfl rfl (by decide) in_X1_loops fl_X1_loops_16 rfl dX1_loops_77 rfl ?_
                  refine v_iload C0 (pc' := 82) 0 rfl dX1_loops_80 rfl ?_
                  refine v_ialx C0 hK (pc' := 83) 3 0 rfl rfl (at_in (vp_in_nI (by omega) (by decide)) (by omega)) (by decide) dX1_loops_82 rfl ?_
                  refine v_icmp_ge C0 104 (pc' := 86) dX1_loops_83 (by decide) rfl (fun h20 => ?_) (fun h20 => ?_)
                  · refine v_iconst C0 (pc' := 105) 0 (by decide) dX1_loops_104 rfl ?_
                    refine v_iadd C0 (pc' := 106) dX1_loops_105 rfl ?_
                    refine v_istore_n C0 (lv' := [(1, .int (n_L2 + 0)), (4, .int ((((nI i1) / 16) * 6) + (nI i2))), (3, .int (nI i2)), (2, .int (nI i1)), (0, .ref (bd 0))]) (pc' := 107) rfl (by decide) rfl dX1_loops_106 rfl ?_
                    refine v_iinc C0 (lv' := [(3, .int ((nI i2) + 1)), (1, .int (n_L2 + 0)), (4, .int ((((nI i1) / 16) * 6) + (nI i2))), (2, .int (nI i1)), (0, .ref (bd 0))]) (pc' := 110) 2 rfl ((nI i2) + 1) rfl (by decide) rfl dX1_loops_107 rfl ?_
                    refine v_goto C0 40 dX1_loops_110 (by decide) ?_
                    exact v_sub (lv' := [(3, .int ((nI i2) + 1)), (1, .int (n_L2 + 0)), (2, .int (nI i1)), (0, .ref (bd 0))]) [0, 1, 3, 4] rfl (ih2 (i2 + 1) ((nI i2) + 1) (n_L2 + 0) (by omega) (by rw [nI_1]) (by rw [lp_succ, ← hs_L2]; simp only [s_X1_loops_L2, if_neg h2, if_neg h3, if_neg h13, if_neg h17, if_neg h19, if_pos h20]))
                  · refine v_aload_n C0 (pc' := 87) 4 rfl rfl dX1_loops_86 rfl ?_
                    refine v_iload C0 (pc' := 89) 0 rfl dX1_loops_87 rfl ?_
                    refine v_iload_n C0 (pc' := 90) 3 rfl rfl dX1_loops_89 rfl ?_
                    refine v_bipush C0 (pc' := 92) 16 (by decide) dX1_loops_90 rfl ?_
                    refine v_irem C0 (pc' := 93) (by decide) dX1_loops_92 rfl ?_
                    refine v_callVi0 C0 (av := [.int ((((nI i1) / 16) * 6) + (nI i2)), .int ((nI i1) - (nI i1) / 16 * 16)]) (rest := [.int n_L2]) (ws' := wY cI bd U T F C B CM TR (s_X1_layTree_RO F (s_X1_islandMany_RO U T F C TR RO WY SU ST QU QN)) (s_X1_layTree_WY F C (s_X1_islandMany_RO U T F C TR RO WY SU ST QU QN) (s_X1_islandMany_WY U T F C TR RO WY SU ST QU QN) (s_X1_islandMany_SU U T F C TR RO WY SU ST QU QN)) (s_X1_layTree_SU F C (s_X1_islandMany_RO U T F C TR RO WY SU ST QU QN) (s_X1_islandMany_SU U T F C TR RO WY SU ST QU QN)) 0 (s_X1_islandMany_ST U T F C TR RO WY SU ST QU QN) (s_X1_islandMany_QU U T F C TR RO WY SU ST QU QN) (s_X1_islandMany_QN U T F C TR RO WY SU ST QU QN) FE) (pc' := 96) hK hA (k_X1_carried l D cI bd U T F C B CM TR (s_X1_layTree_RO F (s_X1_islandMany_RO U T F C TR RO WY SU ST QU QN)) (s_X1_layTree_WY F C (s_X1_islandMany_RO U T F C TR RO WY SU ST QU QN) (s_X1_islandMany_WY U T F C TR RO WY SU ST QU QN) (s_X1_islandMany_SU U T F C TR RO WY SU ST QU QN)) (s_X1_layTree_SU F C (s_X1_islandMany_RO U T F C TR RO WY SU ST QU QN) (s_X1_islandMany_SU U T F C TR RO WY SU ST QU QN)) 0 (s_X1_islandMany_ST U T F C TR RO WY SU ST QU QN) (s_X1_islandMany_QU U T F C TR RO WY SU ST QU QN) (s_X1_islandMany_QN U T F C TR RO WY SU ST QU QN) FE ((((nI i1) / 16) * 6) + (nI i2)) ((nI i1) - (nI i1) / 16 * 16) (at_in (vp_in_nI (by omega) (by decide)) (by omega)) hF (live_end h19)) (cwV 2 C0.2.2.2.2 gX1_loops_X1_carried rfl rfl rfl (by decide +kernel) ⟨Nat.le_of_ble_eq_true rfl, Nat.le_of_ble_eq_true rfl⟩) ⟨0, 1, _, _, _, rfl, rfl⟩ PLs.all rfl rfl (Nat.le_of_ble_eq_true rfl) ⟨Nat.zero_le _, Nat.zero_le _⟩ dX1_loops_93 rfl ?_
                    refine v_iconst C0 (pc' := 97) (-1) (by decide) dX1_loops_96 rfl ?_
                    refine v_icmp_eq C0 104 (pc' := 100) dX1_loops_97 (by decide) rfl (fun h21 => ?_) (fun h21 => ?_)
                    · refine v_iconst C0 (pc' := 105) 0 (by decide) dX1_loops_104 rfl ?_
                      refine v_iadd C0 (pc' := 106) dX1_loops_105 rfl ?_
                      refine v_istore_n C0 (lv' := [(1, .int (n_L2 + 0)), (4, .int ((((nI i1) / 16) * 6) + (nI i2))), (3, .int (nI i2)), (2, .int (nI i1)), (0, .ref (bd 0))]) (pc' := 107) rfl (by decide) rfl dX1_loops_106 rfl ?_
                      refine v_iinc C0 (lv' := [(3, .int ((nI i2) + 1)), (1, .int (n_L2 + 0)), (4, .int ((((nI i1) / 16) * 6) + (nI i2))), (2, .int (nI i1)), (0, .ref (bd 0))]) (pc' := 110) 2 rfl ((nI i2) + 1) rfl (by decide) rfl dX1_loops_107 rfl ?_
                      refine v_goto C0 40 dX1_loops_110 (by decide) ?_
                      exact v_sub (lv' := [(3, .int ((nI i2) + 1)), (1, .int (n_L2 + 0)), (2, .int (nI i1)), (0, .ref (bd 0))]) [0, 1, 3, 4] rfl (ih2 (i2 + 1) ((nI i2) + 1) (n_L2 + 0) (by omega) (by rw [nI_1]) (by rw [lp_succ, ← hs_L2]; simp only [s_X1_loops_L2, if_neg h2, if_neg h3, if_neg h13, if_neg h17, if_neg h19, if_neg h20, if_pos h21]))
                    · refine v_iconst C0 (pc' := 101) 1 (by decide) dX1_loops_100 rfl ?_
                      refine v_goto C0 105 dX1_loops_101 (by decide) ?_
                      refine v_iadd C0 (pc' := 106) dX1_loops_105 rfl ?_
                      refine v_istore_n C0 (lv' := [(1, .int (n_L2 + 1)), (4, .int ((((nI i1) / 16) * 6) + (nI i2))), (3, .int (nI i2)), (2, .int (nI i1)), (0, .ref (bd 0))]) (pc' := 107) rfl (by decide) rfl dX1_loops_106 rfl ?_
                      refine v_iinc C0 (lv' := [(3, .int ((nI i2) + 1)), (1, .int (n_L2 + 1)), (4, .int ((((nI i1) / 16) * 6) + (nI i2))), (2, .int (nI i1)), (0, .ref (bd 0))]) (pc' := 110) 2 rfl ((nI i2) + 1) rfl (by decide) rfl dX1_loops_107 rfl ?_
                      refine v_goto C0 40 dX1_loops_110 (by decide) ?_
                      exact v_sub (lv' := [(3, .int ((nI i2) + 1)), (1, .int (n_L2 + 1)), (2, .int (nI i1)), (0, .ref (bd 0))]) [0, 1, 3, 4] rfl (ih2 (i2 + 1) ((nI i2) + 1) (n_L2 + 1) (by omega) (by rw [nI_1]) (by rw [lp_succ, ← hs_L2]; simp only [s_X1_loops_L2, if_neg h2, if_neg h3, if_neg h13, if_neg h17, if_neg h19, if_neg h20, if_neg h21]))
def s_X1_changesAt (U : Nat → Int32) (T : Nat → Int32) (F : Nat → Int32) (sl : Int32) (lane : Int32) : Int32 := if (xAt 36 U sl) = lane then (if (xAt 36 U sl) = (xAt 36 U (xAt 36 F sl)) then 0 else 1000000) else (if (xAt 36 U (xAt 36 F sl)) = lane then (if (xAt 36 U sl) = (xAt 36 U (xAt 36 F sl)) then 0 else 1000000) else (if (s_X1_isTagged T sl lane) = 0 then (if (s_X1_isTagged T (xAt 36 F sl) lane) = 0 then 1 + 1 else 1 + 0) else (if (s_X1_isTagged T (xAt 36 F sl) lane) = 0 then 0 + 1 else 0 + 0)))
set_option maxHeartbeats 4000000 in
set_option maxRecDepth 100000 in
theorem k_X1_changesAt (l : Launch) (D : va_G) (cI : ClassId) (bd : Nat → Nat) (U : Nat → Int32) (T : Nat → Int32) (F : Nat → Int32) (C : Nat → Int32) (B : Nat → Int32) (CM : Int32) (TR : Int32) (RO : Nat → Int32) (WY : Nat → Int32) (SU : Nat → Int32) (TH : Int32) (ST : Nat → Int32) (QU : Nat → Int32) (QN : Int32) (FE : Nat → Int32) (sl : Int32) (lane : Int32) (hat : vp_in sl 36) (hF : FR F) (he : ¬ xAt 36 F sl = -1) : Ki l yX1_changesAt wsX1_changesAt 1 22 0 0 D (TI cI) [.ref (bd 0), .int sl, .int lane] (wY cI bd U T F C B CM TR RO WY SU TH ST QU QN FE) (wY cI bd U T F C B CM TR RO WY SU TH ST QU QN FE) (s_X1_changesAt U T F sl lane) := by
  refine Ki.of (cc := cX1_changesAt) (maxL := 4) (rt := .int) (lv0 := [(0, .ref (bd 0)), (1, .int sl), (2, .int lane)]) (by decide +kernel) rfl (Nat.le_of_ble_eq_true rfl) rfl ?_
  intro p e s m args below meth c A C0 hr hlk hK hA
  refine v_aload_n C0 (pc' := 1) 0 rfl rfl dX1_changesAt_0 rfl ?_
  refine v_get C0 hK (C := RX1) (T := TX1) (N := 15) (pc' := 4) 0 2 rfl rfl rfl (by decide) in_X1_changesAt fl_X1_changesAt_16 rfl dX1_changesAt_1 rfl ?_
  refine v_iload_n C0 (pc' := 5) 1 rfl rfl dX1_changesAt_4 rfl ?_
  refine v_ialx C0 hK (pc' := 6) 3 0 rfl rfl hat (by decide) dX1_changesAt_5 rfl ?_
  refine v_istore_n C0 (lv' := [(3, .int (xAt 36 F sl)), (0, .ref (bd 0)), (1, .int sl), (2, .int lane)]) (pc' := 7) rfl (by decide) rfl dX1_changesAt_6 rfl ?_
  refine v_aload_n C0 (pc' := 8) 1 rfl rfl dX1_changesAt_7 rfl ?_
  refine v_get C0 hK (C := RX1) (T := TX1) (N := 15) (pc' := 11) 0 0 rfl rfl rfl (by decide) in_X1_changesAt fl_X1_changesAt_7 rfl dX1_changesAt_8 rfl ?_
  refine v_iload_n C0 (pc' := 12) 2 rfl rfl dX1_changesAt_11 rfl ?_
  refine v_ialx C0 hK (pc' := 13) 1 0 rfl rfl hat (by decide) dX1_changesAt_12 rfl ?_
  refine v_iload_n C0 (pc' := 14) 3 rfl rfl dX1_changesAt_13 rfl ?_
  refine v_icmp_eq C0 27 (pc' := 17) dX1_changesAt_14 (by decide) rfl (fun h1 => ?_) (fun h1 => ?_)
  · refine v_aload_n C0 (pc' := 28) 1 rfl rfl dX1_changesAt_27 rfl ?_
    refine v_get C0 hK (C := RX1) (T := TX1) (N := 15) (pc' := 31) 0 0 rfl rfl rfl (by decide) in_X1_changesAt fl_X1_changesAt_7 rfl dX1_changesAt_28 rfl ?_
    refine v_iload_n C0 (pc' := 32) 2 rfl rfl dX1_changesAt_31 rfl ?_
    refine v_ialx C0 hK (pc' := 33) 1 0 rfl rfl hat (by decide) dX1_changesAt_32 rfl ?_
    refine v_aload_n C0 (pc' := 34) 1 rfl rfl dX1_changesAt_33 rfl ?_
    refine v_get C0 hK (C := RX1) (T := TX1) (N := 15) (pc' := 37) 0 0 rfl rfl rfl (by decide) in_X1_changesAt fl_X1_changesAt_7 rfl dX1_changesAt_34 rfl ?_
    refine v_iload_n C0 (pc' := 38) 0 rfl rfl dX1_changesAt_37 rfl ?_
    refine v_ialx C0 hK (pc' := 39) 1 0 rfl rfl (FR_in hF hat he) (by decide) dX1_changesAt_38 rfl ?_
    refine v_icmp_ne C0 46 (pc' := 42) dX1_changesAt_39 (by decide) rfl (fun h2 => ?_) (fun h2 => ?_)
    · refine v_ldc C0 (pc' := 48) 1000000 (C0.2.2.2.2 _ (by decide +kernel)) dX1_changesAt_46 rfl ?_
      exact v_iret C0 hr hlk hK (by simp only [s_X1_changesAt, if_pos h1, if_neg h2]) dX1_changesAt_48
    · refine v_iconst C0 (pc' := 43) 0 (by decide) dX1_changesAt_42 rfl ?_
      refine v_goto C0 48 dX1_changesAt_43 (by decide) ?_
      exact v_iret C0 hr hlk hK (by simp only [s_X1_changesAt, if_pos h1, if_pos h2]) dX1_changesAt_48
  · refine v_aload_n C0 (pc' := 18) 1 rfl rfl dX1_changesAt_17 rfl ?_
    refine v_get C0 hK (C := RX1) (T := TX1) (N := 15) (pc' := 21) 0 0 rfl rfl rfl (by decide) in_X1_changesAt fl_X1_changesAt_7 rfl dX1_changesAt_18 rfl ?_
    refine v_iload_n C0 (pc' := 22) 0 rfl rfl dX1_changesAt_21 rfl ?_
    refine v_ialx C0 hK (pc' := 23) 1 0 rfl rfl (FR_in hF hat he) (by decide) dX1_changesAt_22 rfl ?_
    refine v_iload_n C0 (pc' := 24) 3 rfl rfl dX1_changesAt_23 rfl ?_
    refine v_icmp_ne C0 49 (pc' := 27) dX1_changesAt_24 (by decide) rfl (fun h3 => ?_) (fun h3 => ?_)
    · refine v_aload_n C0 (pc' := 50) 1 rfl rfl dX1_changesAt_49 rfl ?_
      refine v_iload_n C0 (pc' := 51) 2 rfl rfl dX1_changesAt_50 rfl ?_
      refine v_iload_n C0 (pc' := 52) 3 rfl rfl dX1_changesAt_51 rfl ?_
      refine v_callVi0 C0 (av := [.int sl, .int lane]) (rest := []) (ws' := wY cI bd U T F C B CM TR RO WY SU TH ST QU QN FE) (pc' := 55) hK hA (k_X1_isTagged l D cI bd U T F C B CM TR RO WY SU TH ST QU QN FE sl lane hat) (cwV 2 C0.2.2.2.2 gX1_changesAt_X1_isTagged rfl rfl rfl (by decide +kernel) ⟨Nat.le_of_ble_eq_true rfl, Nat.le_of_ble_eq_true rfl⟩) ⟨0, 1, _, _, _, rfl, rfl⟩ PLs.all rfl rfl (Nat.le_of_ble_eq_true rfl) ⟨Nat.zero_le _, Nat.zero_le _⟩ dX1_changesAt_52 rfl ?_
      refine v_if_eq C0 62 (pc' := 58) dX1_changesAt_55 (by decide) rfl (fun h4 => ?_) (fun h4 => ?_)
      · refine v_iconst C0 (pc' := 63) 1 (by decide) dX1_changesAt_62 rfl ?_
        refine v_aload_n C0 (pc' := 64) 1 rfl rfl dX1_changesAt_63 rfl ?_
        refine v_iload_n C0 (pc' := 65) 0 rfl rfl dX1_changesAt_64 rfl ?_
        refine v_iload_n C0 (pc' := 66) 3 rfl rfl dX1_changesAt_65 rfl ?_
        refine v_callVi0 C0 (av := [.int (xAt 36 F sl), .int lane]) (rest := [.int 1]) (ws' := wY cI bd U T F C B CM TR RO WY SU TH ST QU QN FE) (pc' := 69) hK hA (k_X1_isTagged l D cI bd U T F C B CM TR RO WY SU TH ST QU QN FE (xAt 36 F sl) lane (FR_in hF hat he)) (cwV 2 C0.2.2.2.2 gX1_changesAt_X1_isTagged rfl rfl rfl (by decide +kernel) ⟨Nat.le_of_ble_eq_true rfl, Nat.le_of_ble_eq_true rfl⟩) ⟨0, 1, _, _, _, rfl, rfl⟩ PLs.all rfl rfl (Nat.le_of_ble_eq_true rfl) ⟨Nat.zero_le _, Nat.zero_le _⟩ dX1_changesAt_66 rfl ?_
        refine v_if_eq C0 76 (pc' := 72) dX1_changesAt_69 (by decide) rfl (fun h5 => ?_) (fun h5 => ?_)
        · refine v_iconst C0 (pc' := 77) 1 (by decide) dX1_changesAt_76 rfl ?_
          refine v_iadd C0 (pc' := 78) dX1_changesAt_77 rfl ?_
          exact v_iret C0 hr hlk hK (by simp only [s_X1_changesAt, if_neg h1, if_neg h3, if_pos h4, if_pos h5]) dX1_changesAt_78
        · refine v_iconst C0 (pc' := 73) 0 (by decide) dX1_changesAt_72 rfl ?_
          refine v_goto C0 77 dX1_changesAt_73 (by decide) ?_
          refine v_iadd C0 (pc' := 78) dX1_changesAt_77 rfl ?_
          exact v_iret C0 hr hlk hK (by simp only [s_X1_changesAt, if_neg h1, if_neg h3, if_pos h4, if_neg h5]) dX1_changesAt_78
      · refine v_iconst C0 (pc' := 59) 0 (by decide) dX1_changesAt_58 rfl ?_
        refine v_goto C0 63 dX1_changesAt_59 (by decide) ?_
        refine v_aload_n C0 (pc' := 64) 1 rfl rfl dX1_changesAt_63 rfl ?_
        refine v_iload_n C0 (pc' := 65) 0 rfl rfl dX1_changesAt_64 rfl ?_
        refine v_iload_n C0 (pc' := 66) 3 rfl rfl dX1_changesAt_65 rfl ?_
        refine v_callVi0 C0 (av := [.int (xAt 36 F sl), .int lane]) (rest := [.int 0]) (ws' := wY cI bd U T F C B CM TR RO WY SU TH ST QU QN FE) (pc' := 69) hK hA (k_X1_isTagged l D cI bd U T F C B CM TR RO WY SU TH ST QU QN FE (xAt 36 F sl) lane (FR_in hF hat he)) (cwV 2 C0.2.2.2.2 gX1_changesAt_X1_isTagged rfl rfl rfl (by decide +kernel) ⟨Nat.le_of_ble_eq_true rfl, Nat.le_of_ble_eq_true rfl⟩) ⟨0, 1, _, _, _, rfl, rfl⟩ PLs.all rfl rfl (Nat.le_of_ble_eq_true rfl) ⟨Nat.zero_le _, Nat.zero_le _⟩ dX1_changesAt_66 rfl ?_
        refine v_if_eq C0 76 (pc' := 72) dX1_changesAt_69 (by decide) rfl (fun h6 => ?_) (fun h6 => ?_)
        · refine v_iconst C0 (pc' := 77) 1 (by decide) dX1_changesAt_76 rfl ?_
          refine v_iadd C0 (pc' := 78) dX1_changesAt_77 rfl ?_
          exact v_iret C0 hr hlk hK (by simp only [s_X1_changesAt, if_neg h1, if_neg h3, if_neg h4, if_pos h6]) dX1_changesAt_78
        · refine v_iconst C0 (pc' := 73) 0 (by decide) dX1_changesAt_72 rfl ?_
          refine v_goto C0 77 dX1_changesAt_73 (by decide) ?_
          refine v_iadd C0 (pc' := 78) dX1_changesAt_77 rfl ?_
          exact v_iret C0 hr hlk hK (by simp only [s_X1_changesAt, if_neg h1, if_neg h3, if_neg h4, if_neg h6]) dX1_changesAt_78
    · refine v_aload_n C0 (pc' := 28) 1 rfl rfl dX1_changesAt_27 rfl ?_
      refine v_get C0 hK (C := RX1) (T := TX1) (N := 15) (pc' := 31) 0 0 rfl rfl rfl (by decide) in_X1_changesAt fl_X1_changesAt_7 rfl dX1_changesAt_28 rfl ?_
      refine v_iload_n C0 (pc' := 32) 2 rfl rfl dX1_changesAt_31 rfl ?_
      refine v_ialx C0 hK (pc' := 33) 1 0 rfl rfl hat (by decide) dX1_changesAt_32 rfl ?_
      refine v_aload_n C0 (pc' := 34) 1 rfl rfl dX1_changesAt_33 rfl ?_
      refine v_get C0 hK (C := RX1) (T := TX1) (N := 15) (pc' := 37) 0 0 rfl rfl rfl (by decide) in_X1_changesAt fl_X1_changesAt_7 rfl dX1_changesAt_34 rfl ?_
      refine v_iload_n C0 (pc' := 38) 0 rfl rfl dX1_changesAt_37 rfl ?_
      refine v_ialx C0 hK (pc' := 39) 1 0 rfl rfl (FR_in hF hat he) (by decide) dX1_changesAt_38 rfl ?_
      refine v_icmp_ne C0 46 (pc' := 42) dX1_changesAt_39 (by decide) rfl (fun h7 => ?_) (fun h7 => ?_)
      · refine v_ldc C0 (pc' := 48) 1000000 (C0.2.2.2.2 _ (by decide +kernel)) dX1_changesAt_46 rfl ?_
        exact v_iret C0 hr hlk hK (by simp only [s_X1_changesAt, if_neg h1, if_pos h3, if_neg h7]) dX1_changesAt_48
      · refine v_iconst C0 (pc' := 43) 0 (by decide) dX1_changesAt_42 rfl ?_
        refine v_goto C0 48 dX1_changesAt_43 (by decide) ?_
        exact v_iret C0 hr hlk hK (by simp only [s_X1_changesAt, if_neg h1, if_pos h3, if_pos h7]) dX1_changesAt_48
def s_X1_changes_L1 (unit : Int32) (i1 : Nat) (FE_L1 : Nat → Int32) : Nat → Int32 := if (nI i1) = unit then (xPut 6 FE_L1 (nI i1) 0) else (xPut 6 FE_L1 (nI i1) 1000000)
def s_X1_changes_L2 (U : Nat → Int32) (T : Nat → Int32) (F : Nat → Int32) (C : Nat → Int32) (TR : Int32) (RO : Nat → Int32) (WY : Nat → Int32) (SU : Nat → Int32) (unit : Int32) (port : Int32) (i1 : Nat) (FE_L2 : Nat → Int32) : Nat → Int32 := if (s_X1_isLive F TR (s_X1_layTree_WY F C RO WY SU) ((nI i1) - (nI i1) / 36 * 36)) = 0 then (if (xAt 6 FE_L2 (((nI i1) - (nI i1) / 36 * 36) / 6)) ≤ 1000000 then (xPut 6 FE_L2 (((nI i1) - (nI i1) / 36 * 36) / 6) (xAt 6 FE_L2 (((nI i1) - (nI i1) / 36 * 36) / 6))) else (xPut 6 FE_L2 (((nI i1) - (nI i1) / 36 * 36) / 6) 1000000)) else (if (xAt 6 FE_L2 (((nI i1) - (nI i1) / 36 * 36) / 6)) ≤ ((xAt 6 FE_L2 ((xAt 36 F ((nI i1) - (nI i1) / 36 * 36)) / 6)) + (s_X1_changesAt U T F ((nI i1) - (nI i1) / 36 * 36) (xAt 36 U ((6 * unit) + port)))) then (xPut 6 FE_L2 (((nI i1) - (nI i1) / 36 * 36) / 6) (xAt 6 FE_L2 (((nI i1) - (nI i1) / 36 * 36) / 6))) else (xPut 6 FE_L2 (((nI i1) - (nI i1) / 36 * 36) / 6) ((xAt 6 FE_L2 ((xAt 36 F ((nI i1) - (nI i1) / 36 * 36)) / 6)) + (s_X1_changesAt U T F ((nI i1) - (nI i1) / 36 * 36) (xAt 36 U ((6 * unit) + port))))))
def s_X1_changes (U : Nat → Int32) (T : Nat → Int32) (F : Nat → Int32) (C : Nat → Int32) (TR : Int32) (RO : Nat → Int32) (WY : Nat → Int32) (SU : Nat → Int32) (FE : Nat → Int32) (unit : Int32) (port : Int32) (ou : Int32) (op : Int32) : Int32 := if (s_X1_isPort unit port) = 0 then 0 else (if (s_X1_isPort ou op) = 0 then 0 else (if (xAt 36 U ((6 * unit) + port)) = 0 then (-1) else (if (xAt 36 U ((6 * ou) + op)) = (xAt 36 U ((6 * unit) + port)) then (if (xAt 6 (lp (s_X1_changes_L2 U T F C TR RO WY SU unit port) 216 (lp (s_X1_changes_L1 unit) 6 FE)) ou) = 1000000 then (-1) else xAt 6 (lp (s_X1_changes_L2 U T F C TR RO WY SU unit port) 216 (lp (s_X1_changes_L1 unit) 6 FE)) ou) else (-1))))
def s_X1_changes_RO (U : Nat → Int32) (F : Nat → Int32) (RO : Nat → Int32) (unit : Int32) (port : Int32) (ou : Int32) (op : Int32) : Nat → Int32 := if (s_X1_isPort unit port) = 0 then RO else (if (s_X1_isPort ou op) = 0 then RO else (if (xAt 36 U ((6 * unit) + port)) = 0 then RO else (if (xAt 36 U ((6 * ou) + op)) = (xAt 36 U ((6 * unit) + port)) then ((s_X1_layTree_RO F RO)) else RO)))
def s_X1_changes_WY (U : Nat → Int32) (F : Nat → Int32) (C : Nat → Int32) (RO : Nat → Int32) (WY : Nat → Int32) (SU : Nat → Int32) (unit : Int32) (port : Int32) (ou : Int32) (op : Int32) : Nat → Int32 := if (s_X1_isPort unit port) = 0 then WY else (if (s_X1_isPort ou op) = 0 then WY else (if (xAt 36 U ((6 * unit) + port)) = 0 then WY else (if (xAt 36 U ((6 * ou) + op)) = (xAt 36 U ((6 * unit) + port)) then ((s_X1_layTree_WY F C RO WY SU)) else WY)))
def s_X1_changes_SU (U : Nat → Int32) (F : Nat → Int32) (C : Nat → Int32) (RO : Nat → Int32) (SU : Nat → Int32) (unit : Int32) (port : Int32) (ou : Int32) (op : Int32) : Nat → Int32 := if (s_X1_isPort unit port) = 0 then SU else (if (s_X1_isPort ou op) = 0 then SU else (if (xAt 36 U ((6 * unit) + port)) = 0 then SU else (if (xAt 36 U ((6 * ou) + op)) = (xAt 36 U ((6 * unit) + port)) then ((s_X1_layTree_SU F C RO SU)) else SU)))
def s_X1_changes_TH (unit : Int32) (port : Int32) (ou : Int32) (op : Int32) : Int32 := if (s_X1_isPort unit port) = 0 then 1 else (if (s_X1_isPort ou op) = 0 then 1 else (0))
def s_X1_changes_FE (U : Nat → Int32) (T : Nat → Int32) (F : Nat → Int32) (C : Nat → Int32) (TR : Int32) (RO : Nat → Int32) (WY : Nat → Int32) (SU : Nat → Int32) (FE : Nat → Int32) (unit : Int32) (port : Int32) (ou : Int32) (op : Int32) : Nat → Int32 := if (s_X1_isPort unit port) = 0 then FE else (if (s_X1_isPort ou op) = 0 then FE else (if (xAt 36 U ((6 * unit) + port)) = 0 then FE else (if (xAt 36 U ((6 * ou) + op)) = (xAt 36 U ((6 * unit) + port)) then ((lp (s_X1_changes_L2 U T F C TR RO WY SU unit port) 216 (lp (s_X1_changes_L1 unit) 6 FE))) else FE)))
set_option maxHeartbeats 4000000 in
set_option maxRecDepth 100000 in
theorem k_X1_changes (l : Launch) (D : va_G) (cI : ClassId) (bd : Nat → Nat) (U : Nat → Int32) (T : Nat → Int32) (F : Nat → Int32) (C : Nat → Int32) (B : Nat → Int32) (CM : Int32) (TR : Int32) (RO : Nat → Int32) (WY : Nat → Int32) (SU : Nat → Int32) (TH : Int32) (ST : Nat → Int32) (QU : Nat → Int32) (QN : Int32) (FE : Nat → Int32) (unit : Int32) (port : Int32) (ou : Int32) (op : Int32) (hb_TR : TR = 0 ∨ TR = 1) (hF : FR F) : Ki l yX1_changes wsX1_changes 2 45 0 0 D (TI cI) [.ref (bd 0), .int unit, .int port, .int ou, .int op] (wY cI bd U T F C B CM TR RO WY SU TH ST QU QN FE) (wY cI bd U T F C B CM TR (s_X1_changes_RO U F RO unit port ou op) (s_X1_changes_WY U F C RO WY SU unit port ou op) (s_X1_changes_SU U F C RO SU unit port ou op) (s_X1_changes_TH unit port ou op) ST QU QN (s_X1_changes_FE U T F C TR RO WY SU FE unit port ou op)) (s_X1_changes U T F C TR RO WY SU FE unit port ou op) := by
  refine Ki.of (cc := cX1_changes) (maxL := 9) (rt := .int) (lv0 := [(0, .ref (bd 0)), (1, .int unit), (2, .int port), (3, .int ou), (4, .int op)]) (by decide +kernel) rfl (Nat.le_of_ble_eq_true rfl) rfl ?_
  intro p e s m args below meth c A C0 hr hlk hK hA
  refine v_aload_n C0 (pc' := 1) 0 rfl rfl dX1_changes_0 rfl ?_
  refine v_iload_n C0 (pc' := 2) 1 rfl rfl dX1_changes_1 rfl ?_
  refine v_iload_n C0 (pc' := 3) 2 rfl rfl dX1_changes_2 rfl ?_
  refine v_callSi0 C0 (av := [.int unit, .int port]) (rest := [.ref (bd 0)]) (ws' := wY cI bd U T F C B CM TR RO WY SU TH ST QU QN FE) (pc' := 6) hK hA (k_X1_isPort l D cI unit port) (va_cwS 2 C0.2.2.2.2 gX1_changes_X1_isPort rfl rfl rfl (by decide +kernel) ⟨Nat.le_of_ble_eq_true rfl, Nat.le_of_ble_eq_true rfl⟩) PLs.nil rfl rfl (Nat.le_of_ble_eq_true rfl) ⟨Nat.zero_le _, Nat.zero_le _⟩ dX1_changes_3 rfl ?_
  refine v_if_eq C0 22 (pc' := 9) dX1_changes_6 (by decide) rfl (fun h1 => ?_) (fun h1 => ?_)
  · refine v_iconst C0 (pc' := 23) 1 (by decide) dX1_changes_22 rfl ?_
    refine v_put C0 hK (C := RX1) (T := TX1) (N := 15) (ws' := wY cI bd U T F C B CM TR RO WY SU 1 ST QU QN FE) (pc' := 26) 0 10 tyX1 rfl rfl rfl (by decide) (Nat.le_of_ble_eq_true rfl) tyX1_ok nmX1 in_X1_changes fl_X1_changes_43 rfl rfl rfl rfl rfl dX1_changes_23 rfl ?_
    refine v_aload_n C0 (pc' := 27) 0 rfl rfl dX1_changes_26 rfl ?_
    refine v_get C0 hK (C := RX1) (T := TX1) (N := 15) (pc' := 30) 0 10 rfl rfl rfl (by decide) in_X1_changes fl_X1_changes_43 rfl dX1_changes_27 rfl ?_
    refine v_if_ne C0 47 (pc' := 33) dX1_changes_30 (by decide) rfl (fun h2 => ?_) (fun h2 => ?_)
    · refine v_iconst C0 (pc' := 48) 0 (by decide) dX1_changes_47 rfl ?_
      refine v_istore C0 (lv' := [(5, .int 0), (0, .ref (bd 0)), (1, .int unit), (2, .int port), (3, .int ou), (4, .int op)]) (pc' := 50) (by decide) rfl dX1_changes_48 rfl ?_
      refine v_aload_n C0 (pc' := 51) 1 rfl rfl dX1_changes_50 rfl ?_
      refine v_get C0 hK (C := RX1) (T := TX1) (N := 15) (pc' := 54) 0 10 rfl rfl rfl (by decide) in_X1_changes fl_X1_changes_43 rfl dX1_changes_51 rfl ?_
      refine v_if_le C0 59 (pc' := 57) dX1_changes_54 (by decide) rfl (fun h3 => ?_) (fun h3 => ?_)
      · exact absurd h3 (by decide)
      · refine v_iconst C0 (pc' := 58) 0 (by decide) dX1_changes_57 rfl ?_
        refine v_world (ws' := wY cI bd U T F C B CM TR (s_X1_changes_RO U F RO unit port ou op) (s_X1_changes_WY U F C RO WY SU unit port ou op) (s_X1_changes_SU U F C RO SU unit port ou op) (s_X1_changes_TH unit port ou op) ST QU QN (s_X1_changes_FE U T F C TR RO WY SU FE unit port ou op)) (by simp only [s_X1_changes, s_X1_changes_RO, s_X1_changes_WY, s_X1_changes_SU, s_X1_changes_TH, s_X1_changes_FE, if_pos h1]) ?_
        exact v_iret C0 hr hlk hK (by simp only [s_X1_changes, s_X1_changes_RO, s_X1_changes_WY, s_X1_changes_SU, s_X1_changes_TH, s_X1_changes_FE, if_pos h1]) dX1_changes_58
    · exact absurd h2 (by decide)
  · refine v_iload_n C0 (pc' := 10) 3 rfl rfl dX1_changes_9 rfl ?_
    refine v_iload C0 (pc' := 12) 4 rfl dX1_changes_10 rfl ?_
    refine v_callSi0 C0 (av := [.int ou, .int op]) (rest := [.ref (bd 0)]) (ws' := wY cI bd U T F C B CM TR RO WY SU TH ST QU QN FE) (pc' := 15) hK hA (k_X1_isPort l D cI ou op) (va_cwS 2 C0.2.2.2.2 gX1_changes_X1_isPort rfl rfl rfl (by decide +kernel) ⟨Nat.le_of_ble_eq_true rfl, Nat.le_of_ble_eq_true rfl⟩) PLs.nil rfl rfl (Nat.le_of_ble_eq_true rfl) ⟨Nat.zero_le _, Nat.zero_le _⟩ dX1_changes_12 rfl ?_
    refine v_if_eq C0 22 (pc' := 18) dX1_changes_15 (by decide) rfl (fun h4 => ?_) (fun h4 => ?_)
    · refine v_iconst C0 (pc' := 23) 1 (by decide) dX1_changes_22 rfl ?_
      refine v_put C0 hK (C := RX1) (T := TX1) (N := 15) (ws' := wY cI bd U T F C B CM TR RO WY SU 1 ST QU QN FE) (pc' := 26) 0 10 tyX1 rfl rfl rfl (by decide) (Nat.le_of_ble_eq_true rfl) tyX1_ok nmX1 in_X1_changes fl_X1_changes_43 rfl rfl rfl rfl rfl dX1_changes_23 rfl ?_
      refine v_aload_n C0 (pc' := 27) 0 rfl rfl dX1_changes_26 rfl ?_
      refine v_get C0 hK (C := RX1) (T := TX1) (N := 15) (pc' := 30) 0 10 rfl rfl rfl (by decide) in_X1_changes fl_X1_changes_43 rfl dX1_changes_27 rfl ?_
      refine v_if_ne C0 47 (pc' := 33) dX1_changes_30 (by decide) rfl (fun h5 => ?_) (fun h5 => ?_)
      · refine v_iconst C0 (pc' := 48) 0 (by decide) dX1_changes_47 rfl ?_
        refine v_istore C0 (lv' := [(5, .int 0), (0, .ref (bd 0)), (1, .int unit), (2, .int port), (3, .int ou), (4, .int op)]) (pc' := 50) (by decide) rfl dX1_changes_48 rfl ?_
        refine v_aload_n C0 (pc' := 51) 1 rfl rfl dX1_changes_50 rfl ?_
        refine v_get C0 hK (C := RX1) (T := TX1) (N := 15) (pc' := 54) 0 10 rfl rfl rfl (by decide) in_X1_changes fl_X1_changes_43 rfl dX1_changes_51 rfl ?_
        refine v_if_le C0 59 (pc' := 57) dX1_changes_54 (by decide) rfl (fun h6 => ?_) (fun h6 => ?_)
        · exact absurd h6 (by decide)
        · refine v_iconst C0 (pc' := 58) 0 (by decide) dX1_changes_57 rfl ?_
          refine v_world (ws' := wY cI bd U T F C B CM TR (s_X1_changes_RO U F RO unit port ou op) (s_X1_changes_WY U F C RO WY SU unit port ou op) (s_X1_changes_SU U F C RO SU unit port ou op) (s_X1_changes_TH unit port ou op) ST QU QN (s_X1_changes_FE U T F C TR RO WY SU FE unit port ou op)) (by simp only [s_X1_changes, s_X1_changes_RO, s_X1_changes_WY, s_X1_changes_SU, s_X1_changes_TH, s_X1_changes_FE, if_neg h1, if_pos h4]) ?_
          exact v_iret C0 hr hlk hK (by simp only [s_X1_changes, s_X1_changes_RO, s_X1_changes_WY, s_X1_changes_SU, s_X1_changes_TH, s_X1_changes_FE, if_neg h1, if_pos h4]) dX1_changes_58
      · exact absurd h5 (by decide)
    · refine v_iconst C0 (pc' := 19) 0 (by decide) dX1_changes_18 rfl ?_
      refine v_goto C0 23 dX1_changes_19 (by decide) ?_
      refine v_put C0 hK (C := RX1) (T := TX1) (N := 15) (ws' := wY cI bd U T F C B CM TR RO WY SU 0 ST QU QN FE) (pc' := 26) 0 10 tyX1 rfl rfl rfl (by decide) (Nat.le_of_ble_eq_true rfl) tyX1_ok nmX1 in_X1_changes fl_X1_changes_43 rfl rfl rfl rfl rfl dX1_changes_23 rfl ?_
      refine v_aload_n C0 (pc' := 27) 0 rfl rfl dX1_changes_26 rfl ?_
      refine v_get C0 hK (C := RX1) (T := TX1) (N := 15) (pc' := 30) 0 10 rfl rfl rfl (by decide) in_X1_changes fl_X1_changes_43 rfl dX1_changes_27 rfl ?_
      refine v_if_ne C0 47 (pc' := 33) dX1_changes_30 (by decide) rfl (fun h7 => ?_) (fun h7 => ?_)
      · exact absurd (by decide) h7
      · refine v_aload_n C0 (pc' := 34) 0 rfl rfl dX1_changes_33 rfl ?_
        refine v_get C0 hK (C := RX1) (T := TX1) (N := 15) (pc' := 37) 0 0 rfl rfl rfl (by decide) in_X1_changes fl_X1_changes_7 rfl dX1_changes_34 rfl ?_
        refine v_bipush C0 (pc' := 39) 6 (by decide) dX1_changes_37 rfl ?_
        refine v_iload_n C0 (pc' := 40) 1 rfl rfl dX1_changes_39 rfl ?_
        refine v_imul C0 (pc' := 41) dX1_changes_40 rfl ?_
        refine v_iload_n C0 (pc' := 42) 2 rfl rfl dX1_changes_41 rfl ?_
        refine v_iadd C0 (pc' := 43) dX1_changes_42 rfl ?_
        refine v_ialx C0 hK (pc' := 44) 1 0 rfl rfl (isPort_in h1) (by decide) dX1_changes_43 rfl ?_
        refine v_goto C0 48 dX1_changes_44 (by decide) ?_
        refine v_istore C0 (lv' := [(5, .int (xAt 36 U ((6 * unit) + port))), (0, .ref (bd 0)), (1, .int unit), (2, .int port), (3, .int ou), (4, .int op)]) (pc' := 50) (by decide) rfl dX1_changes_48 rfl ?_
        refine v_aload_n C0 (pc' := 51) 1 rfl rfl dX1_changes_50 rfl ?_
        refine v_get C0 hK (C := RX1) (T := TX1) (N := 15) (pc' := 54) 0 10 rfl rfl rfl (by decide) in_X1_changes fl_X1_changes_43 rfl dX1_changes_51 rfl ?_
        refine v_if_le C0 59 (pc' := 57) dX1_changes_54 (by decide) rfl (fun h8 => ?_) (fun h8 => ?_)
        · refine v_iload C0 (pc' := 61) 0 rfl dX1_changes_59 rfl ?_
          refine v_if_eq C0 81 (pc' := 64) dX1_changes_61 (by decide) rfl (fun h9 => ?_) (fun h9 => ?_)
          · refine v_iconst C0 (pc' := 82) (-1) (by decide) dX1_changes_81 rfl ?_
            refine v_world (ws' := wY cI bd U T F C B CM TR (s_X1_changes_RO U F RO unit port ou op) (s_X1_changes_WY U F C RO WY SU unit port ou op) (s_X1_changes_SU U F C RO SU unit port ou op) (s_X1_changes_TH unit port ou op) ST QU QN (s_X1_changes_FE U T F C TR RO WY SU FE unit port ou op)) (by simp only [s_X1_changes, s_X1_changes_RO, s_X1_changes_WY, s_X1_changes_SU, s_X1_changes_TH, s_X1_changes_FE, if_neg h1, if_neg h4, if_pos h9]) ?_
            exact v_iret C0 hr hlk hK (by simp only [s_X1_changes, s_X1_changes_RO, s_X1_changes_WY, s_X1_changes_SU, s_X1_changes_TH, s_X1_changes_FE, if_neg h1, if_neg h4, if_pos h9]) dX1_changes_82
          · refine v_aload_n C0 (pc' := 65) 1 rfl rfl dX1_changes_64 rfl ?_
            refine v_get C0 hK (C := RX1) (T := TX1) (N := 15) (pc' := 68) 0 0 rfl rfl rfl (by decide) in_X1_changes fl_X1_changes_7 rfl dX1_changes_65 rfl ?_
            refine v_bipush C0 (pc' := 70) 6 (by decide) dX1_changes_68 rfl ?_
            refine v_iload_n C0 (pc' := 71) 4 rfl rfl dX1_changes_70 rfl ?_
            refine v_imul C0 (pc' := 72) dX1_changes_71 rfl ?_
            refine v_iload C0 (pc' := 74) 5 rfl dX1_changes_72 rfl ?_
            refine v_iadd C0 (pc' := 75) dX1_changes_74 rfl ?_
            refine v_ialx C0 hK (pc' := 76) 1 0 rfl rfl (isPort_in h4) (by decide) dX1_changes_75 rfl ?_
            refine v_iload C0 (pc' := 78) 0 rfl dX1_changes_76 rfl ?_
            refine v_icmp_eq C0 83 (pc' := 81) dX1_changes_78 (by decide) rfl (fun h10 => ?_) (fun h10 => ?_)
            · refine v_aload_n C0 (pc' := 84) 1 rfl rfl dX1_changes_83 rfl ?_
              refine v_callVv0 C0 (av := []) (rest := []) (ws' := wY cI bd U T F C B CM TR (s_X1_layTree_RO F RO) (s_X1_layTree_WY F C RO WY SU) (s_X1_layTree_SU F C RO SU) 0 ST QU QN FE) (pc' := 87) hK hA (k_X1_layTree l D cI bd U T F C B CM TR RO WY SU 0 ST QU QN FE  hF) (cwV 0 C0.2.2.2.2 gX1_changes_X1_layTree rfl rfl rfl (by decide +kernel) ⟨Nat.le_of_ble_eq_true rfl, Nat.le_of_ble_eq_true rfl⟩) ⟨0, 1, _, _, _, rfl, rfl⟩ PLs.all rfl rfl (Nat.le_of_ble_eq_true rfl) ⟨Nat.zero_le _, Nat.zero_le _⟩ dX1_changes_84 rfl ?_
              refine v_iconst C0 (pc' := 88) 0 (by decide) dX1_changes_87 rfl ?_
              refine v_istore C0 (lv' := [(6, .int 0), (5, .int (xAt 36 U ((6 * unit) + port))), (0, .ref (bd 0)), (1, .int unit), (2, .int port), (3, .int ou), (4, .int op)]) (pc' := 90) (by decide) rfl dX1_changes_88 rfl ?_
              suffices LP1 : ∀ (j1 i1 : Nat) (x1 : Int32) (FE_L1 : Nat → Int32), i1 + j1 = 6 → x1 = nI i1 → FE_L1 = lp (s_X1_changes_L1 unit) i1 FE → V p l e { frames := 2, cells := 0, slots := 0, locals := 45 } s m args below meth c D A 9 0 0 (MQ below (QI D (TI cI) (wY cI bd U T F C B CM TR (s_X1_changes_RO U F RO unit port ou op) (s_X1_changes_WY U F C RO WY SU unit port ou op) (s_X1_changes_SU U F C RO SU unit port ou op) (s_X1_changes_TH unit port ou op) ST QU QN (s_X1_changes_FE U T F C TR RO WY SU FE unit port ou op)) A (s_X1_changes U T F C TR RO WY SU FE unit port ou op)) args s 0 0 A) (wY cI bd U T F C B CM TR (s_X1_layTree_RO F RO) (s_X1_layTree_WY F C RO WY SU) (s_X1_layTree_SU F C RO SU) 0 ST QU QN FE_L1) [(6, .int x1), (5, .int (xAt 36 U ((6 * unit) + port))), (0, .ref (bd 0)), (1, .int unit), (2, .int port), (3, .int ou), (4, .int op)] 90 [] by
                exact v_sub (lv' := [(6, .int 0), (5, .int (xAt 36 U ((6 * unit) + port))), (0, .ref (bd 0)), (1, .int unit), (2, .int port), (3, .int ou), (4, .int op)]) [0, 1, 2, 3, 4, 5, 6] rfl (LP1 6 0 0 FE (Nat.zero_add _) nI_0.symm (lp_zero _ _).symm)
              intro j1
              induction j1 with
              | zero =>
                intro i1 x1 FE_L1 hi1 hx1 hs_L1
                have hi1 : 6 = i1 := by omega
                subst hi1
                subst hx1
                refine v_iload C0 (pc' := 92) 0 rfl dX1_changes_90 rfl ?_
                refine v_bipush C0 (pc' := 94) 6 (by decide) dX1_changes_92 rfl ?_
                refine v_icmp_ge C0 122 (pc' := 97) dX1_changes_94 (by decide) rfl (fun h11 => ?_) (fun h11 => ?_)
                · refine v_iconst C0 (pc' := 123) 0 (by decide) dX1_changes_122 rfl ?_
                  refine v_istore C0 (lv' := [(6, .int 0), (5, .int (xAt 36 U ((6 * unit) + port))), (0, .ref (bd 0)), (1, .int unit), (2, .int port), (3, .int ou), (4, .int op)]) (pc' := 125) (by decide) rfl dX1_changes_123 rfl ?_
                  suffices LP1 : ∀ (j1 i1 : Nat) (x1 : Int32) (FE_L2 : Nat → Int32), i1 + j1 = 216 → x1 = nI i1 → FE_L2 = lp (s_X1_changes_L2 U T F C TR RO WY SU unit port) i1 FE_L1 → V p l e { frames := 2, cells := 0, slots := 0, locals := 45 } s m args below meth c D A 9 0 0 (MQ below (QI D (TI cI) (wY cI bd U T F C B CM TR (s_X1_changes_RO U F RO unit port ou op) (s_X1_changes_WY U F C RO WY SU unit port ou op) (s_X1_changes_SU U F C RO SU unit port ou op) (s_X1_changes_TH unit port ou op) ST QU QN (s_X1_changes_FE U T F C TR RO WY SU FE unit port ou op)) A (s_X1_changes U T F C TR RO WY SU FE unit port ou op)) args s 0 0 A) (wY cI bd U T F C B CM TR (s_X1_layTree_RO F RO) (s_X1_layTree_WY F C RO WY SU) (s_X1_layTree_SU F C RO SU) 0 ST QU QN FE_L2) [(6, .int x1), (5, .int (xAt 36 U ((6 * unit) + port))), (0, .ref (bd 0)), (1, .int unit), (2, .int port), (3, .int ou), (4, .int op)] 125 [] by
                    exact v_sub (lv' := [(6, .int 0), (5, .int (xAt 36 U ((6 * unit) + port))), (0, .ref (bd 0)), (1, .int unit), (2, .int port), (3, .int ou), (4, .int op)]) [0, 1, 2, 3, 4, 5, 6] rfl (LP1 216 0 0 FE_L1 (Nat.zero_add _) nI_0.symm (lp_zero _ _).symm)
                  intro j1
                  induction j1 with
                  | zero =>
                    intro i1 x1 FE_L2 hi1 hx1 hs_L2
                    have hi1 : 216 = i1 := by omega
                    subst hi1
                    subst hx1
                    refine v_iload C0 (pc' := 127) 0 rfl dX1_changes_125 rfl ?_
                    refine v_sipush C0 (pc' := 130) 216 (by decide) dX1_changes_127 rfl ?_
                    refine v_icmp_ge C0 226 (pc' := 133) dX1_changes_130 (by decide) rfl (fun h12 => ?_) (fun h12 => ?_)
                    · refine v_aload_n C0 (pc' := 227) 2 rfl rfl dX1_changes_226 rfl ?_
                      refine v_get C0 hK (C := RX1) (T := TX1) (N := 15) (pc' := 230) 0 14 rfl rfl rfl (by decide) in_X1_changes fl_X1_changes_40 rfl dX1_changes_227 rfl ?_
                      refine v_iload_n C0 (pc' := 231) 5 rfl rfl dX1_changes_230 rfl ?_
                      refine v_ialx C0 hK (pc' := 232) 11 0 rfl rfl (isPort_vp h4).1 (by decide) dX1_changes_231 rfl ?_
                      refine v_ldc C0 (pc' := 234) 1000000 (C0.2.2.2.2 _ (by decide +kernel)) dX1_changes_232 rfl ?_
                      refine v_icmp_ne C0 241 (pc' := 237) dX1_changes_234 (by decide) rfl (fun h13 => ?_) (fun h13 => ?_)
                      · refine v_aload_n C0 (pc' := 242) 2 rfl rfl dX1_changes_241 rfl ?_
                        refine v_get C0 hK (C := RX1) (T := TX1) (N := 15) (pc' := 245) 0 14 rfl rfl rfl (by decide) in_X1_changes fl_X1_changes_40 rfl dX1_changes_242 rfl ?_
                        refine v_iload_n C0 (pc' := 246) 5 rfl rfl dX1_changes_245 rfl ?_
                        refine v_ialx C0 hK (pc' := 247) 11 0 rfl rfl (isPort_vp h4).1 (by decide) dX1_changes_246 rfl ?_
                        refine v_world (ws' := wY cI bd U T F C B CM TR (s_X1_changes_RO U F RO unit port ou op) (s_X1_changes_WY U F C RO WY SU unit port ou op) (s_X1_changes_SU U F C RO SU unit port ou op) (s_X1_changes_TH unit port ou op) ST QU QN (s_X1_changes_FE U T F C TR RO WY SU FE unit port ou op)) (by simp only [s_X1_changes, s_X1_changes_RO, s_X1_changes_WY, s_X1_changes_SU, s_X1_changes_TH, s_X1_changes_FE, if_neg h1, if_neg h4, if_neg h9, if_pos h10, if_pos h11, if_pos h12, if_neg h13, ← hs_L1, ← hs_L2]) ?_
                        exact v_iret C0 hr hlk hK (by simp only [s_X1_changes, s_X1_changes_RO, s_X1_changes_WY, s_X1_changes_SU, s_X1_changes_TH, s_X1_changes_FE, if_neg h1, if_neg h4, if_neg h9, if_pos h10, if_pos h11, if_pos h12, if_neg h13, ← hs_L1, ← hs_L2]) dX1_changes_247
                      · refine v_iconst C0 (pc' := 238) (-1) (by decide) dX1_changes_237 rfl ?_
                        refine v_goto C0 247 dX1_changes_238 (by decide) ?_
                        refine v_world (ws' := wY cI bd U T F C B CM TR (s_X1_changes_RO U F RO unit port ou op) (s_X1_changes_WY U F C RO WY SU unit port ou op) (s_X1_changes_SU U F C RO SU unit port ou op) (s_X1_changes_TH unit port ou op) ST QU QN (s_X1_changes_FE U T F C TR RO WY SU FE unit port ou op)) (by simp only [s_X1_changes, s_X1_changes_RO, s_X1_changes_WY, s_X1_changes_SU, s_X1_changes_TH, s_X1_changes_FE, if_neg h1, if_neg h4, if_neg h9, if_pos h10, if_pos h11, if_pos h12, if_pos h13, ← hs_L1, ← hs_L2]) ?_
                        exact v_iret C0 hr hlk hK (by simp only [s_X1_changes, s_X1_changes_RO, s_X1_changes_WY, s_X1_changes_SU, s_X1_changes_TH, s_X1_changes_FE, if_neg h1, if_neg h4, if_neg h9, if_pos h10, if_pos h11, if_pos h12, if_pos h13, ← hs_L1, ← hs_L2]) dX1_changes_247
                    · exact absurd (by decide +kernel) h12
                  | succ j1 ih1 =>
                    intro i1 x1 FE_L2 hi1 hx1 hs_L2
                    subst hx1
                    refine v_iload C0 (pc' := 127) 0 rfl dX1_changes_125 rfl ?_
                    refine v_sipush C0 (pc' := 130) 216 (by decide) dX1_changes_127 rfl ?_
                    refine v_icmp_ge C0 226 (pc' := 133) dX1_changes_130 (by decide) rfl (fun h14 => ?_) (fun h14 => ?_)
                    · exact absurd h14 (nI_ge (a := i1) (b := 216) (by omega) (by decide))
                    · refine v_iload C0 (pc' := 135) 0 rfl dX1_changes_133 rfl ?_
                      refine v_bipush C0 (pc' := 137) 36 (by decide) dX1_changes_135 rfl ?_
                      refine v_irem C0 (pc' := 138) (by decide) dX1_changes_137 rfl ?_
                      refine v_istore C0 (lv' := [(7, .int ((nI i1) - (nI i1) / 36 * 36)), (6, .int (nI i1)), (5, .int (xAt 36 U ((6 * unit) + port))), (0, .ref (bd 0)), (1, .int unit), (2, .int port), (3, .int ou), (4, .int op)]) (pc' := 140) (by decide) rfl dX1_changes_138 rfl ?_
                      refine v_aload_n C0 (pc' := 141) 3 rfl rfl dX1_changes_140 rfl ?_
                      refine v_iload C0 (pc' := 143) 0 rfl dX1_changes_141 rfl ?_
                      refine v_callVi0 C0 (av := [.int ((nI i1) - (nI i1) / 36 * 36)]) (rest := []) (ws' := wY cI bd U T F C B CM TR (s_X1_layTree_RO F RO) (s_X1_layTree_WY F C RO WY SU) (s_X1_layTree_SU F C RO SU) 0 ST QU QN FE_L2) (pc' := 146) hK hA (k_X1_isLive l D cI bd U T F C B CM TR (s_X1_layTree_RO F RO) (s_X1_layTree_WY F C RO WY SU) (s_X1_layTree_SU F C RO SU) 0 ST QU QN FE_L2 ((nI i1) - (nI i1) / 36 * 36) hb_TR (rem36_in (by omega)) hF) (cwV 1 C0.2.2.2.2 gX1_changes_X1_isLive rfl rfl rfl (by decide +kernel) ⟨Nat.le_of_ble_eq_true rfl, Nat.le_of_ble_eq_true rfl⟩) ⟨0, 1, _, _, _, rfl, rfl⟩ PLs.all rfl rfl (Nat.le_of_ble_eq_true rfl) ⟨Nat.zero_le _, Nat.zero_le _⟩ dX1_changes_143 rfl ?_
                      refine v_if_eq C0 176 (pc' := 149) dX1_changes_146 (by decide) rfl (fun h15 => ?_) (fun h15 => ?_)
                      · refine v_ldc C0 (pc' := 178) 1000000 (C0.2.2.2.2 _ (by decide +kernel)) dX1_changes_176 rfl ?_
                        refine v_istore C0 (lv' := [(8, .int 1000000), (7, .int ((nI i1) - (nI i1) / 36 * 36)), (6, .int (nI i1)), (5, .int (xAt 36 U ((6 * unit) + port))), (0, .ref (bd 0)), (1, .int unit), (2, .int port), (3, .int ou), (4, .int op)]) (pc' := 180) (by decide) rfl dX1_changes_178 rfl ?_
                        refine v_aload_n C0 (pc' := 181) 4 rfl rfl dX1_changes_180 rfl ?_
                        refine v_get C0 hK (C := RX1) (T := TX1) (N := 15) (pc' := 184) 0 14 rfl rfl rfl (by decide) in_X1_changes fl_X1_changes_40 rfl dX1_changes_181 rfl ?_
                        refine v_iload C0 (pc' := 186) 1 rfl dX1_changes_184 rfl ?_
                        refine v_bipush C0 (pc' := 188) 6 (by decide) dX1_changes_186 rfl ?_
                        refine v_idiv C0 (pc' := 189) (by decide) dX1_changes_188 rfl ?_
                        refine v_iload C0 (pc' := 191) 0 rfl dX1_changes_189 rfl ?_
                        refine v_aload_n C0 (pc' := 192) 4 rfl rfl dX1_changes_191 rfl ?_
                        refine v_get C0 hK (C := RX1) (T := TX1) (N := 15) (pc' := 195) 0 14 rfl rfl rfl (by decide) in_X1_changes fl_X1_changes_40 rfl dX1_changes_192 rfl ?_
                        refine v_iload C0 (pc' := 197) 1 rfl dX1_changes_195 rfl ?_
                        refine v_bipush C0 (pc' := 199) 6 (by decide) dX1_changes_197 rfl ?_
                        refine v_idiv C0 (pc' := 200) (by decide) dX1_changes_199 rfl ?_
                        refine v_ialx C0 hK (pc' := 201) 11 0 rfl rfl (div6_in (rem36_in (by omega))) (by decide) dX1_changes_200 rfl ?_
                        refine v_icmp_ge C0 209 (pc' := 204) dX1_changes_201 (by decide) rfl (fun h16 => ?_) (fun h16 => ?_)
                        · refine v_aload_n C0 (pc' := 210) 4 rfl rfl dX1_changes_209 rfl ?_
                          refine v_get C0 hK (C := RX1) (T := TX1) (N := 15) (pc' := 213) 0 14 rfl rfl rfl (by decide) in_X1_changes fl_X1_changes_40 rfl dX1_changes_210 rfl ?_
                          refine v_iload C0 (pc' := 215) 1 rfl dX1_changes_213 rfl ?_
                          refine v_bipush C0 (pc' := 217) 6 (by decide) dX1_changes_215 rfl ?_
                          refine v_idiv C0 (pc' := 218) (by decide) dX1_changes_217 rfl ?_
                          refine v_ialx C0 hK (pc' := 219) 11 0 rfl rfl (div6_in (rem36_in (by omega))) (by decide) dX1_changes_218 rfl ?_
                          refine v_iasx C0 hK (ws' := wY cI bd U T F C B CM TR (s_X1_layTree_RO F RO) (s_X1_layTree_WY F C RO WY SU) (s_X1_layTree_SU F C RO SU) 0 ST QU QN (xPut 6 FE_L2 (((nI i1) - (nI i1) / 36 * 36) / 6) (xAt 6 FE_L2 (((nI i1) - (nI i1) / 36 * 36) / 6)))) (pc' := 220) 11 0 rfl rfl rfl (div6_in (rem36_in (by omega))) (by decide) dX1_changes_219 rfl ?_
                          refine v_iinc C0 (lv' := [(6, .int ((nI i1) + 1)), (8, .int 1000000), (7, .int ((nI i1) - (nI i1) / 36 * 36)), (5, .int (xAt 36 U ((6 * unit) + port))), (0, .ref (bd 0)), (1, .int unit), (2, .int port), (3, .int ou), (4, .int op)]) (pc' := 223) 2 rfl ((nI i1) + 1) rfl (by decide) rfl dX1_changes_220 rfl ?_
                          refine v_goto C0 125 dX1_changes_223 (by decide) ?_
                          exact v_sub (lv' := [(6, .int ((nI i1) + 1)), (5, .int (xAt 36 U ((6 * unit) + port))), (0, .ref (bd 0)), (1, .int unit), (2, .int port), (3, .int ou), (4, .int op)]) [0, 3, 4, 5, 6, 7, 8] rfl (ih1 (i1 + 1) ((nI i1) + 1) (xPut 6 FE_L2 (((nI i1) - (nI i1) / 36 * 36) / 6) (xAt 6 FE_L2 (((nI i1) - (nI i1) / 36 * 36) / 6))) (by omega) (by rw [nI_1]) (by rw [lp_succ, ← hs_L2]; simp only [s_X1_changes_L2, if_neg h1, if_neg h4, if_neg h9, if_pos h10, if_pos h11, if_neg h14, if_pos h15, if_pos h16]))
                        · refine v_iload C0 (pc' := 206) 0 rfl dX1_changes_204 rfl ?_
                          refine v_goto C0 219 dX1_changes_206 (by decide) ?_
                          refine v_iasx C0 hK (ws' := wY cI bd U T F C B CM TR (s_X1_layTree_RO F RO) (s_X1_layTree_WY F C RO WY SU) (s_X1_layTree_SU F C RO SU) 0 ST QU QN (xPut 6 FE_L2 (((nI i1) - (nI i1) / 36 * 36) / 6) 1000000)) (pc' := 220) 11 0 rfl rfl rfl (div6_in (rem36_in (by omega))) (by decide) dX1_changes_219 rfl ?_
                          refine v_iinc C0 (lv' := [(6, .int ((nI i1) + 1)), (8, .int 1000000), (7, .int ((nI i1) - (nI i1) / 36 * 36)), (5, .int (xAt 36 U ((6 * unit) + port))), (0, .ref (bd 0)), (1, .int unit), (2, .int port), (3, .int ou), (4, .int op)]) (pc' := 223) 2 rfl ((nI i1) + 1) rfl (by decide) rfl dX1_changes_220 rfl ?_
                          refine v_goto C0 125 dX1_changes_223 (by decide) ?_
                          exact v_sub (lv' := [(6, .int ((nI i1) + 1)), (5, .int (xAt 36 U ((6 * unit) + port))), (0, .ref (bd 0)), (1, .int unit), (2, .int port), (3, .int ou), (4, .int op)]) [0, 3, 4, 5, 6, 7, 8] rfl (ih1 (i1 + 1) ((nI i1) + 1) (xPut 6 FE_L2 (((nI i1) - (nI i1) / 36 * 36) / 6) 1000000) (by omega) (by rw [nI_1]) (by rw [lp_succ, ← hs_L2]; simp only [s_X1_changes_L2, if_neg h1, if_neg h4, if_neg h9, if_pos h10, if_pos h11, if_neg h14, if_pos h15, if_neg h16]))
                      · refine v_aload_n C0 (pc' := 150) 3 rfl rfl dX1_changes_149 rfl ?_
                        refine v_get C0 hK (C := RX1) (T := TX1) (N := 15) (pc' := 153) 0 14 rfl rfl rfl (by decide) in_X1_changes fl_X1_changes_40 rfl dX1_changes_150 rfl ?_
                        refine v_aload_n C0 (pc' := 154) 3 rfl rfl dX1_changes_153 rfl ?_
                        refine v_get C0 hK (C := RX1) (T := TX1) (N := 15) (pc' := 157) 0 2 rfl rfl rfl (by decide) in_X1_changes fl_X1_changes_16 rfl dX1_changes_154 rfl ?_
                        refine v_iload C0 (pc' := 159) 0 rfl dX1_changes_157 rfl ?_
                        refine v_ialx C0 hK (pc' := 160) 3 0 rfl rfl (rem36_in (by omega)) (by decide) dX1_changes_159 rfl ?_
                        refine v_bipush C0 (pc' := 162) 6 (by decide) dX1_changes_160 rfl ?_
                        refine v_idiv C0 (pc' := 163) (by decide) dX1_changes_162 rfl ?_
                        refine v_ialx C0 hK (pc' := 164) 11 0 rfl rfl (div6_in (FR_in hF (rem36_in (by omega)) (live_end h15))) (by decide) dX1_changes_163 rfl ?_
                        refine v_aload_n C0 (pc' := 165) 3 rfl rfl dX1_changes_164 rfl ?_
                        refine v_iload C0 (pc' := 167) 0 rfl dX1_changes_165 rfl ?_
                        refine v_iload C0 (pc' := 169) 2 rfl dX1_changes_167 rfl ?_
                        refine v_callVi0 C0 (av := [.int ((nI i1) - (nI i1) / 36 * 36), .int (xAt 36 U ((6 * unit) + port))]) (rest := [.int (xAt 6 FE_L2 ((xAt 36 F ((nI i1) - (nI i1) / 36 * 36)) / 6))]) (ws' := wY cI bd U T F C B CM TR (s_X1_layTree_RO F RO) (s_X1_layTree_WY F C RO WY SU) (s_X1_layTree_SU F C RO SU) 0 ST QU QN FE_L2) (pc' := 172) hK hA (k_X1_changesAt l D cI bd U T F C B CM TR (s_X1_layTree_RO F RO) (s_X1_layTree_WY F C RO WY SU) (s_X1_layTree_SU F C RO SU) 0 ST QU QN FE_L2 ((nI i1) - (nI i1) / 36 * 36) (xAt 36 U ((6 * unit) + port)) (rem36_in (by omega)) hF (live_end h15)) (cwV 2 C0.2.2.2.2 gX1_changes_X1_changesAt rfl rfl rfl (by decide +kernel) ⟨Nat.le_of_ble_eq_true rfl, Nat.le_of_ble_eq_true rfl⟩) ⟨0, 1, _, _, _, rfl, rfl⟩ PLs.all rfl rfl (Nat.le_of_ble_eq_true rfl) ⟨Nat.zero_le _, Nat.zero_le _⟩ dX1_changes_169 rfl ?_
                        refine v_iadd C0 (pc' := 173) dX1_changes_172 rfl ?_
                        refine v_goto C0 178 dX1_changes_173 (by decide) ?_
                        refine v_istore C0 (lv' := [(8, .int ((xAt 6 FE_L2 ((xAt 36 F ((nI i1) - (nI i1) / 36 * 36)) / 6)) + (s_X1_changesAt U T F ((nI i1) - (nI i1) / 36 * 36) (xAt 36 U ((6 * unit) + port))))), (7, .int ((nI i1) - (nI i1) / 36 * 36)), (6, .int (nI i1)), (5, .int (xAt 36 U ((6 * unit) + port))), (0, .ref (bd 0)), (1, .int unit), (2, .int port), (3, .int ou), (4, .int op)]) (pc' := 180) (by decide) rfl dX1_changes_178 rfl ?_
                        refine v_aload_n C0 (pc' := 181) 4 rfl rfl dX1_changes_180 rfl ?_
                        refine v_get C0 hK (C := RX1) (T := TX1) (N := 15) (pc' := 184) 0 14 rfl rfl rfl (by decide) in_X1_changes fl_X1_changes_40 rfl dX1_changes_181 rfl ?_
                        refine v_iload C0 (pc' := 186) 1 rfl dX1_changes_184 rfl ?_
                        refine v_bipush C0 (pc' := 188) 6 (by decide) dX1_changes_186 rfl ?_
                        refine v_idiv C0 (pc' := 189) (by decide) dX1_changes_188 rfl ?_
                        refine v_iload C0 (pc' := 191) 0 rfl dX1_changes_189 rfl ?_
                        refine v_aload_n C0 (pc' := 192) 4 rfl rfl dX1_changes_191 rfl ?_
                        refine v_get C0 hK (C := RX1) (T := TX1) (N := 15) (pc' := 195) 0 14 rfl rfl rfl (by decide) in_X1_changes fl_X1_changes_40 rfl dX1_changes_192 rfl ?_
                        refine v_iload C0 (pc' := 197) 1 rfl dX1_changes_195 rfl ?_
                        refine v_bipush C0 (pc' := 199) 6 (by decide) dX1_changes_197 rfl ?_
                        refine v_idiv C0 (pc' := 200) (by decide) dX1_changes_199 rfl ?_
                        refine v_ialx C0 hK (pc' := 201) 11 0 rfl rfl (div6_in (rem36_in (by omega))) (by decide) dX1_changes_200 rfl ?_
                        refine v_icmp_ge C0 209 (pc' := 204) dX1_changes_201 (by decide) rfl (fun h17 => ?_) (fun h17 => ?_)
                        · refine v_aload_n C0 (pc' := 210) 4 rfl rfl dX1_changes_209 rfl ?_
                          refine v_get C0 hK (C := RX1) (T := TX1) (N := 15) (pc' := 213) 0 14 rfl rfl rfl (by decide) in_X1_changes fl_X1_changes_40 rfl dX1_changes_210 rfl ?_
                          refine v_iload C0 (pc' := 215) 1 rfl dX1_changes_213 rfl ?_
                          refine v_bipush C0 (pc' := 217) 6 (by decide) dX1_changes_215 rfl ?_
                          refine v_idiv C0 (pc' := 218) (by decide) dX1_changes_217 rfl ?_
                          refine v_ialx C0 hK (pc' := 219) 11 0 rfl rfl (div6_in (rem36_in (by omega))) (by decide) dX1_changes_218 rfl ?_
                          refine v_iasx C0 hK (ws' := wY cI bd U T F C B CM TR (s_X1_layTree_RO F RO) (s_X1_layTree_WY F C RO WY SU) (s_X1_layTree_SU F C RO SU) 0 ST QU QN (xPut 6 FE_L2 (((nI i1) - (nI i1) / 36 * 36) / 6) (xAt 6 FE_L2 (((nI i1) - (nI i1) / 36 * 36) / 6)))) (pc' := 220) 11 0 rfl rfl rfl (div6_in (rem36_in (by omega))) (by decide) dX1_changes_219 rfl ?_
                          refine v_iinc C0 (lv' := [(6, .int ((nI i1) + 1)), (8, .int ((xAt 6 FE_L2 ((xAt 36 F ((nI i1) - (nI i1) / 36 * 36)) / 6)) + (s_X1_changesAt U T F ((nI i1) - (nI i1) / 36 * 36) (xAt 36 U ((6 * unit) + port))))), (7, .int ((nI i1) - (nI i1) / 36 * 36)), (5, .int (xAt 36 U ((6 * unit) + port))), (0, .ref (bd 0)), (1, .int unit), (2, .int port), (3, .int ou), (4, .int op)]) (pc' := 223) 2 rfl ((nI i1) + 1) rfl (by decide) rfl dX1_changes_220 rfl ?_
                          refine v_goto C0 125 dX1_changes_223 (by decide) ?_
                          exact v_sub (lv' := [(6, .int ((nI i1) + 1)), (5, .int (xAt 36 U ((6 * unit) + port))), (0, .ref (bd 0)), (1, .int unit), (2, .int port), (3, .int ou), (4, .int op)]) [0, 3, 4, 5, 6, 7, 8] rfl (ih1 (i1 + 1) ((nI i1) + 1) (xPut 6 FE_L2 (((nI i1) - (nI i1) / 36 * 36) / 6) (xAt 6 FE_L2 (((nI i1) - (nI i1) / 36 * 36) / 6))) (by omega) (by rw [nI_1]) (by rw [lp_succ, ← hs_L2]; simp only [s_X1_changes_L2, if_neg h1, if_neg h4, if_neg h9, if_pos h10, if_pos h11, if_neg h14, if_neg h15, if_pos h17]))
                        · refine v_iload C0 (pc' := 206) 0 rfl dX1_changes_204 rfl ?_
                          refine v_goto C0 219 dX1_changes_206 (by decide) ?_
                          refine v_iasx C0 hK (ws' := wY cI bd U T F C B CM TR (s_X1_layTree_RO F RO) (s_X1_layTree_WY F C RO WY SU) (s_X1_layTree_SU F C RO SU) 0 ST QU QN (xPut 6 FE_L2 (((nI i1) - (nI i1) / 36 * 36) / 6) ((xAt 6 FE_L2 ((xAt 36 F ((nI i1) - (nI i1) / 36 * 36)) / 6)) + (s_X1_changesAt U T F ((nI i1) - (nI i1) / 36 * 36) (xAt 36 U ((6 * unit) + port)))))) (pc' := 220) 11 0 rfl rfl rfl (div6_in (rem36_in (by omega))) (by decide) dX1_changes_219 rfl ?_
                          refine v_iinc C0 (lv' := [(6, .int ((nI i1) + 1)), (8, .int ((xAt 6 FE_L2 ((xAt 36 F ((nI i1) - (nI i1) / 36 * 36)) / 6)) + (s_X1_changesAt U T F ((nI i1) - (nI i1) / 36 * 36) (xAt 36 U ((6 * unit) + port))))), (7, .int ((nI i1) - (nI i1) / 36 * 36)), (5, .int (xAt 36 U ((6 * unit) + port))), (0, .ref (bd 0)), (1, .int unit), (2, .int port), (3, .int ou), (4, .int op)]) (pc' := 223) 2 rfl ((nI i1) + 1) rfl (by decide) rfl dX1_changes_220 rfl ?_
                          refine v_goto C0 125 dX1_changes_223 (by decide) ?_
                          exact v_sub (lv' := [(6, .int ((nI i1) + 1)), (5, .int (xAt 36 U ((6 * unit) + port))), (0, .ref (bd 0)), (1, .int unit), (2, .int port), (3, .int ou), (4, .int op)]) [0, 3, 4, 5, 6, 7, 8] rfl (ih1 (i1 + 1) ((nI i1) + 1) (xPut 6 FE_L2 (((nI i1) - (nI i1) / 36 * 36) / 6) ((xAt 6 FE_L2 ((xAt 36 F ((nI i1) - (nI i1) / 36 * 36)) / 6)) + (s_X1_changesAt U T F ((nI i1) - (nI i1) / 36 * 36) (xAt 36 U ((6 * unit) + port))))) (by omega) (by rw [nI_1]) (by rw [lp_succ, ← hs_L2]; simp only [s_X1_changes_L2, if_neg h1, if_neg h4, if_neg h9, if_pos h10, if_pos h11, if_neg h14, if_neg h15, if_neg h17]))
                · exact absurd (by decide +kernel) h11
              | succ j1 ih1 =>
                intro i1 x1 FE_L1 hi1 hx1 hs_L1
                subst hx1
                refine v_iload C0 (pc' := 92) 0 rfl dX1_changes_90 rfl ?_
                refine v_bipush C0 (pc' := 94) 6 (by decide) dX1_changes_92 rfl ?_
                refine v_icmp_ge C0 122 (pc' := 97) dX1_changes_94 (by decide) rfl (fun h18 => ?_) (fun h18 => ?_)
                · exact absurd h18 (nI_ge (a := i1) (b := 6) (by omega) (by decide))
                · refine v_aload_n C0 (pc' := 98) 2 rfl rfl dX1_changes_97 rfl ?_
                  refine v_get C0 hK (C := RX1) (T := TX1) (N := 15) (pc' := 101) 0 14 rfl rfl rfl (by decide) in_X1_changes fl_X1_changes_40 rfl dX1_changes_98 rfl ?_
                  refine v_iload C0 (pc' := 103) 0 rfl dX1_changes_101 rfl ?_
                  refine v_iload C0 (pc' := 105) 0 rfl dX1_changes_103 rfl ?_
                  refine v_iload_n C0 (pc' := 106) 3 rfl rfl dX1_changes_105 rfl ?_
                  refine v_icmp_ne C0 113 (pc' := 109) dX1_changes_106 (by decide) rfl (fun h19 => ?_) (fun h19 => ?_)
                  · refine v_ldc C0 (pc' := 115) 1000000 (C0.2.2.2.2 _ (by decide +kernel)) dX1_changes_113 rfl ?_
                    refine v_iasx C0 hK (ws' := wY cI bd U T F C B CM TR (s_X1_layTree_RO F RO) (s_X1_layTree_WY F C RO WY SU) (s_X1_layTree_SU F C RO SU) 0 ST QU QN (xPut 6 FE_L1 (nI i1) 1000000)) (pc' := 116) 11 0 rfl rfl rfl (vp_in_nI (by omega) (by decide)) (by decide) dX1_changes_115 rfl ?_
                    refine v_iinc C0 (lv' := [(6, .int ((nI i1) + 1)), (5, .int (xAt 36 U ((6 * unit) + port))), (0, .ref (bd 0)), (1, .int unit), (2, .int port), (3, .int ou), (4, .int op)]) (pc' := 119) 0 rfl ((nI i1) + 1) rfl (by decide) rfl dX1_changes_116 rfl ?_
                    refine v_goto C0 90 dX1_changes_119 (by decide) ?_
                    exact v_sub (lv' := [(6, .int ((nI i1) + 1)), (5, .int (xAt 36 U ((6 * unit) + port))), (0, .ref (bd 0)), (1, .int unit), (2, .int port), (3, .int ou), (4, .int op)]) [0, 1, 2, 3, 4, 5, 6] rfl (ih1 (i1 + 1) ((nI i1) + 1) (xPut 6 FE_L1 (nI i1) 1000000) (by omega) (by rw [nI_1]) (by rw [lp_succ, ← hs_L1]; simp only [s_X1_changes_L1, if_neg h1, if_neg h4, if_neg h9, if_pos h10, if_neg h18, if_neg h19]))
                  · refine v_iconst C0 (pc' := 110) 0 (by decide) dX1_changes_109 rfl ?_
                    refine v_goto C0 115 dX1_changes_110 (by decide) ?_
                    refine v_iasx C0 hK (ws' := wY cI bd U T F C B CM TR (s_X1_layTree_RO F RO) (s_X1_layTree_WY F C RO WY SU) (s_X1_layTree_SU F C RO SU) 0 ST QU QN (xPut 6 FE_L1 (nI i1) 0)) (pc' := 116) 11 0 rfl rfl rfl (vp_in_nI (by omega) (by decide)) (by decide) dX1_changes_115 rfl ?_
                    refine v_iinc C0 (lv' := [(6, .int ((nI i1) + 1)), (5, .int (xAt 36 U ((6 * unit) + port))), (0, .ref (bd 0)), (1, .int unit), (2, .int port), (3, .int ou), (4, .int op)]) (pc' := 119) 0 rfl ((nI i1) + 1) rfl (by decide) rfl dX1_changes_116 rfl ?_
                    refine v_goto C0 90 dX1_changes_119 (by decide) ?_
                    exact v_sub (lv' := [(6, .int ((nI i1) + 1)), (5, .int (xAt 36 U ((6 * unit) + port))), (0, .ref (bd 0)), (1, .int unit), (2, .int port), (3, .int ou), (4, .int op)]) [0, 1, 2, 3, 4, 5, 6] rfl (ih1 (i1 + 1) ((nI i1) + 1) (xPut 6 FE_L1 (nI i1) 0) (by omega) (by rw [nI_1]) (by rw [lp_succ, ← hs_L1]; simp only [s_X1_changes_L1, if_neg h1, if_neg h4, if_neg h9, if_pos h10, if_neg h18, if_pos h19]))
            · refine v_iconst C0 (pc' := 82) (-1) (by decide) dX1_changes_81 rfl ?_
              refine v_world (ws' := wY cI bd U T F C B CM TR (s_X1_changes_RO U F RO unit port ou op) (s_X1_changes_WY U F C RO WY SU unit port ou op) (s_X1_changes_SU U F C RO SU unit port ou op) (s_X1_changes_TH unit port ou op) ST QU QN (s_X1_changes_FE U T F C TR RO WY SU FE unit port ou op)) (by simp only [s_X1_changes, s_X1_changes_RO, s_X1_changes_WY, s_X1_changes_SU, s_X1_changes_TH, s_X1_changes_FE, if_neg h1, if_neg h4, if_neg h9, if_neg h10]) ?_
              exact v_iret C0 hr hlk hK (by simp only [s_X1_changes, s_X1_changes_RO, s_X1_changes_WY, s_X1_changes_SU, s_X1_changes_TH, s_X1_changes_FE, if_neg h1, if_neg h4, if_neg h9, if_neg h10]) dX1_changes_82
        · exact absurd (by decide) h8
