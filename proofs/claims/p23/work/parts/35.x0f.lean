def okU (x : Int32) : Prop := ¬ x < 0 ∧ x < 6
def okL (x : Int32) : Prop := ¬ x < 1 ∧ x ≤ 15
theorem hgood_IAE : ∀ w ∈ Cond.classLink RX0 84 xIAE :: Cond.initialized xIAE :: vx_atS RX0 88 xIAE xNames, vx_ot w = true := by decide +kernel
theorem hgood_ISE : ∀ w ∈ Cond.classLink RX0 67 xISE :: Cond.initialized xISE :: vx_atS RX0 71 xISE xNames, vx_ot w = true := by decide +kernel
theorem hng_IAE : ∀ w ∈ (vx_atS RX0 88 xIAE xNames).filter (fun w => !goodWord w), w ∈ xB xIAE := by decide +kernel
theorem hng_ISE : ∀ w ∈ (vx_atS RX0 71 xISE xNames).filter (fun w => !goodWord w), w ∈ xB xISE := by decide +kernel
theorem xk_X0_checkUnit_IAE : Cond.classLink RX0 84 xIAE ∈ wsX0_checkUnit := by decide +kernel
theorem xi_X0_checkUnit_IAE : Cond.initialized xIAE ∈ wsX0_checkUnit := by decide +kernel
theorem xa_X0_checkUnit_IAE : ∀ w ∈ (vx_atS RX0 88 xIAE xNames).filter goodWord, w ∈ wsX0_checkUnit := fun _ h => List.mem_cons_of_mem _ (List.mem_append_right _ h)
theorem xk_X0_checkLane_IAE : Cond.classLink RX0 84 xIAE ∈ wsX0_checkLane := by decide +kernel
theorem xi_X0_checkLane_IAE : Cond.initialized xIAE ∈ wsX0_checkLane := by decide +kernel
theorem xa_X0_checkLane_IAE : ∀ w ∈ (vx_atS RX0 88 xIAE xNames).filter goodWord, w ∈ wsX0_checkLane := fun _ h => List.mem_cons_of_mem _ (List.mem_append_right _ h)
theorem xk_X0_slotOf_IAE : Cond.classLink RX0 84 xIAE ∈ wsX0_slotOf := by decide +kernel
theorem xi_X0_slotOf_IAE : Cond.initialized xIAE ∈ wsX0_slotOf := by decide +kernel
theorem xa_X0_slotOf_IAE : ∀ w ∈ (vx_atS RX0 88 xIAE xNames).filter goodWord, w ∈ wsX0_slotOf := fun _ h => List.mem_cons_of_mem _ (List.mem_append_right _ h)
theorem xk_X0_slotWithCable_NSE : Cond.classLink RX0 172 xNSE ∈ wsX0_slotWithCable := by decide +kernel
theorem xi_X0_slotWithCable_NSE : Cond.initialized xNSE ∈ wsX0_slotWithCable := by decide +kernel
theorem xa_X0_slotWithCable_NSE : ∀ w ∈ vnAt.filter goodWord, w ∈ wsX0_slotWithCable := fun _ h => List.mem_cons_of_mem _ (List.mem_append_left _ (List.mem_append_right _ h))
theorem xk_X0_untag_ISE : Cond.classLink RX0 67 xISE ∈ wsX0_untag := by decide +kernel
theorem xi_X0_untag_ISE : Cond.initialized xISE ∈ wsX0_untag := by decide +kernel
theorem xa_X0_untag_ISE : ∀ w ∈ (vx_atS RX0 71 xISE xNames).filter goodWord, w ∈ wsX0_untag := fun _ h => List.mem_cons_of_mem _ (List.mem_append_left _ (List.mem_append_right _ h))
theorem xk_X0_tag_ISE : Cond.classLink RX0 67 xISE ∈ wsX0_tag := by decide +kernel
theorem xi_X0_tag_ISE : Cond.initialized xISE ∈ wsX0_tag := by decide +kernel
theorem xa_X0_tag_ISE : ∀ w ∈ (vx_atS RX0 71 xISE xNames).filter goodWord, w ∈ wsX0_tag := fun _ h => List.mem_cons_of_mem _ (List.mem_append_left _ (List.mem_append_right _ h))
theorem xk_X0_cable_IAE : Cond.classLink RX0 84 xIAE ∈ wsX0_cable := by decide +kernel
theorem xi_X0_cable_IAE : Cond.initialized xIAE ∈ wsX0_cable := by decide +kernel
theorem xa_X0_cable_IAE : ∀ w ∈ (vx_atS RX0 88 xIAE xNames).filter goodWord, w ∈ wsX0_cable := fun _ h => List.mem_cons_of_mem _ (List.mem_append_left _ (List.mem_append_right _ h))
theorem xk_X0_cable_ISE : Cond.classLink RX0 67 xISE ∈ wsX0_cable := by decide +kernel
theorem xi_X0_cable_ISE : Cond.initialized xISE ∈ wsX0_cable := by decide +kernel
theorem xa_X0_cable_ISE : ∀ w ∈ (vx_atS RX0 71 xISE xNames).filter goodWord, w ∈ wsX0_cable := fun _ h => List.mem_cons_of_mem _ (List.mem_append_right _ h)
set_option maxHeartbeats 4000000 in
set_option maxRecDepth 100000 in
theorem k_X0_checkUnit (l : Launch) (D : va_G) (cI : ClassId)  (unit : Int32) (hu : okU unit) : Kv l yX0_checkUnit wsX0_checkUnit 0 0 0 0 D (TI cI) [.int unit] ([]) ([]) := by
  refine Kv.of (cc := cX0_checkUnit) (maxL := 1) (lv0 := [(0, .int unit)]) (by decide +kernel) rfl (Nat.le_of_ble_eq_true rfl) rfl ?_
  intro p e s m args below meth c A C0 hr hlk hK hA
  refine v_iload_n C0 (pc' := 1) 0 rfl rfl dX0_checkUnit_0 rfl ?_
  refine v_if_lt C0 10 (pc' := 4) dX0_checkUnit_1 (by decide) rfl (fun h1 => ?_) (fun h1 => ?_)
  · exact absurd h1 hu.1
  · refine v_iload_n C0 (pc' := 5) 0 rfl rfl dX0_checkUnit_4 rfl ?_
    refine v_bipush C0 (pc' := 7) 6 (by decide) dX0_checkUnit_5 rfl ?_
    refine v_icmp_lt C0 20 (pc' := 10) dX0_checkUnit_7 (by decide) rfl (fun h2 => ?_) (fun h2 => ?_)
    · exact v_vret C0 hr hlk hK dX0_checkUnit_20
    · exact absurd hu.2 h2
set_option maxHeartbeats 4000000 in
set_option maxRecDepth 100000 in
theorem kx_X0_checkUnit_IAE (l : Launch) (hst : l.stackTraces = false) (D : va_G) (cI : ClassId)  (unit : Int32) (hu : ¬ okU unit) : Kx l yX0_checkUnit wsX0_checkUnit 6 82 D (TI cI) [.int unit] ([]) xIAE := by
  refine Kx.of (cc := cX0_checkUnit) (maxL := 1) (lv0 := [(0, .int unit)]) (by decide +kernel) rfl (Nat.le_of_ble_eq_true rfl) rfl ?_
  intro p e s m args below meth c A C0 hT0 hlk hK hA hEN
  refine v_iload_n C0 (pc' := 1) 0 rfl rfl dX0_checkUnit_0 rfl ?_
  refine v_if_lt C0 10 (pc' := 4) dX0_checkUnit_1 (by decide) rfl (fun h1 => ?_) (fun h1 => ?_)
  · exact v_throw C0 hst hEN hT0 hlk hK rfl (E := xIAE) (text := "a switch is 0 to 5") (by decide +kernel) xk_X0_checkUnit_IAE xi_X0_checkUnit_IAE xa_X0_checkUnit_IAE hng_IAE hgood_IAE (by decide +kernel) (by decide +kernel) dX0_checkUnit_10 dX0_checkUnit_13 dX0_checkUnit_14 dX0_checkUnit_16 dX0_checkUnit_19 (Nat.le_of_ble_eq_true rfl) (Nat.le_of_ble_eq_true rfl) (Nat.le_refl _) (Nat.le_refl _) (Nat.le_refl _) (Nat.le_refl _)
  · refine v_iload_n C0 (pc' := 5) 0 rfl rfl dX0_checkUnit_4 rfl ?_
    refine v_bipush C0 (pc' := 7) 6 (by decide) dX0_checkUnit_5 rfl ?_
    refine v_icmp_lt C0 20 (pc' := 10) dX0_checkUnit_7 (by decide) rfl (fun h2 => ?_) (fun h2 => ?_)
    · exact absurd ⟨h1, h2⟩ hu
    · exact v_throw C0 hst hEN hT0 hlk hK rfl (E := xIAE) (text := "a switch is 0 to 5") (by decide +kernel) xk_X0_checkUnit_IAE xi_X0_checkUnit_IAE xa_X0_checkUnit_IAE hng_IAE hgood_IAE (by decide +kernel) (by decide +kernel) dX0_checkUnit_10 dX0_checkUnit_13 dX0_checkUnit_14 dX0_checkUnit_16 dX0_checkUnit_19 (Nat.le_of_ble_eq_true rfl) (Nat.le_of_ble_eq_true rfl) (Nat.le_refl _) (Nat.le_refl _) (Nat.le_refl _) (Nat.le_refl _)
set_option maxHeartbeats 4000000 in
set_option maxRecDepth 100000 in
theorem k_X0_checkLane (l : Launch) (D : va_G) (cI : ClassId)  (lane : Int32) (hl : okL lane) : Kv l yX0_checkLane wsX0_checkLane 0 0 0 0 D (TI cI) [.int lane] ([]) ([]) := by
  refine Kv.of (cc := cX0_checkLane) (maxL := 1) (lv0 := [(0, .int lane)]) (by decide +kernel) rfl (Nat.le_of_ble_eq_true rfl) rfl ?_
  intro p e s m args below meth c A C0 hr hlk hK hA
  refine v_iload_n C0 (pc' := 1) 0 rfl rfl dX0_checkLane_0 rfl ?_
  refine v_iconst C0 (pc' := 2) 1 (by decide) dX0_checkLane_1 rfl ?_
  refine v_icmp_lt C0 11 (pc' := 5) dX0_checkLane_2 (by decide) rfl (fun h1 => ?_) (fun h1 => ?_)
  · exact absurd h1 hl.1
  · refine v_iload_n C0 (pc' := 6) 0 rfl rfl dX0_checkLane_5 rfl ?_
    refine v_bipush C0 (pc' := 8) 15 (by decide) dX0_checkLane_6 rfl ?_
    refine v_icmp_le C0 21 (pc' := 11) dX0_checkLane_8 (by decide) rfl (fun h2 => ?_) (fun h2 => ?_)
    · exact v_vret C0 hr hlk hK dX0_checkLane_21
    · exact absurd hl.2 h2
set_option maxHeartbeats 4000000 in
set_option maxRecDepth 100000 in
theorem kx_X0_checkLane_IAE (l : Launch) (hst : l.stackTraces = false) (D : va_G) (cI : ClassId)  (lane : Int32) (hl : ¬ okL lane) : Kx l yX0_checkLane wsX0_checkLane 6 82 D (TI cI) [.int lane] ([]) xIAE := by
  refine Kx.of (cc := cX0_checkLane) (maxL := 1) (lv0 := [(0, .int lane)]) (by decide +kernel) rfl (Nat.le_of_ble_eq_true rfl) rfl ?_
  intro p e s m args below meth c A C0 hT0 hlk hK hA hEN
  refine v_iload_n C0 (pc' := 1) 0 rfl rfl dX0_checkLane_0 rfl ?_
  refine v_iconst C0 (pc' := 2) 1 (by decide) dX0_checkLane_1 rfl ?_
  refine v_icmp_lt C0 11 (pc' := 5) dX0_checkLane_2 (by decide) rfl (fun h1 => ?_) (fun h1 => ?_)
  · exact v_throw C0 hst hEN hT0 hlk hK rfl (E := xIAE) (text := "a lane is 1 to 15") (by decide +kernel) xk_X0_checkLane_IAE xi_X0_checkLane_IAE xa_X0_checkLane_IAE hng_IAE hgood_IAE (by decide +kernel) (by decide +kernel) dX0_checkLane_11 dX0_checkLane_14 dX0_checkLane_15 dX0_checkLane_17 dX0_checkLane_20 (Nat.le_of_ble_eq_true rfl) (Nat.le_of_ble_eq_true rfl) (Nat.le_refl _) (Nat.le_refl _) (Nat.le_refl _) (Nat.le_refl _)
  · refine v_iload_n C0 (pc' := 6) 0 rfl rfl dX0_checkLane_5 rfl ?_
    refine v_bipush C0 (pc' := 8) 15 (by decide) dX0_checkLane_6 rfl ?_
    refine v_icmp_le C0 21 (pc' := 11) dX0_checkLane_8 (by decide) rfl (fun h2 => ?_) (fun h2 => ?_)
    · exact absurd ⟨h1, h2⟩ hl
    · exact v_throw C0 hst hEN hT0 hlk hK rfl (E := xIAE) (text := "a lane is 1 to 15") (by decide +kernel) xk_X0_checkLane_IAE xi_X0_checkLane_IAE xa_X0_checkLane_IAE hng_IAE hgood_IAE (by decide +kernel) (by decide +kernel) dX0_checkLane_11 dX0_checkLane_14 dX0_checkLane_15 dX0_checkLane_17 dX0_checkLane_20 (Nat.le_of_ble_eq_true rfl) (Nat.le_of_ble_eq_true rfl) (Nat.le_refl _) (Nat.le_refl _) (Nat.le_refl _) (Nat.le_refl _)
def s_X0_slotOf (unit : Int32) (port : Int32) : Int32 := (unit * 6) + port
set_option maxHeartbeats 4000000 in
set_option maxRecDepth 100000 in
theorem k_X0_slotOf (l : Launch) (D : va_G) (cI : ClassId)  (unit : Int32) (port : Int32) (hu : okU unit) (hp : okU port) : Ki l yX0_slotOf wsX0_slotOf 1 20 0 0 D (TI cI) [.int unit, .int port] ([]) ([]) (s_X0_slotOf unit port) := by
  refine Ki.of (cc := cX0_slotOf) (maxL := 2) (rt := .int) (lv0 := [(0, .int unit), (1, .int port)]) (by decide +kernel) rfl (Nat.le_of_ble_eq_true rfl) rfl ?_
  intro p e s m args below meth c A C0 hr hlk hK hA
  refine v_iload_n C0 (pc' := 1) 0 rfl rfl dX0_slotOf_0 rfl ?_
  refine v_callSv0 C0 (av := [.int unit]) (rest := []) (ws' := []) (pc' := 4) hK hA (k_X0_checkUnit l D cI unit hu) (va_cwS 1 C0.2.2.2.2 gX0_slotOf_X0_checkUnit rfl rfl rfl (by decide +kernel) ⟨Nat.le_of_ble_eq_true rfl, Nat.le_of_ble_eq_true rfl⟩) PLs.nil rfl rfl (Nat.le_of_ble_eq_true rfl) ⟨Nat.zero_le _, Nat.zero_le _⟩ dX0_slotOf_1 rfl ?_
  refine v_iload_n C0 (pc' := 5) 1 rfl rfl dX0_slotOf_4 rfl ?_
  refine v_if_lt C0 14 (pc' := 8) dX0_slotOf_5 (by decide) rfl (fun h1 => ?_) (fun h1 => ?_)
  · exact absurd h1 hp.1
  · refine v_iload_n C0 (pc' := 9) 1 rfl rfl dX0_slotOf_8 rfl ?_
    refine v_bipush C0 (pc' := 11) 6 (by decide) dX0_slotOf_9 rfl ?_
    refine v_icmp_lt C0 24 (pc' := 14) dX0_slotOf_11 (by decide) rfl (fun h2 => ?_) (fun h2 => ?_)
    · refine v_iload_n C0 (pc' := 25) 0 rfl rfl dX0_slotOf_24 rfl ?_
      refine v_bipush C0 (pc' := 27) 6 (by decide) dX0_slotOf_25 rfl ?_
      refine v_imul C0 (pc' := 28) dX0_slotOf_27 rfl ?_
      refine v_iload_n C0 (pc' := 29) 1 rfl rfl dX0_slotOf_28 rfl ?_
      refine v_iadd C0 (pc' := 30) dX0_slotOf_29 rfl ?_
      exact v_iret C0 hr hlk hK (by simp only [s_X0_slotOf, if_neg h1, if_pos h2]) dX0_slotOf_30
    · exact absurd hp.2 h2
set_option maxHeartbeats 4000000 in
set_option maxRecDepth 100000 in
theorem kx_X0_slotOf_IAE (l : Launch) (hst : l.stackTraces = false) (D : va_G) (cI : ClassId)  (unit : Int32) (port : Int32) (hb : ¬ (okU unit ∧ okU port)) : Kx l yX0_slotOf wsX0_slotOf 7 102 D (TI cI) [.int unit, .int port] ([]) xIAE := by
  refine Kx.of (cc := cX0_slotOf) (maxL := 2) (lv0 := [(0, .int unit), (1, .int port)]) (by decide +kernel) rfl (Nat.le_of_ble_eq_true rfl) rfl ?_
  intro p e s m args below meth c A C0 hT0 hlk hK hA hEN
  refine v_iload_n C0 (pc' := 1) 0 rfl rfl dX0_slotOf_0 rfl ?_
  by_cases hu : okU unit
  · refine v_callSv0 C0 (av := [.int unit]) (rest := []) (ws' := []) (pc' := 4) hK hA (k_X0_checkUnit l D cI unit hu) (va_cwS 1 C0.2.2.2.2 gX0_slotOf_X0_checkUnit rfl rfl rfl (by decide +kernel) ⟨Nat.le_of_ble_eq_true rfl, Nat.le_of_ble_eq_true rfl⟩) PLs.nil rfl rfl (Nat.le_of_ble_eq_true rfl) ⟨Nat.zero_le _, Nat.zero_le _⟩ dX0_slotOf_1 rfl ?_
    refine v_iload_n C0 (pc' := 5) 1 rfl rfl dX0_slotOf_4 rfl ?_
    refine v_if_lt C0 14 (pc' := 8) dX0_slotOf_5 (by decide) rfl (fun h1 => ?_) (fun h1 => ?_)
    · exact v_throw C0 hst hEN hT0 hlk hK rfl (E := xIAE) (text := "a port is 0 to 5") (by decide +kernel) xk_X0_slotOf_IAE xi_X0_slotOf_IAE xa_X0_slotOf_IAE hng_IAE hgood_IAE (by decide +kernel) (by decide +kernel) dX0_slotOf_14 dX0_slotOf_17 dX0_slotOf_18 dX0_slotOf_20 dX0_slotOf_23 (Nat.le_of_ble_eq_true rfl) (Nat.le_of_ble_eq_true rfl) (Nat.le_refl _) (Nat.le_refl _) (Nat.le_refl _) (Nat.le_refl _)
    · refine v_iload_n C0 (pc' := 9) 1 rfl rfl dX0_slotOf_8 rfl ?_
      refine v_bipush C0 (pc' := 11) 6 (by decide) dX0_slotOf_9 rfl ?_
      refine v_icmp_lt C0 24 (pc' := 14) dX0_slotOf_11 (by decide) rfl (fun h2 => ?_) (fun h2 => ?_)
      · exact absurd ⟨hu, h1, h2⟩ hb
      · exact v_throw C0 hst hEN hT0 hlk hK rfl (E := xIAE) (text := "a port is 0 to 5") (by decide +kernel) xk_X0_slotOf_IAE xi_X0_slotOf_IAE xa_X0_slotOf_IAE hng_IAE hgood_IAE (by decide +kernel) (by decide +kernel) dX0_slotOf_14 dX0_slotOf_17 dX0_slotOf_18 dX0_slotOf_20 dX0_slotOf_23 (Nat.le_of_ble_eq_true rfl) (Nat.le_of_ble_eq_true rfl) (Nat.le_refl _) (Nat.le_refl _) (Nat.le_refl _) (Nat.le_refl _)
  · exact v_callSx_out C0 (av := [.int unit]) (rest := []) hK hA hEN (kx_X0_checkUnit_IAE l hst D cI unit hu) (va_cwS 1 C0.2.2.2.2 gX0_slotOf_X0_checkUnit rfl rfl rfl (by decide +kernel) ⟨Nat.le_of_ble_eq_true rfl, Nat.le_of_ble_eq_true rfl⟩) PLs.nil rfl rfl (Nat.le_of_ble_eq_true rfl) ⟨Nat.le_refl _, Nat.le_refl _⟩ dX0_slotOf_1 hT0 hlk (Nat.le_refl _) (Nat.le_refl _)
def s_X0_placeOf (unit : Int32) (lane : Int32) : Int32 := (unit * 16) + lane
set_option maxHeartbeats 4000000 in
set_option maxRecDepth 100000 in
theorem k_X0_placeOf (l : Launch) (D : va_G) (cI : ClassId)  (unit : Int32) (lane : Int32) (hu : okU unit) (hl : okL lane) : Ki l yX0_placeOf wsX0_placeOf 1 20 0 0 D (TI cI) [.int unit, .int lane] ([]) ([]) (s_X0_placeOf unit lane) := by
  refine Ki.of (cc := cX0_placeOf) (maxL := 2) (rt := .int) (lv0 := [(0, .int unit), (1, .int lane)]) (by decide +kernel) rfl (Nat.le_of_ble_eq_true rfl) rfl ?_
  intro p e s m args below meth c A C0 hr hlk hK hA
  refine v_iload_n C0 (pc' := 1) 0 rfl rfl dX0_placeOf_0 rfl ?_
  refine v_callSv0 C0 (av := [.int unit]) (rest := []) (ws' := []) (pc' := 4) hK hA (k_X0_checkUnit l D cI unit hu) (va_cwS 1 C0.2.2.2.2 gX0_placeOf_X0_checkUnit rfl rfl rfl (by decide +kernel) ⟨Nat.le_of_ble_eq_true rfl, Nat.le_of_ble_eq_true rfl⟩) PLs.nil rfl rfl (Nat.le_of_ble_eq_true rfl) ⟨Nat.zero_le _, Nat.zero_le _⟩ dX0_placeOf_1 rfl ?_
  refine v_iload_n C0 (pc' := 5) 1 rfl rfl dX0_placeOf_4 rfl ?_
  refine v_callSv0 C0 (av := [.int lane]) (rest := []) (ws' := []) (pc' := 8) hK hA (k_X0_checkLane l D cI lane hl) (va_cwS 1 C0.2.2.2.2 gX0_placeOf_X0_checkLane rfl rfl rfl (by decide +kernel) ⟨Nat.le_of_ble_eq_true rfl, Nat.le_of_ble_eq_true rfl⟩) PLs.nil rfl rfl (Nat.le_of_ble_eq_true rfl) ⟨Nat.zero_le _, Nat.zero_le _⟩ dX0_placeOf_5 rfl ?_
  refine v_iload_n C0 (pc' := 9) 0 rfl rfl dX0_placeOf_8 rfl ?_
  refine v_bipush C0 (pc' := 11) 16 (by decide) dX0_placeOf_9 rfl ?_
  refine v_imul C0 (pc' := 12) dX0_placeOf_11 rfl ?_
  refine v_iload_n C0 (pc' := 13) 1 rfl rfl dX0_placeOf_12 rfl ?_
  refine v_iadd C0 (pc' := 14) dX0_placeOf_13 rfl ?_
  exact v_iret C0 hr hlk hK rfl dX0_placeOf_14
set_option maxHeartbeats 4000000 in
set_option maxRecDepth 100000 in
theorem kx_X0_placeOf_IAE (l : Launch) (hst : l.stackTraces = false) (D : va_G) (cI : ClassId)  (unit : Int32) (lane : Int32) (hb : ¬ (okU unit ∧ okL lane)) : Kx l yX0_placeOf wsX0_placeOf 7 102 D (TI cI) [.int unit, .int lane] ([]) xIAE := by
  refine Kx.of (cc := cX0_placeOf) (maxL := 2) (lv0 := [(0, .int unit), (1, .int lane)]) (by decide +kernel) rfl (Nat.le_of_ble_eq_true rfl) rfl ?_
  intro p e s m args below meth c A C0 hT0 hlk hK hA hEN
  refine v_iload_n C0 (pc' := 1) 0 rfl rfl dX0_placeOf_0 rfl ?_
  by_cases hu : okU unit
  · refine v_callSv0 C0 (av := [.int unit]) (rest := []) (ws' := []) (pc' := 4) hK hA (k_X0_checkUnit l D cI unit hu) (va_cwS 1 C0.2.2.2.2 gX0_placeOf_X0_checkUnit rfl rfl rfl (by decide +kernel) ⟨Nat.le_of_ble_eq_true rfl, Nat.le_of_ble_eq_true rfl⟩) PLs.nil rfl rfl (Nat.le_of_ble_eq_true rfl) ⟨Nat.zero_le _, Nat.zero_le _⟩ dX0_placeOf_1 rfl ?_
    refine v_iload_n C0 (pc' := 5) 1 rfl rfl dX0_placeOf_4 rfl ?_
    exact v_callSx_out C0 (av := [.int lane]) (rest := []) hK hA hEN (kx_X0_checkLane_IAE l hst D cI lane (fun q => hb ⟨hu, q⟩)) (va_cwS 1 C0.2.2.2.2 gX0_placeOf_X0_checkLane rfl rfl rfl (by decide +kernel) ⟨Nat.le_of_ble_eq_true rfl, Nat.le_of_ble_eq_true rfl⟩) PLs.nil rfl rfl (Nat.le_of_ble_eq_true rfl) ⟨Nat.le_refl _, Nat.le_refl _⟩ dX0_placeOf_5 hT0 hlk (Nat.le_refl _) (Nat.le_refl _)
  · exact v_callSx_out C0 (av := [.int unit]) (rest := []) hK hA hEN (kx_X0_checkUnit_IAE l hst D cI unit hu) (va_cwS 1 C0.2.2.2.2 gX0_placeOf_X0_checkUnit rfl rfl rfl (by decide +kernel) ⟨Nat.le_of_ble_eq_true rfl, Nat.le_of_ble_eq_true rfl⟩) PLs.nil rfl rfl (Nat.le_of_ble_eq_true rfl) ⟨Nat.le_refl _, Nat.le_refl _⟩ dX0_placeOf_1 hT0 hlk (Nat.le_refl _) (Nat.le_refl _)
def s_X0_slotWithCable (unit : Int32) (port : Int32) : Int32 := s_X0_slotOf unit port
set_option maxHeartbeats 4000000 in
set_option maxRecDepth 100000 in
theorem k_X0_slotWithCable (l : Launch) (D : va_G) (cI : ClassId) (ad : Nat → Nat) (U : Nat → Int32) (T : Nat → Int32) (F : Nat → Int32) (C : Nat → Int32) (B : Nat → Int32) (RU : Nat → Int32) (RC : Nat → Int32) (WU : Nat → Int32) (ST : Nat → Int32) (RP : Nat → Int32) (RN : Int32) (WT : Nat → Int32) (SM : Nat → Int32) (CC : Int32) (TR : Int32) (unit : Int32) (port : Int32) (hu : okU unit) (hp : okU port) (hc : ¬ s_X0_hasCable F (s_X0_slotOf unit port) = 0) : Ki l yX0_slotWithCable wsX0_slotWithCable 2 42 0 0 D (TI cI) [.ref (ad 0), .int unit, .int port] (wX cI ad U T F C B RU RC WU ST RP RN WT SM CC TR) (wX cI ad U T F C B RU RC WU ST RP RN WT SM CC TR) (s_X0_slotWithCable unit port) := by
  refine Ki.of (cc := cX0_slotWithCable) (maxL := 4) (rt := .int) (lv0 := [(0, .ref (ad 0)), (1, .int unit), (2, .int port)]) (by decide +kernel) rfl (Nat.le_of_ble_eq_true rfl) rfl ?_
  intro p e s m args below meth c A C0 hr hlk hK hA
  refine v_iload_n C0 (pc' := 1) 1 rfl rfl dX0_slotWithCable_0 rfl ?_
  refine v_iload_n C0 (pc' := 2) 2 rfl rfl dX0_slotWithCable_1 rfl ?_
  refine v_callSi0 C0 (av := [.int unit, .int port]) (rest := []) (ws' := wX cI ad U T F C B RU RC WU ST RP RN WT SM CC TR) (pc' := 5) hK hA (k_X0_slotOf l D cI unit port hu hp) (va_cwS 2 C0.2.2.2.2 gX0_slotWithCable_X0_slotOf rfl rfl rfl (by decide +kernel) ⟨Nat.le_of_ble_eq_true rfl, Nat.le_of_ble_eq_true rfl⟩) PLs.nil rfl rfl (Nat.le_of_ble_eq_true rfl) ⟨Nat.zero_le _, Nat.zero_le _⟩ dX0_slotWithCable_2 rfl ?_
  refine v_istore_n C0 (lv' := [(3, .int (s_X0_slotOf unit port)), (0, .ref (ad 0)), (1, .int unit), (2, .int port)]) (pc' := 6) rfl (by decide) rfl dX0_slotWithCable_5 rfl ?_
  refine v_aload_n C0 (pc' := 7) 1 rfl rfl dX0_slotWithCable_6 rfl ?_
  refine v_iload_n C0 (pc' := 8) 0 rfl rfl dX0_slotWithCable_7 rfl ?_
  refine v_callVi0 C0 (av := [.int (s_X0_slotOf unit port)]) (rest := []) (ws' := wX cI ad U T F C B RU RC WU ST RP RN WT SM CC TR) (pc' := 11) hK hA (k_X0_hasCable l D cI ad U T F C B RU RC WU ST RP RN WT SM CC TR (s_X0_slotOf unit port)) (cwV 1 C0.2.2.2.2 gX0_slotWithCable_X0_hasCable rfl rfl rfl (by decide +kernel) ⟨Nat.le_of_ble_eq_true rfl, Nat.le_of_ble_eq_true rfl⟩) ⟨0, 0, _, _, _, rfl, rfl⟩ PLs.all rfl rfl (Nat.le_of_ble_eq_true rfl) ⟨Nat.zero_le _, Nat.zero_le _⟩ dX0_slotWithCable_8 rfl ?_
  refine v_if_ne C0 24 (pc' := 14) dX0_slotWithCable_11 (by decide) rfl (fun h1 => ?_) (fun h1 => ?_)
  · refine v_iload_n C0 (pc' := 25) 0 rfl rfl dX0_slotWithCable_24 rfl ?_
    exact v_iret C0 hr hlk hK (by simp only [s_X0_slotWithCable, if_neg h1]) dX0_slotWithCable_25
  · exact absurd h1 hc
set_option maxHeartbeats 4000000 in
set_option maxRecDepth 100000 in
theorem kx_X0_slotWithCable_IAE (l : Launch) (hst : l.stackTraces = false) (D : va_G) (cI : ClassId) (ad : Nat → Nat) (U : Nat → Int32) (T : Nat → Int32) (F : Nat → Int32) (C : Nat → Int32) (B : Nat → Int32) (RU : Nat → Int32) (RC : Nat → Int32) (WU : Nat → Int32) (ST : Nat → Int32) (RP : Nat → Int32) (RN : Int32) (WT : Nat → Int32) (SM : Nat → Int32) (CC : Int32) (TR : Int32) (unit : Int32) (port : Int32) (hb : ¬ (okU unit ∧ okU port)) : Kx l yX0_slotWithCable wsX0_slotWithCable 8 123 D (TI cI) [.ref (ad 0), .int unit, .int port] (wX cI ad U T F C B RU RC WU ST RP RN WT SM CC TR) xIAE := by
  refine Kx.of (cc := cX0_slotWithCable) (maxL := 4) (lv0 := [(0, .ref (ad 0)), (1, .int unit), (2, .int port)]) (by decide +kernel) rfl (Nat.le_of_ble_eq_true rfl) rfl ?_
  intro p e s m args below meth c A C0 hT0 hlk hK hA hEN
  refine v_iload_n C0 (pc' := 1) 1 rfl rfl dX0_slotWithCable_0 rfl ?_
  refine v_iload_n C0 (pc' := 2) 2 rfl rfl dX0_slotWithCable_1 rfl ?_
  exact v_callSx_out C0 (av := [.int unit, .int port]) (rest := []) hK hA hEN (kx_X0_slotOf_IAE l hst D cI unit port hb) (va_cwS 2 C0.2.2.2.2 gX0_slotWithCable_X0_slotOf rfl rfl rfl (by decide +kernel) ⟨Nat.le_of_ble_eq_true rfl, Nat.le_of_ble_eq_true rfl⟩) PLs.nil rfl rfl (Nat.le_of_ble_eq_true rfl) ⟨Nat.le_refl _, Nat.le_refl _⟩ dX0_slotWithCable_2 hT0 hlk (Nat.le_refl _) (Nat.le_refl _)
set_option maxHeartbeats 4000000 in
set_option maxRecDepth 100000 in
theorem kx_X0_slotWithCable_NSE (l : Launch) (hst : l.stackTraces = false) (D : va_G) (cI : ClassId) (ad : Nat → Nat) (U : Nat → Int32) (T : Nat → Int32) (F : Nat → Int32) (C : Nat → Int32) (B : Nat → Int32) (RU : Nat → Int32) (RC : Nat → Int32) (WU : Nat → Int32) (ST : Nat → Int32) (RP : Nat → Int32) (RN : Int32) (WT : Nat → Int32) (SM : Nat → Int32) (CC : Int32) (TR : Int32) (unit : Int32) (port : Int32) (hu : okU unit) (hp : okU port) (hc : s_X0_hasCable F (s_X0_slotOf unit port) = 0) : Kx l yX0_slotWithCable wsX0_slotWithCable 6 82 D (TI cI) [.ref (ad 0), .int unit, .int port] (wX cI ad U T F C B RU RC WU ST RP RN WT SM CC TR) xNSE := by
  refine Kx.of (cc := cX0_slotWithCable) (maxL := 4) (lv0 := [(0, .ref (ad 0)), (1, .int unit), (2, .int port)]) (by decide +kernel) rfl (Nat.le_of_ble_eq_true rfl) rfl ?_
  intro p e s m args below meth c A C0 hT0 hlk hK hA hEN
  refine v_iload_n C0 (pc' := 1) 1 rfl rfl dX0_slotWithCable_0 rfl ?_
  refine v_iload_n C0 (pc' := 2) 2 rfl rfl dX0_slotWithCable_1 rfl ?_
  refine v_callSi0 C0 (av := [.int unit, .int port]) (rest := []) (ws' := wX cI ad U T F C B RU RC WU ST RP RN WT SM CC TR) (pc' := 5) hK hA (k_X0_slotOf l D cI unit port hu hp) (va_cwS 2 C0.2.2.2.2 gX0_slotWithCable_X0_slotOf rfl rfl rfl (by decide +kernel) ⟨Nat.le_of_ble_eq_true rfl, Nat.le_of_ble_eq_true rfl⟩) PLs.nil rfl rfl (Nat.le_of_ble_eq_true rfl) ⟨Nat.zero_le _, Nat.zero_le _⟩ dX0_slotWithCable_2 rfl ?_
  refine v_istore_n C0 (lv' := [(3, .int (s_X0_slotOf unit port)), (0, .ref (ad 0)), (1, .int unit), (2, .int port)]) (pc' := 6) rfl (by decide) rfl dX0_slotWithCable_5 rfl ?_
  refine v_aload_n C0 (pc' := 7) 1 rfl rfl dX0_slotWithCable_6 rfl ?_
  refine v_iload_n C0 (pc' := 8) 0 rfl rfl dX0_slotWithCable_7 rfl ?_
  refine v_callVi0 C0 (av := [.int (s_X0_slotOf unit port)]) (rest := []) (ws' := wX cI ad U T F C B RU RC WU ST RP RN WT SM CC TR) (pc' := 11) hK hA (k_X0_hasCable l D cI ad U T F C B RU RC WU ST RP RN WT SM CC TR (s_X0_slotOf unit port)) (cwV 1 C0.2.2.2.2 gX0_slotWithCable_X0_hasCable rfl rfl rfl (by decide +kernel) ⟨Nat.le_of_ble_eq_true rfl, Nat.le_of_ble_eq_true rfl⟩) ⟨0, 0, _, _, _, rfl, rfl⟩ PLs.all rfl rfl (Nat.le_of_ble_eq_true rfl) ⟨Nat.zero_le _, Nat.zero_le _⟩ dX0_slotWithCable_8 rfl ?_
  refine v_if_ne C0 24 (pc' := 14) dX0_slotWithCable_11 (by decide) rfl (fun h1 => ?_) (fun h1 => ?_)
  · exact absurd hc h1
  · exact v_throwN C0 hst hEN hT0 hlk hK (text := "there is no cable at the port") xk_X0_slotWithCable_NSE xi_X0_slotWithCable_NSE xa_X0_slotWithCable_NSE (by decide +kernel) dX0_slotWithCable_14 dX0_slotWithCable_17 dX0_slotWithCable_18 dX0_slotWithCable_20 dX0_slotWithCable_23 (Nat.le_of_ble_eq_true rfl) (Nat.le_of_ble_eq_true rfl) (Nat.le_refl _) (Nat.le_refl _) (Nat.le_refl _) (Nat.le_refl _)
