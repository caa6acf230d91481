theorem xAt_nI {z j : Nat} {f : Nat → Int32} (hj : j < z) (hz : z < 2 ^ 31) : xAt z f (nI j) = f j := by
  rw [xAt_in (vp_in_nI hj hz) hz, nI_clamp (by omega)]
theorem xPut_nI {z j : Nat} {f : Nat → Int32} {x : Int32} (hj : j < z) (hz : z < 2 ^ 31) : xPut z f (nI j) x = upd f j x := by
  rw [xPut_in (vp_in_nI hj hz) hz, nI_clamp (by omega)]
/-- the walk's queue: q different places, each with its steps -/
def BI (ST QU : Nat → Int32) (q : Nat) : Prop := q ≤ 96 ∧ (∀ j, j < q → ∃ p d, p < 96 ∧ d ≤ j ∧ QU j = nI p ∧ ST p = nI d) ∧ ∀ i j, i < j → j < q → QU i ≠ QU j
def BK (ST QU : Nat → Int32) (QN : Int32) (k : Nat) : Prop := ∃ q, QN = nI q ∧ BI ST QU q ∧ k < q
theorem BK_k {ST QU : Nat → Int32} {QN : Int32} {k : Nat} (h : BK ST QU QN k) : vp_in (nI k) 96 := by
  obtain ⟨q, -, ⟨h1, -⟩, h2⟩ := h
  exact vp_in_nI (by omega) (by decide)
theorem BK_qk {ST QU : Nat → Int32} {QN : Int32} {k : Nat} (h : BK ST QU QN k) : vp_in (xAt 96 QU (nI k)) 96 := by
  obtain ⟨q, -, ⟨h1, h3, -⟩, h2⟩ := h
  obtain ⟨p, d, hp, -, e, -⟩ := h3 k h2
  rw [xAt_nI (by omega) (by decide), e]
  exact vp_in_nI hp (by decide)
theorem nI_m1 {d : Nat} (h : d < 2 ^ 31) : ¬ nI d = -1 := by
  intro q
  have h1 := congrArg Int32.toInt q
  rw [nI_toInt h, show (-1 : Int32).toInt = -1 from by decide +kernel] at h1
  omega
theorem BI_more {ST QU : Nat → Int32} {q t : Nat} (h : BI ST QU q) (ht : t < 96) (hn : ST t = -1) : q < 96 ∧ ∀ j, j < q → QU j ≠ nI t := by
  obtain ⟨h1, h2, h3⟩ := h
  have hne : ∀ j, j < q → QU j ≠ nI t := by
    intro j hj e
    obtain ⟨p, d, hp, hd, e1, e2⟩ := h2 j hj
    have e3 : p = t := (nI_eq (by omega) (by omega)).mp (e1.symm.trans e)
    subst e3
    exact nI_m1 (show d < 2 ^ 31 by omega) (e2.symm.trans hn)
  refine ⟨?_, hne⟩
  have h4 := fb_holes 96 (q + 1) (fun j => if j < q then (QU j).toNatClampNeg else t) (fun i hi => ?_) (fun i j hij hj => ?_)
  · omega
  · by_cases hq : i < q
    · obtain ⟨p, d, hp, -, e1, -⟩ := h2 i hq
      simp only [if_pos hq, e1, nI_clamp (show p < 2 ^ 31 by omega)]
      exact hp
    · simp only [if_neg hq]
      exact ht
  · have hi : i < q := by omega
    obtain ⟨p, d, hp, -, e1, -⟩ := h2 i hi
    by_cases hq : j < q
    · obtain ⟨p2, d2, hp2, -, e3, -⟩ := h2 j hq
      simp only [if_pos hi, if_pos hq, e1, e3, nI_clamp (show p < 2 ^ 31 by omega), nI_clamp (show p2 < 2 ^ 31 by omega)]
      intro e
      exact h3 i j hij hq (by rw [e1, e3, e])
    · simp only [if_pos hi, if_neg hq, e1, nI_clamp (show p < 2 ^ 31 by omega)]
      intro e
      exact hne i hi (by rw [e1, e])
theorem BK_room {ST QU : Nat → Int32} {QN t : Int32} {k : Nat} (h : BK ST QU QN k) (ht : vp_in t 96) (hn : xAt 96 ST t = -1) : vp_in QN 96 := by
  obtain ⟨q, rfl, h2, -⟩ := h
  obtain ⟨j, hj, rfl⟩ := vp_in_of ht (by decide)
  rw [xAt_nI hj (by decide)] at hn
  exact vp_in_nI (BI_more h2 hj hn).1 (by decide)
theorem BK_add {ST QU : Nat → Int32} {QN t : Int32} {k : Nat} (h : BK ST QU QN k) (ht : vp_in t 96) (hn : xAt 96 ST t = -1) : BK (xPut 96 ST t (xAt 96 ST (xAt 96 QU (nI k)) + 1)) (xPut 96 QU QN t) (QN + 1) k := by
  obtain ⟨q, rfl, h2, hk⟩ := h
  obtain ⟨j, hj, rfl⟩ := vp_in_of ht (by decide)
  rw [xAt_nI hj (by decide)] at hn
  obtain ⟨hq, hne⟩ := BI_more h2 hj hn
  obtain ⟨h1, h3, h4⟩ := h2
  obtain ⟨p, d, hp, hd, e1, e2⟩ := h3 k hk
  rw [xPut_nI hj (by decide), xPut_nI hq (by decide), xAt_nI (by omega) (by decide), e1, xAt_nI hp (by decide), e2, nI_1, nI_1]
  refine ⟨q + 1, rfl, ⟨by omega, fun i hi => ?_, fun a b hab hb => ?_⟩, by omega⟩
  · by_cases hiq : i = q
    · subst hiq
      exact ⟨j, d + 1, hj, by omega, pk_us, pk_us⟩
    · obtain ⟨p2, d2, hp2, hd2, e3, e4⟩ := h3 i (by omega)
      refine ⟨p2, d2, hp2, hd2, by rw [pk_un hiq, e3], ?_⟩
      rw [pk_un, e4]
      intro e
      exact hne i (by omega) (by rw [e3, e])
  · by_cases hbq : b = q
    · subst hbq
      rw [pk_us, pk_un (by omega)]
      exact hne a (by omega)
    · rw [pk_un hbq, pk_un (by omega)]
      exact h4 a b hab (by omega)
theorem carried_in {U T F : Nat → Int32} {sl lane : Int32} (hU : UR U) (hF : FR F) (hs : vp_in sl 36) (he : ¬ xAt 36 F sl = -1) (hl : vp_in lane 16) (hn : ¬ s_X1_carried U T F sl lane = -1) : vp_in (s_X1_carried U T F sl lane) 16 := by
  revert hn
  unfold s_X1_carried
  (repeat' split) <;> intro hn
  all_goals first | exact absurd rfl hn | exact hl | exact hU _ (FR_in hF hs he)
def s_X1_isOn (F : Nat → Int32) (C : Nat → Int32) (TR : Int32) (RO : Nat → Int32) (WY : Nat → Int32) (SU : Nat → Int32) (unit : Int32) (port : Int32) : Int32 := if (s_X1_hasCable F unit port) = 0 then 0 else s_X1_isLive F TR (s_X1_layTree_WY F C RO WY SU) ((6 * unit) + port)
def s_X1_isOn_RO (F : Nat → Int32) (RO : Nat → Int32) (unit : Int32) (port : Int32) : Nat → Int32 := if (s_X1_hasCable F unit port) = 0 then RO else (s_X1_layTree_RO F RO)
def s_X1_isOn_WY (F : Nat → Int32) (C : Nat → Int32) (RO : Nat → Int32) (WY : Nat → Int32) (SU : Nat → Int32) (unit : Int32) (port : Int32) : Nat → Int32 := if (s_X1_hasCable F unit port) = 0 then WY else (s_X1_layTree_WY F C RO WY SU)
def s_X1_isOn_SU (F : Nat → Int32) (C : Nat → Int32) (RO : Nat → Int32) (SU : Nat → Int32) (unit : Int32) (port : Int32) : Nat → Int32 := if (s_X1_hasCable F unit port) = 0 then SU else (s_X1_layTree_SU F C RO SU)
def s_X1_isOn_TH (F : Nat → Int32) (unit : Int32) (port : Int32) : Int32 := (s_X1_hasCable_TH F unit port)
set_option maxHeartbeats 4000000 in
set_option maxRecDepth 100000 in
theorem k_X1_isOn (l : Launch) (D : va_G) (cI : ClassId) (bd : Nat → Nat) (U : Nat → Int32) (T : Nat → Int32) (F : Nat → Int32) (C : Nat → Int32) (B : Nat → Int32) (CM : Int32) (TR : Int32) (RO : Nat → Int32) (WY : Nat → Int32) (SU : Nat → Int32) (TH : Int32) (ST : Nat → Int32) (QU : Nat → Int32) (QN : Int32) (FE : Nat → Int32) (unit : Int32) (port : Int32) (hb_TR : TR = 0 ∨ TR = 1) (hF : FR F) : Ki l yX1_isOn wsX1_isOn 3 65 0 0 D (TI cI) [.ref (bd 0), .int unit, .int port] (wY cI bd U T F C B CM TR RO WY SU TH ST QU QN FE) (wY cI bd U T F C B CM TR (s_X1_isOn_RO F RO unit port) (s_X1_isOn_WY F C RO WY SU unit port) (s_X1_isOn_SU F C RO SU unit port) (s_X1_isOn_TH F unit port) ST QU QN FE) (s_X1_isOn F C TR RO WY SU unit port) := by
  refine Ki.of (cc := cX1_isOn) (maxL := 3) (rt := .boolean) (lv0 := [(0, .ref (bd 0)), (1, .int unit), (2, .int port)]) (by decide +kernel) rfl (Nat.le_of_ble_eq_true rfl) rfl ?_
  intro p e s m args below meth c A C0 hr hlk hK hA
  refine v_aload_n C0 (pc' := 1) 0 rfl rfl dX1_isOn_0 rfl ?_
  refine v_iload_n C0 (pc' := 2) 1 rfl rfl dX1_isOn_1 rfl ?_
  refine v_iload_n C0 (pc' := 3) 2 rfl rfl dX1_isOn_2 rfl ?_
  refine v_callVi0 C0 (av := [.int unit, .int port]) (rest := []) (ws' := wY cI bd U T F C B CM TR RO WY SU (s_X1_hasCable_TH F unit port) ST QU QN FE) (pc' := 6) hK hA (k_X1_hasCable l D cI bd U T F C B CM TR RO WY SU TH ST QU QN FE unit port) (cwV 2 C0.2.2.2.2 gX1_isOn_X1_hasCable rfl rfl rfl (by decide +kernel) ⟨Nat.le_of_ble_eq_true rfl, Nat.le_of_ble_eq_true rfl⟩) ⟨0, 1, _, _, _, rfl, rfl⟩ PLs.all rfl rfl (Nat.le_of_ble_eq_true rfl) ⟨Nat.zero_le _, Nat.zero_le _⟩ dX1_isOn_3 rfl ?_
  refine v_if_ne C0 11 (pc' := 9) dX1_isOn_6 (by decide) rfl (fun h1 => ?_) (fun h1 => ?_)
  · refine v_aload_n C0 (pc' := 12) 0 rfl rfl dX1_isOn_11 rfl ?_
    refine v_callVv0 C0 (av := []) (rest := []) (ws' := wY cI bd U T F C B CM TR (s_X1_layTree_RO F RO) (s_X1_layTree_WY F C RO WY SU) (s_X1_layTree_SU F C RO SU) (s_X1_hasCable_TH F unit port) ST QU QN FE) (pc' := 15) hK hA (k_X1_layTree l D cI bd U T F C B CM TR RO WY SU (s_X1_hasCable_TH F unit port) ST QU QN FE  hF) (cwV 0 C0.2.2.2.2 gX1_isOn_X1_layTree rfl rfl rfl (by decide +kernel) ⟨Nat.le_of_ble_eq_true rfl, Nat.le_of_ble_eq_true rfl⟩) ⟨0, 1, _, _, _, rfl, rfl⟩ PLs.all rfl rfl (Nat.le_of_ble_eq_true rfl) ⟨Nat.zero_le _, Nat.zero_le _⟩ dX1_isOn_12 rfl ?_
    refine v_aload_n C0 (pc' := 16) 0 rfl rfl dX1_isOn_15 rfl ?_
    refine v_bipush C0 (pc' := 18) 6 (by decide) dX1_isOn_16 rfl ?_
    refine v_iload_n C0 (pc' := 19) 1 rfl rfl dX1_isOn_18 rfl ?_
    refine v_imul C0 (pc' := 20) dX1_isOn_19 rfl ?_
    refine v_iload_n C0 (pc' := 21) 2 rfl rfl dX1_isOn_20 rfl ?_
    refine v_iadd C0 (pc' := 22) dX1_isOn_21 rfl ?_
    refine v_callVi0 C0 (av := [.int ((6 * unit) + port)]) (rest := []) (ws' := wY cI bd U T F C B CM TR (s_X1_layTree_RO F RO) (s_X1_layTree_WY F C RO WY SU) (s_X1_layTree_SU F C RO SU) (s_X1_hasCable_TH F unit port) ST QU QN FE) (pc' := 25) hK hA (k_X1_isLive l D cI bd U T F C B CM TR (s_X1_layTree_RO F RO) (s_X1_layTree_WY F C RO WY SU) (s_X1_layTree_SU F C RO SU) (s_X1_hasCable_TH F unit port) ST QU QN FE ((6 * unit) + port) hb_TR (hasCable_in h1) hF) (cwV 1 C0.2.2.2.2 gX1_isOn_X1_isLive rfl rfl rfl (by decide +kernel) ⟨Nat.le_of_ble_eq_true rfl, Nat.le_of_ble_eq_true rfl⟩) ⟨0, 1, _, _, _, rfl, rfl⟩ PLs.all rfl rfl (Nat.le_of_ble_eq_true rfl) ⟨Nat.zero_le _, Nat.zero_le _⟩ dX1_isOn_22 rfl ?_
    refine v_world (ws' := wY cI bd U T F C B CM TR (s_X1_isOn_RO F RO unit port) (s_X1_isOn_WY F C RO WY SU unit port) (s_X1_isOn_SU F C RO SU unit port) (s_X1_isOn_TH F unit port) ST QU QN FE) (by simp only [s_X1_isOn, s_X1_isOn_RO, s_X1_isOn_WY, s_X1_isOn_SU, s_X1_isOn_TH, if_neg h1]) ?_
    exact v_zret C0 hr hlk hK (b_X1_isLive F TR (s_X1_layTree_WY F C RO WY SU) ((6 * unit) + port)) (by simp only [s_X1_isOn, s_X1_isOn_RO, s_X1_isOn_WY, s_X1_isOn_SU, s_X1_isOn_TH, if_neg h1]) dX1_isOn_25
  · refine v_iconst C0 (pc' := 10) 0 (by decide) dX1_isOn_9 rfl ?_
    refine v_world (ws' := wY cI bd U T F C B CM TR (s_X1_isOn_RO F RO unit port) (s_X1_isOn_WY F C RO WY SU unit port) (s_X1_isOn_SU F C RO SU unit port) (s_X1_isOn_TH F unit port) ST QU QN FE) (by simp only [s_X1_isOn, s_X1_isOn_RO, s_X1_isOn_WY, s_X1_isOn_SU, s_X1_isOn_TH, if_pos h1]) ?_
    exact v_zret C0 hr hlk hK (Or.inl rfl : (0 : Int32) = 0 ∨ (0 : Int32) = 1) (by simp only [s_X1_isOn, s_X1_isOn_RO, s_X1_isOn_WY, s_X1_isOn_SU, s_X1_isOn_TH, if_pos h1]) dX1_isOn_10
def s_X1_asksFor (unit : Int32) : Int32 := if (s_X1_in unit 0 5) = 0 then 0 else 1
def s_X1_asksFor_RO (F : Nat → Int32) (RO : Nat → Int32) : Nat → Int32 := (s_X1_layTree_RO F RO)
def s_X1_asksFor_WY (F : Nat → Int32) (C : Nat → Int32) (RO : Nat → Int32) (WY : Nat → Int32) (SU : Nat → Int32) : Nat → Int32 := (s_X1_layTree_WY F C RO WY SU)
def s_X1_asksFor_SU (F : Nat → Int32) (C : Nat → Int32) (RO : Nat → Int32) (SU : Nat → Int32) : Nat → Int32 := (s_X1_layTree_SU F C RO SU)
def s_X1_asksFor_TH (unit : Int32) : Int32 := if (s_X1_in unit 0 5) = 0 then 1 else 0
set_option maxHeartbeats 4000000 in
set_option maxRecDepth 100000 in
theorem k_X1_asksFor (l : Launch) (D : va_G) (cI : ClassId) (bd : Nat → Nat) (U : Nat → Int32) (T : Nat → Int32) (F : Nat → Int32) (C : Nat → Int32) (B : Nat → Int32) (CM : Int32) (TR : Int32) (RO : Nat → Int32) (WY : Nat → Int32) (SU : Nat → Int32) (TH : Int32) (ST : Nat → Int32) (QU : Nat → Int32) (QN : Int32) (FE : Nat → Int32) (unit : Int32) (hF : FR F) : Ki l yX1_asksFor wsX1_asksFor 1 24 0 0 D (TI cI) [.ref (bd 0), .int unit] (wY cI bd U T F C B CM TR RO WY SU TH ST QU QN FE) (wY cI bd U T F C B CM TR (s_X1_asksFor_RO F RO) (s_X1_asksFor_WY F C RO WY SU) (s_X1_asksFor_SU F C RO SU) (s_X1_asksFor_TH unit) ST QU QN FE) (s_X1_asksFor unit) := by
  refine Ki.of (cc := cX1_asksFor) (maxL := 2) (rt := .boolean) (lv0 := [(0, .ref (bd 0)), (1, .int unit)]) (by decide +kernel) rfl (Nat.le_of_ble_eq_true rfl) rfl ?_
  intro p e s m args below meth c A C0 hr hlk hK hA
  refine v_aload_n C0 (pc' := 1) 0 rfl rfl dX1_asksFor_0 rfl ?_
  refine v_iload_n C0 (pc' := 2) 1 rfl rfl dX1_asksFor_1 rfl ?_
  refine v_iconst C0 (pc' := 3) 0 (by decide) dX1_asksFor_2 rfl ?_
  refine v_iconst C0 (pc' := 4) 5 (by decide) dX1_asksFor_3 rfl ?_
  refine v_callSi0 C0 (av := [.int unit, .int 0, .int 5]) (rest := [.ref (bd 0)]) (ws' := wY cI bd U T F C B CM TR RO WY SU TH ST QU QN FE) (pc' := 7) hK hA (k_X1_in l D cI unit 0 5) (va_cwS 3 C0.2.2.2.2 gX1_asksFor_X1_in rfl rfl rfl (by decide +kernel) ⟨Nat.le_of_ble_eq_true rfl, Nat.le_of_ble_eq_true rfl⟩) PLs.nil rfl rfl (Nat.le_of_ble_eq_true rfl) ⟨Nat.zero_le _, Nat.zero_le _⟩ dX1_asksFor_4 rfl ?_
  refine v_if_eq C0 14 (pc' := 10) dX1_asksFor_7 (by decide) rfl (fun h1 => ?_) (fun h1 => ?_)
  · refine v_iconst C0 (pc' := 15) 1 (by decide) dX1_asksFor_14 rfl ?_
    refine v_put C0 hK (C := RX1) (T := TX1) (N := 15) (ws' := wY cI bd U T F C B CM TR RO WY SU 1 ST QU QN FE) (pc' := 18) 0 10 tyX1 rfl rfl rfl (by decide) (Nat.le_of_ble_eq_true rfl) tyX1_ok nmX1 in_X1_asksFor fl_X1_asksFor_43 rfl rfl rfl rfl rfl dX1_asksFor_15 rfl ?_
    refine v_aload_n C0 (pc' := 19) 0 rfl rfl dX1_asksFor_18 rfl ?_
    refine v_callVv0 C0 (av := []) (rest := []) (ws' := wY cI bd U T F C B CM TR (s_X1_layTree_RO F RO) (s_X1_layTree_WY F C RO WY SU) (s_X1_layTree_SU F C RO SU) 1 ST QU QN FE) (pc' := 22) hK hA (k_X1_layTree l D cI bd U T F C B CM TR RO WY SU 1 ST QU QN FE  hF) (cwV 0 C0.2.2.2.2 gX1_asksFor_X1_layTree rfl rfl rfl (by decide +kernel) ⟨Nat.le_of_ble_eq_true rfl, Nat.le_of_ble_eq_true rfl⟩) ⟨0, 1, _, _, _, rfl, rfl⟩ PLs.all rfl rfl (Nat.le_of_ble_eq_true rfl) ⟨Nat.zero_le _, Nat.zero_le _⟩ dX1_asksFor_19 rfl ?_
    refine v_aload_n C0 (pc' := 23) 0 rfl rfl dX1_asksFor_22 rfl ?_
    refine v_get C0 hK (C := RX1) (T := TX1) (N := 15) (pc' := 26) 0 10 rfl rfl rfl (by decide) in_X1_asksFor fl_X1_asksFor_43 rfl dX1_asksFor_23 rfl ?_
    refine v_if_ne C0 33 (pc' := 29) dX1_asksFor_26 (by decide) rfl (fun h2 => ?_) (fun h2 => ?_)
    · refine v_iconst C0 (pc' := 34) 0 (by decide) dX1_asksFor_33 rfl ?_
      refine v_world (ws' := wY cI bd U T F C B CM TR (s_X1_asksFor_RO F RO) (s_X1_asksFor_WY F C RO WY SU) (s_X1_asksFor_SU F C RO SU) (s_X1_asksFor_TH unit) ST QU QN FE) (by simp only [s_X1_asksFor, s_X1_asksFor_RO, s_X1_asksFor_WY, s_X1_asksFor_SU, s_X1_asksFor_TH, if_pos h1]) ?_
      exact v_zret C0 hr hlk hK (Or.inl rfl : (0 : Int32) = 0 ∨ (0 : Int32) = 1) (by simp only [s_X1_asksFor, s_X1_asksFor_RO, s_X1_asksFor_WY, s_X1_asksFor_SU, s_X1_asksFor_TH, if_pos h1]) dX1_asksFor_34
    · exact absurd h2 (by decide)
  · refine v_iconst C0 (pc' := 11) 0 (by decide) dX1_asksFor_10 rfl ?_
    refine v_goto C0 15 dX1_asksFor_11 (by decide) ?_
    refine v_put C0 hK (C := RX1) (T := TX1) (N := 15) (ws' := wY cI bd U T F C B CM TR RO WY SU 0 ST QU QN FE) (pc' := 18) 0 10 tyX1 rfl rfl rfl (by decide) (Nat.le_of_ble_eq_true rfl) tyX1_ok nmX1 in_X1_asksFor fl_X1_asksFor_43 rfl rfl rfl rfl rfl dX1_asksFor_15 rfl ?_
    refine v_aload_n C0 (pc' := 19) 0 rfl rfl dX1_asksFor_18 rfl ?_
    refine v_callVv0 C0 (av := []) (rest := []) (ws' := wY cI bd U T F C B CM TR (s_X1_layTree_RO F RO) (s_X1_layTree_WY F C RO WY SU) (s_X1_layTree_SU F C RO SU) 0 ST QU QN FE) (pc' := 22) hK hA (k_X1_layTree l D cI bd U T F C B CM TR RO WY SU 0 ST QU QN FE  hF) (cwV 0 C0.2.2.2.2 gX1_asksFor_X1_layTree rfl rfl rfl (by decide +kernel) ⟨Nat.le_of_ble_eq_true rfl, Nat.le_of_ble_eq_true rfl⟩) ⟨0, 1, _, _, _, rfl, rfl⟩ PLs.all rfl rfl (Nat.le_of_ble_eq_true rfl) ⟨Nat.zero_le _, Nat.zero_le _⟩ dX1_asksFor_19 rfl ?_
    refine v_aload_n C0 (pc' := 23) 0 rfl rfl dX1_asksFor_22 rfl ?_
    refine v_get C0 hK (C := RX1) (T := TX1) (N := 15) (pc' := 26) 0 10 rfl rfl rfl (by decide) in_X1_asksFor fl_X1_asksFor_43 rfl dX1_asksFor_23 rfl ?_
    refine v_if_ne C0 33 (pc' := 29) dX1_asksFor_26 (by decide) rfl (fun h3 => ?_) (fun h3 => ?_)
    · exact absurd (by decide) h3
    · refine v_iconst C0 (pc' := 30) 1 (by decide) dX1_asksFor_29 rfl ?_
      refine v_goto C0 34 dX1_asksFor_30 (by decide) ?_
      refine v_world (ws' := wY cI bd U T F C B CM TR (s_X1_asksFor_RO F RO) (s_X1_asksFor_WY F C RO WY SU) (s_X1_asksFor_SU F C RO SU) (s_X1_asksFor_TH unit) ST QU QN FE) (by simp only [s_X1_asksFor, s_X1_asksFor_RO, s_X1_asksFor_WY, s_X1_asksFor_SU, s_X1_asksFor_TH, if_neg h1]) ?_
      exact v_zret C0 hr hlk hK (Or.inr rfl : (1 : Int32) = 0 ∨ (1 : Int32) = 1) (by simp only [s_X1_asksFor, s_X1_asksFor_RO, s_X1_asksFor_WY, s_X1_asksFor_SU, s_X1_asksFor_TH, if_neg h1]) dX1_asksFor_34
theorem b_X1_asksFor (unit : Int32) : s_X1_asksFor unit = 0 ∨ s_X1_asksFor unit = 1 := by unfold s_X1_asksFor; (repeat' split) <;> first | exact Or.inl rfl | exact Or.inr rfl
theorem asks_in {unit : Int32} (h : ¬ s_X1_asksFor unit = 0) : vp_in unit 6 := by
  refine in_vp (n := 5) (by decide) (fun q => h ?_)
  unfold s_X1_asksFor
  rw [if_pos (show s_X1_in unit 0 5 = 0 from q)]
def s_X1_root (F : Nat → Int32) (RO : Nat → Int32) (unit : Int32) : Int32 := if (s_X1_asksFor unit) = 0 then 0 else xAt 6 (s_X1_asksFor_RO F RO) unit
def s_X1_root_RO (F : Nat → Int32) (RO : Nat → Int32) : Nat → Int32 := (s_X1_asksFor_RO F RO)
def s_X1_root_WY (F : Nat → Int32) (C : Nat → Int32) (RO : Nat → Int32) (WY : Nat → Int32) (SU : Nat → Int32) : Nat → Int32 := (s_X1_asksFor_WY F C RO WY SU)
def s_X1_root_SU (F : Nat → Int32) (C : Nat → Int32) (RO : Nat → Int32) (SU : Nat → Int32) : Nat → Int32 := (s_X1_asksFor_SU F C RO SU)
def s_X1_root_TH (unit : Int32) : Int32 := (s_X1_asksFor_TH unit)
set_option maxHeartbeats 4000000 in
set_option maxRecDepth 100000 in
theorem k_X1_root (l : Launch) (D : va_G) (cI : ClassId) (bd : Nat → Nat) (U : Nat → Int32) (T : Nat → Int32) (F : Nat → Int32) (C : Nat → Int32) (B : Nat → Int32) (CM : Int32) (TR : Int32) (RO : Nat → Int32) (WY : Nat → Int32) (SU : Nat → Int32) (TH : Int32) (ST : Nat → Int32) (QU : Nat → Int32) (QN : Int32) (FE : Nat → Int32) (unit : Int32) (hF : FR F) : Ki l yX1_root wsX1_root 2 45 0 0 D (TI cI) [.ref (bd 0), .int unit] (wY cI bd U T F C B CM TR RO WY SU TH ST QU QN FE) (wY cI bd U T F C B CM TR (s_X1_root_RO F RO) (s_X1_root_WY F C RO WY SU) (s_X1_root_SU F C RO SU) (s_X1_root_TH unit) ST QU QN FE) (s_X1_root F RO unit) := by
  refine Ki.of (cc := cX1_root) (maxL := 2) (rt := .int) (lv0 := [(0, .ref (bd 0)), (1, .int unit)]) (by decide +kernel) rfl (Nat.le_of_ble_eq_true rfl) rfl ?_
  intro p e s m args below meth c A C0 hr hlk hK hA
  refine v_aload_n C0 (pc' := 1) 0 rfl rfl dX1_root_0 rfl ?_
  refine v_iload_n C0 (pc' := 2) 1 rfl rfl dX1_root_1 rfl ?_
  refine v_callVi0 C0 (av := [.int unit]) (rest := []) (ws' := wY cI bd U T F C B CM TR (s_X1_asksFor_RO F RO) (s_X1_asksFor_WY F C RO WY SU) (s_X1_asksFor_SU F C RO SU) (s_X1_asksFor_TH unit) ST QU QN FE) (pc' := 5) hK hA (k_X1_asksFor l D cI bd U T F C B CM TR RO WY SU TH ST QU QN FE unit hF) (cwV 1 C0.2.2.2.2 gX1_root_X1_asksFor rfl rfl rfl (by decide +kernel) ⟨Nat.le_of_ble_eq_true rfl, Nat.le_of_ble_eq_true rfl⟩) ⟨0, 1, _, _, _, rfl, rfl⟩ PLs.all rfl rfl (Nat.le_of_ble_eq_true rfl) ⟨Nat.zero_le _, Nat.zero_le _⟩ dX1_root_2 rfl ?_
  refine v_if_eq C0 17 (pc' := 8) dX1_root_5 (by decide) rfl (fun h1 => ?_) (fun h1 => ?_)
  · refine v_iconst C0 (pc' := 18) 0 (by decide) dX1_root_17 rfl ?_
    refine v_world (ws' := wY cI bd U T F C B CM TR (s_X1_root_RO F RO) (s_X1_root_WY F C RO WY SU) (s_X1_root_SU F C RO SU) (s_X1_root_TH unit) ST QU QN FE) (by simp only [s_X1_root, s_X1_root_RO, s_X1_root_WY, s_X1_root_SU, s_X1_root_TH, if_pos h1]) ?_
    exact v_iret C0 hr hlk hK (by simp only [s_X1_root, s_X1_root_RO, s_X1_root_WY, s_X1_root_SU, s_X1_root_TH, if_pos h1]) dX1_root_18
  · refine v_aload_n C0 (pc' := 9) 0 rfl rfl dX1_root_8 rfl ?_
    refine v_get C0 hK (C := RX1) (T := TX1) (N := 15) (pc' := 12) 0 7 rfl rfl rfl (by decide) in_X1_root fl_X1_root_25 rfl dX1_root_9 rfl ?_
    refine v_iload_n C0 (pc' := 13) 1 rfl rfl dX1_root_12 rfl ?_
    refine v_ialx C0 hK (pc' := 14) 6 0 rfl rfl (asks_in h1) (by decide) dX1_root_13 rfl ?_
    refine v_goto C0 18 dX1_root_14 (by decide) ?_
    refine v_world (ws' := wY cI bd U T F C B CM TR (s_X1_root_RO F RO) (s_X1_root_WY F C RO WY SU) (s_X1_root_SU F C RO SU) (s_X1_root_TH unit) ST QU QN FE) (by simp only [s_X1_root, s_X1_root_RO, s_X1_root_WY, s_X1_root_SU, s_X1_root_TH, if_neg h1]) ?_
    exact v_iret C0 hr hlk hK (by simp only [s_X1_root, s_X1_root_RO, s_X1_root_WY, s_X1_root_SU, s_X1_root_TH, if_neg h1]) dX1_root_18
def s_X1_costOf (F : Nat → Int32) (C : Nat → Int32) (RO : Nat → Int32) (SU : Nat → Int32) (unit : Int32) : Int32 := if (s_X1_asksFor unit) = 0 then 0 else xAt 6 (s_X1_asksFor_SU F C RO SU) unit
def s_X1_costOf_RO (F : Nat → Int32) (RO : Nat → Int32) : Nat → Int32 := (s_X1_asksFor_RO F RO)
def s_X1_costOf_WY (F : Nat → Int32) (C : Nat → Int32) (RO : Nat → Int32) (WY : Nat → Int32) (SU : Nat → Int32) : Nat → Int32 := (s_X1_asksFor_WY F C RO WY SU)
def s_X1_costOf_SU (F : Nat → Int32) (C : Nat → Int32) (RO : Nat → Int32) (SU : Nat → Int32) : Nat → Int32 := (s_X1_asksFor_SU F C RO SU)
def s_X1_costOf_TH (unit : Int32) : Int32 := (s_X1_asksFor_TH unit)
set_option maxHeartbeats 4000000 in
set_option maxRecDepth 100000 in
theorem k_X1_costOf (l : Launch) (D : va_G) (cI : ClassId) (bd : Nat → Nat) (U : Nat → Int32) (T : Nat → Int32) (F : Nat → Int32) (C : Nat → Int32) (B : Nat → Int32) (CM : Int32) (TR : Int32) (RO : Nat → Int32) (WY : Nat → Int32) (SU : Nat → Int32) (TH : Int32) (ST : Nat → Int32) (QU : Nat → Int32) (QN : Int32) (FE : Nat → Int32) (unit : Int32) (hF : FR F) : Ki l yX1_costOf wsX1_costOf 2 45 0 0 D (TI cI) [.ref (bd 0), .int unit] (wY cI bd U T F C B CM TR RO WY SU TH ST QU QN FE) (wY cI bd U T F C B CM TR (s_X1_costOf_RO F RO) (s_X1_costOf_WY F C RO WY SU) (s_X1_costOf_SU F C RO SU) (s_X1_costOf_TH unit) ST QU QN FE) (s_X1_costOf F C RO SU unit) := by
  refine Ki.of (cc := cX1_costOf) (maxL := 2) (rt := .int) (lv0 := [(0, .ref (bd 0)), (1, .int unit)]) (by decide +kernel) rfl (Nat.le_of_ble_eq_true rfl) rfl ?_
  intro p e s m args below meth c A C0 hr hlk hK hA
  refine v_aload_n C0 (pc' := 1) 0 rfl rfl dX1_costOf_0 rfl ?_
  refine v_iload_n C0 (pc' := 2) 1 rfl rfl dX1_costOf_1 rfl ?_
  refine v_callVi0 C0 (av := [.int unit]) (rest := []) (ws' := wY cI bd U T F C B CM TR (s_X1_asksFor_RO F RO) (s_X1_asksFor_WY F C RO WY SU) (s_X1_asksFor_SU F C RO SU) (s_X1_asksFor_TH unit) ST QU QN FE) (pc' := 5) hK hA (k_X1_asksFor l D cI bd U T F C B CM TR RO WY SU TH ST QU QN FE unit hF) (cwV 1 C0.2.2.2.2 gX1_costOf_X1_asksFor rfl rfl rfl (by decide +kernel) ⟨Nat.le_of_ble_eq_true rfl, Nat.le_of_ble_eq_true rfl⟩) ⟨0, 1, _, _, _, rfl, rfl⟩ PLs.all rfl rfl (Nat.le_of_ble_eq_true rfl) ⟨Nat.zero_le _, Nat.zero_le _⟩ dX1_costOf_2 rfl ?_
  refine v_if_eq C0 17 (pc' := 8) dX1_costOf_5 (by decide) rfl (fun h1 => ?_) (fun h1 => ?_)
  · refine v_iconst C0 (pc' := 18) 0 (by decide) dX1_costOf_17 rfl ?_
    refine v_world (ws' := wY cI bd U T F C B CM TR (s_X1_costOf_RO F RO) (s_X1_costOf_WY F C RO WY SU) (s_X1_costOf_SU F C RO SU) (s_X1_costOf_TH unit) ST QU QN FE) (by simp only [s_X1_costOf, s_X1_costOf_RO, s_X1_costOf_WY, s_X1_costOf_SU, s_X1_costOf_TH, if_pos h1]) ?_
    exact v_iret C0 hr hlk hK (by simp only [s_X1_costOf, s_X1_costOf_RO, s_X1_costOf_WY, s_X1_costOf_SU, s_X1_costOf_TH, if_pos h1]) dX1_costOf_18
  · refine v_aload_n C0 (pc' := 9) 0 rfl rfl dX1_costOf_8 rfl ?_
    refine v_get C0 hK (C := RX1) (T := TX1) (N := 15) (pc' := 12) 0 9 rfl rfl rfl (by decide) in_X1_costOf fl_X1_costOf_31 rfl dX1_costOf_9 rfl ?_
    refine v_iload_n C0 (pc' := 13) 1 rfl rfl dX1_costOf_12 rfl ?_
    refine v_ialx C0 hK (pc' := 14) 8 0 rfl rfl (asks_in h1) (by decide) dX1_costOf_13 rfl ?_
    refine v_goto C0 18 dX1_costOf_14 (by decide) ?_
    refine v_world (ws' := wY cI bd U T F C B CM TR (s_X1_costOf_RO F RO) (s_X1_costOf_WY F C RO WY SU) (s_X1_costOf_SU F C RO SU) (s_X1_costOf_TH unit) ST QU QN FE) (by simp only [s_X1_costOf, s_X1_costOf_RO, s_X1_costOf_WY, s_X1_costOf_SU, s_X1_costOf_TH, if_neg h1]) ?_
    exact v_iret C0 hr hlk hK (by simp only [s_X1_costOf, s_X1_costOf_RO, s_X1_costOf_WY, s_X1_costOf_SU, s_X1_costOf_TH, if_neg h1]) dX1_costOf_18
def s_X1_wayUp (F : Nat → Int32) (C : Nat → Int32) (RO : Nat → Int32) (WY : Nat → Int32) (SU : Nat → Int32) (unit : Int32) : Int32 := if (s_X1_asksFor unit) = 0 then 0 else (if (xAt 6 (s_X1_asksFor_WY F C RO WY SU) unit) = (-1) then (-1) else (xAt 6 (s_X1_asksFor_WY F C RO WY SU) unit) - (xAt 6 (s_X1_asksFor_WY F C RO WY SU) unit) / 6 * 6)
def s_X1_wayUp_RO (F : Nat → Int32) (RO : Nat → Int32) : Nat → Int32 := (s_X1_asksFor_RO F RO)
def s_X1_wayUp_WY (F : Nat → Int32) (C : Nat → Int32) (RO : Nat → Int32) (WY : Nat → Int32) (SU : Nat → Int32) : Nat → Int32 := (s_X1_asksFor_WY F C RO WY SU)
def s_X1_wayUp_SU (F : Nat → Int32) (C : Nat → Int32) (RO : Nat → Int32) (SU : Nat → Int32) : Nat → Int32 := (s_X1_asksFor_SU F C RO SU)
def s_X1_wayUp_TH (unit : Int32) : Int32 := (s_X1_asksFor_TH unit)
set_option maxHeartbeats 4000000 in
set_option maxRecDepth 100000 in
theorem k_X1_wayUp (l : Launch) (D : va_G) (cI : ClassId) (bd : Nat → Nat) (U : Nat → Int32) (T : Nat → Int32) (F : Nat → Int32) (C : Nat → Int32) (B : Nat → Int32) (CM : Int32) (TR : Int32) (RO : Nat → Int32) (WY : Nat → Int32) (SU : Nat → Int32) (TH : Int32) (ST : Nat → Int32) (QU : Nat → Int32) (QN : Int32) (FE : Nat → Int32) (unit : Int32) (hF : FR F) : Ki l yX1_wayUp wsX1_wayUp 2 45 0 0 D (TI cI) [.ref (bd 0), .int unit] (wY cI bd U T F C B CM TR RO WY SU TH ST QU QN FE) (wY cI bd U T F C B CM TR (s_X1_wayUp_RO F RO) (s_X1_wayUp_WY F C RO WY SU) (s_X1_wayUp_SU F C RO SU) (s_X1_wayUp_TH unit) ST QU QN FE) (s_X1_wayUp F C RO WY SU unit) := by
  refine Ki.of (cc := cX1_wayUp) (maxL := 2) (rt := .int) (lv0 := [(0, .ref (bd 0)), (1, .int unit)]) (by decide +kernel) rfl (Nat.le_of_ble_eq_true rfl) rfl ?_
  intro p e s m args below meth c A C0 hr hlk hK hA
  refine v_aload_n C0 (pc' := 1) 0 rfl rfl dX1_wayUp_0 rfl ?_
  refine v_iload_n C0 (pc' := 2) 1 rfl rfl dX1_wayUp_1 rfl ?_
  refine v_callVi0 C0 (av := [.int unit]) (rest := []) (ws' := wY cI bd U T F C B CM TR (s_X1_asksFor_RO F RO) (s_X1_asksFor_WY F C RO WY SU) (s_X1_asksFor_SU F C RO SU) (s_X1_asksFor_TH unit) ST QU QN FE) (pc' := 5) hK hA (k_X1_asksFor l D cI bd U T F C B CM TR RO WY SU TH ST QU QN FE unit hF) (cwV 1 C0.2.2.2.2 gX1_wayUp_X1_asksFor rfl rfl rfl (by decide +kernel) ⟨Nat.le_of_ble_eq_true rfl, Nat.le_of_ble_eq_true rfl⟩) ⟨0, 1, _, _, _, rfl, rfl⟩ PLs.all rfl rfl (Nat.le_of_ble_eq_true rfl) ⟨Nat.zero_le _, Nat.zero_le _⟩ dX1_wayUp_2 rfl ?_
  refine v_if_ne C0 12 (pc' := 8) dX1_wayUp_5 (by decide) rfl (fun h1 => ?_) (fun h1 => ?_)
  · refine v_aload_n C0 (pc' := 13) 0 rfl rfl dX1_wayUp_12 rfl ?_
    refine v_get C0 hK (C := RX1) (T := TX1) (N := 15) (pc' := 16) 0 8 rfl rfl rfl (by decide) in_X1_wayUp fl_X1_wayUp_28 rfl dX1_wayUp_13 rfl ?_
    refine v_iload_n C0 (pc' := 17) 1 rfl rfl dX1_wayUp_16 rfl ?_
    refine v_ialx C0 hK (pc' := 18) 7 0 rfl rfl (asks_in h1) (by decide) dX1_wayUp_17 rfl ?_
    refine v_iconst C0 (pc' := 19) (-1) (by decide) dX1_wayUp_18 rfl ?_
    refine v_icmp_ne C0 26 (pc' := 22) dX1_wayUp_19 (by decide) rfl (fun h2 => ?_) (fun h2 => ?_)
    · refine v_aload_n C0 (pc' := 27) 0 rfl rfl dX1_wayUp_26 rfl ?_
      refine v_get C0 hK (C := RX1) (T := TX1) (N := 15) (pc' := 30) 0 8 rfl rfl rfl (by decide) in_X1_wayUp fl_X1_wayUp_28 rfl dX1_wayUp_27 rfl ?_
      refine v_iload_n C0 (pc' := 31) 1 rfl rfl dX1_wayUp_30 rfl ?_
      refine v_ialx C0 hK (pc' := 32) 7 0 rfl rfl (asks_in h1) (by decide) dX1_wayUp_31 rfl ?_
      refine v_bipush C0 (pc' := 34) 6 (by decide) dX1_wayUp_32 rfl ?_
      refine v_irem C0 (pc' := 35) (by decide) dX1_wayUp_34 rfl ?_
      refine v_world (ws' := wY cI bd U T F C B CM TR (s_X1_wayUp_RO F RO) (s_X1_wayUp_WY F C RO WY SU) (s_X1_wayUp_SU F C RO SU) (s_X1_wayUp_TH unit) ST QU QN FE) (by simp only [s_X1_wayUp, s_X1_wayUp_RO, s_X1_wayUp_WY, s_X1_wayUp_SU, s_X1_wayUp_TH, if_neg h1, if_neg h2]) ?_
      exact v_iret C0 hr hlk hK (by simp only [s_X1_wayUp, s_X1_wayUp_RO, s_X1_wayUp_WY, s_X1_wayUp_SU, s_X1_wayUp_TH, if_neg h1, if_neg h2]) dX1_wayUp_35
    · refine v_iconst C0 (pc' := 23) (-1) (by decide) dX1_wayUp_22 rfl ?_
      refine v_goto C0 35 dX1_wayUp_23 (by decide) ?_
      refine v_world (ws' := wY cI bd U T F C B CM TR (s_X1_wayUp_RO F RO) (s_X1_wayUp_WY F C RO WY SU) (s_X1_wayUp_SU F C RO SU) (s_X1_wayUp_TH unit) ST QU QN FE) (by simp only [s_X1_wayUp, s_X1_wayUp_RO, s_X1_wayUp_WY, s_X1_wayUp_SU, s_X1_wayUp_TH, if_neg h1, if_pos h2]) ?_
      exact v_iret C0 hr hlk hK (by simp only [s_X1_wayUp, s_X1_wayUp_RO, s_X1_wayUp_WY, s_X1_wayUp_SU, s_X1_wayUp_TH, if_neg h1, if_pos h2]) dX1_wayUp_35
  · refine v_iconst C0 (pc' := 9) 0 (by decide) dX1_wayUp_8 rfl ?_
    refine v_goto C0 35 dX1_wayUp_9 (by decide) ?_
    refine v_world (ws' := wY cI bd U T F C B CM TR (s_X1_wayUp_RO F RO) (s_X1_wayUp_WY F C RO WY SU) (s_X1_wayUp_SU F C RO SU) (s_X1_wayUp_TH unit) ST QU QN FE) (by simp only [s_X1_wayUp, s_X1_wayUp_RO, s_X1_wayUp_WY, s_X1_wayUp_SU, s_X1_wayUp_TH, if_pos h1]) ?_
    exact v_iret C0 hr hlk hK (by simp only [s_X1_wayUp, s_X1_wayUp_RO, s_X1_wayUp_WY, s_X1_wayUp_SU, s_X1_wayUp_TH, if_pos h1]) dX1_wayUp_35
theorem BI_start {ST QU : Nat → Int32} {fr : Int32} (hfr : vp_in fr 96) : ∃ q, (1 : Int32) = nI q ∧ BI (xPut 96 ST fr 0) (xPut 96 QU 0 fr) q ∧ 0 ≤ q := by
  obtain ⟨j, hj, rfl⟩ := vp_in_of hfr (by decide)
  rw [show (0 : Int32) = nI 0 from rfl, xPut_nI hj (by decide), xPut_nI (by decide) (by decide)]
  refine ⟨1, rfl, ⟨by decide, fun i hi => ?_, fun a b hab hb => by omega⟩, by decide⟩
  have h0 : i = 0 := by omega
  subst h0
  exact ⟨j, 0, hj, Nat.le_refl _, pk_us, pk_us⟩
def s_X1_spread_L1  (i1 : Nat) (ST_L1 : Nat → Int32) : Nat → Int32 := (xPut 96 ST_L1 (nI i1) (-1))
def s_X1_spread_L2 (U : Nat → Int32) (T : Nat → Int32) (F : Nat → Int32) (C : Nat → Int32) (TR : Int32) (RO : Nat → Int32) (WY : Nat → Int32) (SU : Nat → Int32) (fr : Int32) (k0 : Nat) (i2 : Nat) (z : (Nat → Int32) × (Nat → Int32) × Int32) : (Nat → Int32) × (Nat → Int32) × Int32 := match z with
  | (ST_L2, QU_L2, QN_L2) => if (s_X1_isLive F TR (s_X1_layTree_WY F C RO WY SU) ((((xAt 96 QU_L2 (nI k0)) / 16) * 6) + (nI i2))) = 0 then (if (xAt 96 ST_L2 fr) = (-1) then (xPut 96 ST_L2 fr ((xAt 96 ST_L2 (xAt 96 QU_L2 (nI k0))) + 1), xPut 96 QU_L2 QN_L2 fr, QN_L2 + 1) else (ST_L2, QU_L2, QN_L2)) else (if (s_X1_carried U T F ((((xAt 96 QU_L2 (nI k0)) / 16) * 6) + (nI i2)) ((xAt 96 QU_L2 (nI k0)) - (xAt 96 QU_L2 (nI k0)) / 16 * 16)) = (-1) then (if (xAt 96 ST_L2 fr) = (-1) then (xPut 96 ST_L2 fr ((xAt 96 ST_L2 (xAt 96 QU_L2 (nI k0))) + 1), xPut 96 QU_L2 QN_L2 fr, QN_L2 + 1) else (ST_L2, QU_L2, QN_L2)) else (if (xAt 96 ST_L2 (s_X1_place ((xAt 36 F ((((xAt 96 QU_L2 (nI k0)) / 16) * 6) + (nI i2))) / 6) (s_X1_carried U T F ((((xAt 96 QU_L2 (nI k0)) / 16) * 6) + (nI i2)) ((xAt 96 QU_L2 (nI k0)) - (xAt 96 QU_L2 (nI k0)) / 16 * 16)))) = (-1) then (xPut 96 ST_L2 (s_X1_place ((xAt 36 F ((((xAt 96 QU_L2 (nI k0)) / 16) * 6) + (nI i2))) / 6) (s_X1_carried U T F ((((xAt 96 QU_L2 (nI k0)) / 16) * 6) + (nI i2)) ((xAt 96 QU_L2 (nI k0)) - (xAt 96 QU_L2 (nI k0)) / 16 * 16))) ((xAt 96 ST_L2 (xAt 96 QU_L2 (nI k0))) + 1), xPut 96 QU_L2 QN_L2 (s_X1_place ((xAt 36 F ((((xAt 96 QU_L2 (nI k0)) / 16) * 6) + (nI i2))) / 6) (s_X1_carried U T F ((((xAt 96 QU_L2 (nI k0)) / 16) * 6) + (nI i2)) ((xAt 96 QU_L2 (nI k0)) - (xAt 96 QU_L2 (nI k0)) / 16 * 16))), QN_L2 + 1) else (ST_L2, QU_L2, QN_L2)))
def s_sp (U : Nat → Int32) (T : Nat → Int32) (F : Nat → Int32) (C : Nat → Int32) (TR : Int32) (RO : Nat → Int32) (WY : Nat → Int32) (SU : Nat → Int32) (fr : Int32) : Nat → Nat → (Nat → Int32) × (Nat → Int32) × Int32 → (Nat → Int32) × (Nat → Int32) × Int32
  | 0, _, z => z
  | n + 1, k0, (ST_1, QU_1, QN_1) => if QN_1 ≤ (nI k0) then (ST_1, QU_1, QN_1) else s_sp U T F C TR RO WY SU fr n (k0 + 1) (lp (s_X1_spread_L2 U T F C TR RO WY SU fr k0) 6 (ST_1, QU_1, QN_1))
def s_X1_spread_RO (F : Nat → Int32) (RO : Nat → Int32) : Nat → Int32 := (s_X1_layTree_RO F RO)
def s_X1_spread_WY (F : Nat → Int32) (C : Nat → Int32) (RO : Nat → Int32) (WY : Nat → Int32) (SU : Nat → Int32) : Nat → Int32 := (s_X1_layTree_WY F C RO WY SU)
def s_X1_spread_SU (F : Nat → Int32) (C : Nat → Int32) (RO : Nat → Int32) (SU : Nat → Int32) : Nat → Int32 := (s_X1_layTree_SU F C RO SU)
def s_X1_spread_ST (U : Nat → Int32) (T : Nat → Int32) (F : Nat → Int32) (C : Nat → Int32) (TR : Int32) (RO : Nat → Int32) (WY : Nat → Int32) (SU : Nat → Int32) (ST : Nat → Int32) (QU : Nat → Int32) (fr : Int32) : Nat → Int32 := ((s_sp U T F C TR RO WY SU fr 97 0 (xPut 96 (lp s_X1_spread_L1 96 ST) fr 0, xPut 96 QU 0 fr, 1)).1)
def s_X1_spread_QU (U : Nat → Int32) (T : Nat → Int32) (F : Nat → Int32) (C : Nat → Int32) (TR : Int32) (RO : Nat → Int32) (WY : Nat → Int32) (SU : Nat → Int32) (ST : Nat → Int32) (QU : Nat → Int32) (fr : Int32) : Nat → Int32 := ((s_sp U T F C TR RO WY SU fr 97 0 (xPut 96 (lp s_X1_spread_L1 96 ST) fr 0, xPut 96 QU 0 fr, 1)).2.1)
def s_X1_spread_QN (U : Nat → Int32) (T : Nat → Int32) (F : Nat → Int32) (C : Nat → Int32) (TR : Int32) (RO : Nat → Int32) (WY : Nat → Int32) (SU : Nat → Int32) (ST : Nat → Int32) (QU : Nat → Int32) (fr : Int32) : Int32 := ((s_sp U T F C TR RO WY SU fr 97 0 (xPut 96 (lp s_X1_spread_L1 96 ST) fr 0, xPut 96 QU 0 fr, 1)).2.2)
set_option maxHeartbeats 4000000 in
set_option maxRecDepth 100000 in
theorem k_X1_spread (l : Launch) (D : va_G) (cI : ClassId) (bd : Nat → Nat) (U : Nat → Int32) (T : Nat → Int32) (F : Nat → Int32) (C : Nat → Int32) (B : Nat → Int32) (CM : Int32) (TR : Int32) (RO : Nat → Int32) (WY : Nat → Int32) (SU : Nat → Int32) (TH : Int32) (ST : Nat → Int32) (QU : Nat → Int32) (QN : Int32) (FE : Nat → Int32) (fr : Int32) (hb_TR : TR = 0 ∨ TR = 1) (hF : FR F) (hU : UR U) (hfr : vp_in fr 96) : Kv l yX1_spread wsX1_spread 2 45 0 0 D (TI cI) [.ref (bd 0), .int fr] (wY cI bd U T F C B CM TR RO WY SU TH ST QU QN FE) (wY cI bd U T F C B CM TR (s_X1_spread_RO F RO) (s_X1_spread_WY F C RO WY SU) (s_X1_spread_SU F C RO SU) TH (s_X1_spread_ST U T F C TR RO WY SU ST QU fr) (s_X1_spread_QU U T F C TR RO WY SU ST QU fr) (s_X1_spread_QN U T F C TR RO WY SU ST QU fr) FE) := by
  refine Kv.of (cc := cX1_spread) (maxL := 7) (lv0 := [(0, .ref (bd 0)), (1, .int fr)]) (by decide +kernel) rfl (Nat.le_of_ble_eq_true rfl) rfl ?_
  intro p e s m args below meth c A C0 hr hlk hK hA
  refine v_aload_n C0 (pc' := 1) 0 rfl rfl dX1_spread_0 rfl ?_
  refine v_callVv0 C0 (av := []) (rest := []) (ws' := wY cI bd U T F C B CM TR (s_X1_layTree_RO F RO) (s_X1_layTree_WY F C RO WY SU) (s_X1_layTree_SU F C RO SU) TH ST QU QN FE) (pc' := 4) hK hA (k_X1_layTree l D cI bd U T F C B CM TR RO WY SU TH ST QU QN FE  hF) (cwV 0 C0.2.2.2.2 gX1_spread_X1_layTree rfl rfl rfl (by decide +kernel) ⟨Nat.le_of_ble_eq_true rfl, Nat.le_of_ble_eq_true rfl⟩) ⟨0, 1, _, _, _, rfl, rfl⟩ PLs.all rfl rfl (Nat.le_of_ble_eq_true rfl) ⟨Nat.zero_le _, Nat.zero_le _⟩ dX1_spread_1 rfl ?_
  refine v_iconst C0 (pc' := 5) 0 (by decide) dX1_spread_4 rfl ?_
  refine v_istore_n C0 (lv' := [(2, .int 0), (0, .ref (bd 0)), (1, .int fr)]) (pc' := 6) rfl (by decide) rfl dX1_spread_5 rfl ?_
  suffices LP1 : ∀ (j1 i1 : Nat) (x1 : Int32) (ST_L1 : Nat → Int32), i1 + j1 = 96 → x1 = nI i1 → ST_L1 = lp s_X1_spread_L1 i1 ST → V p l e { frames := 2, cells := 0, slots := 0, locals := 45 } s m args below meth c D A 7 0 0 (MQ below (QV D (TI cI) (wY cI bd U T F C B CM TR (s_X1_spread_RO F RO) (s_X1_spread_WY F C RO WY SU) (s_X1_spread_SU F C RO SU) TH (s_X1_spread_ST U T F C TR RO WY SU ST QU fr) (s_X1_spread_QU U T F C TR RO WY SU ST QU fr) (s_X1_spread_QN U T F C TR RO WY SU ST QU fr) FE) A) args s 0 0 A) (wY cI bd U T F C B CM TR (s_X1_layTree_RO F RO) (s_X1_layTree_WY F C RO WY SU) (s_X1_layTree_SU F C RO SU) TH ST_L1 QU QN FE) [(2, .int x1), (0, .ref (bd 0)), (1, .int fr)] 6 [] by
    exact v_sub (lv' := [(2, .int 0), (0, .ref (bd 0)), (1, .int fr)]) [0, 1, 2] rfl (LP1 96 0 0 ST (Nat.zero_add _) nI_0.symm (lp_zero _ _).symm)
  intro j1
  induction j1 with
  | zero =>
    intro i1 x1 ST_L1 hi1 hx1 hs_L1
    have hi1 : 96 = i1 := by omega
    subst hi1
    subst hx1
    refine v_iload_n C0 (pc' := 7) 0 rfl rfl dX1_spread_6 rfl ?_
    refine v_bipush C0 (pc' := 9) 96 (by decide) dX1_spread_7 rfl ?_
    refine v_icmp_ge C0 25 (pc' := 12) dX1_spread_9 (by decide) rfl (fun h1 => ?_) (fun h1 => ?_)
    · refine v_aload_n C0 (pc' := 26) 1 rfl rfl dX1_spread_25 rfl ?_
      refine v_get C0 hK (C := RX1) (T := TX1) (N := 15) (pc' := 29) 0 11 rfl rfl rfl (by decide) in_X1_spread fl_X1_spread_34 rfl dX1_spread_26 rfl ?_
      refine v_iload_n C0 (pc' := 30) 2 rfl rfl dX1_spread_29 rfl ?_
      refine v_iconst C0 (pc' := 31) 0 (by decide) dX1_spread_30 rfl ?_
      refine v_iasx C0 hK (ws' := wY cI bd U T F C B CM TR (s_X1_layTree_RO F RO) (s_X1_layTree_WY F C RO WY SU) (s_X1_layTree_SU F C RO SU) TH (xPut 96 ST_L1 fr 0) QU QN FE) (pc' := 32) 9 0 rfl rfl rfl hfr (by decide) dX1_spread_31 rfl ?_
      refine v_aload_n C0 (pc' := 33) 1 rfl rfl dX1_spread_32 rfl ?_
      refine v_get C0 hK (C := RX1) (T := TX1) (N := 15) (pc' := 36) 0 12 rfl rfl rfl (by decide) in_X1_spread fl_X1_spread_37 rfl dX1_spread_33 rfl ?_
      refine v_iconst C0 (pc' := 37) 0 (by decide) dX1_spread_36 rfl ?_
      refine v_iload_n C0 (pc' := 38) 2 rfl rfl dX1_spread_37 rfl ?_
      refine v_iasx C0 hK (ws' := wY cI bd U T F C B CM TR (s_X1_layTree_RO F RO) (s_X1_layTree_WY F C RO WY SU) (s_X1_layTree_SU F C RO SU) TH (xPut 96 ST_L1 fr 0) (xPut 96 QU 0 fr) QN FE) (pc' := 39) 10 0 rfl rfl rfl (vp_in_nI (n := 0) (by decide) (by decide)) (by decide) dX1_spread_38 rfl ?_
      refine v_aload_n C0 (pc' := 40) 1 rfl rfl dX1_spread_39 rfl ?_
      refine v_iconst C0 (pc' := 41) 1 (by decide) dX1_spread_40 rfl ?_
      refine v_put C0 hK (C := RX1) (T := TX1) (N := 15) (ws' := wY cI bd U T F C B CM TR (s_X1_layTree_RO F RO) (s_X1_layTree_WY F C RO WY SU) (s_X1_layTree_SU F C RO SU) TH (xPut 96 ST_L1 fr 0) (xPut 96 QU 0 fr) 1 FE) (pc' := 44) 0 13 tyX1 rfl rfl rfl (by decide) (Nat.le_of_ble_eq_true rfl) tyX1_ok nmX1 in_X1_spread fl_X1_spread_90 rfl rfl rfl rfl rfl dX1_spread_41 rfl ?_
      refine v_iconst C0 (pc' := 45) 0 (by decide) dX1_spread_44 rfl ?_
      refine v_istore_n C0 (lv' := [(2, .int 0), (0, .ref (bd 0)), (1, .int fr)]) (pc' := 46) rfl (by decide) rfl dX1_spread_45 rfl ?_
      suffices LP : ∀ (n k0 : Nat) (ST_1 QU_1 : Nat → Int32) (QN_1 : Int32), 97 ≤ n + k0 → (∃ q, QN_1 = nI q ∧ BI ST_1 QU_1 q ∧ k0 ≤ q) → s_sp U T F C TR RO WY SU fr n k0 (ST_1, QU_1, QN_1) = s_sp U T F C TR RO WY SU fr 97 0 (xPut 96 ST_L1 fr 0, xPut 96 QU 0 fr, 1) → V p l e { frames := 2, cells := 0, slots := 0, locals := 45 } s m args below meth c D A 7 0 0 (MQ below (QV D (TI cI) (wY cI bd U T F C B CM TR (s_X1_spread_RO F RO) (s_X1_spread_WY F C RO WY SU) (s_X1_spread_SU F C RO SU) TH (s_X1_spread_ST U T F C TR RO WY SU ST QU fr) (s_X1_spread_QU U T F C TR RO WY SU ST QU fr) (s_X1_spread_QN U T F C TR RO WY SU ST QU fr) FE) A) args s 0 0 A) (wY cI bd U T F C B CM TR (s_X1_layTree_RO F RO) (s_X1_layTree_WY F C RO WY SU) (s_X1_layTree_SU F C RO SU) TH ST_1 QU_1 QN_1 FE) [(2, .int (nI k0)), (0, .ref (bd 0)), (1, .int fr)] 46 [] by
        exact v_sub (lv' := [(2, .int 0), (0, .ref (bd 0)), (1, .int fr)]) [0, 1, 2] rfl (LP 97 0 (xPut 96 ST_L1 fr 0) (xPut 96 QU 0 fr) 1 (by decide) (BI_start hfr) rfl)
      intro n
      induction n with
      | zero =>
        intro k0 ST_1 QU_1 QN_1 hf hq hs
        obtain ⟨q, -, ⟨h1, -⟩, h2⟩ := hq
        omega
      | succ n ih =>
        intro k0 ST_1 QU_1 QN_1 hf hq hs
        refine v_iload_n C0 (pc' := 47) 0 rfl rfl dX1_spread_46 rfl ?_
        refine v_aload_n C0 (pc' := 48) 1 rfl rfl dX1_spread_47 rfl ?_
        refine v_get C0 hK (C := RX1) (T := TX1) (N := 15) (pc' := 51) 0 13 rfl rfl rfl (by decide) in_X1_spread fl_X1_spread_90 rfl dX1_spread_48 rfl ?_
        refine v_icmp_ge C0 199 (pc' := 54) dX1_spread_51 (by decide) rfl (fun h1 => ?_) (fun h1 => ?_)
        · refine v_world (ws' := wY cI bd U T F C B CM TR (s_X1_spread_RO F RO) (s_X1_spread_WY F C RO WY SU) (s_X1_spread_SU F C RO SU) TH (s_X1_spread_ST U T F C TR RO WY SU ST QU fr) (s_X1_spread_QU U T F C TR RO WY SU ST QU fr) (s_X1_spread_QN U T F C TR RO WY SU ST QU fr) FE) (by rw [s_X1_spread_ST, s_X1_spread_QU, s_X1_spread_QN, s_X1_spread_RO, s_X1_spread_WY, s_X1_spread_SU]; simp only [← hs_L1]; rw [← hs]; simp only [s_sp, if_pos h1]) ?_
          exact v_vret C0 hr hlk hK dX1_spread_199
        · refine v_iconst C0 (pc' := 55) 0 (by decide) dX1_spread_54 rfl ?_
          refine v_istore_n C0 (lv' := [(3, .int 0), (2, .int (nI k0)), (0, .ref (bd 0)), (1, .int fr)]) (pc' := 56) rfl (by decide) rfl dX1_spread_55 rfl ?_
          have hbk0 : BK ST_1 QU_1 QN_1 k0 := by
            obtain ⟨q, e1, b1, k1⟩ := hq
            refine ⟨q, e1, b1, ?_⟩
            rcases Nat.lt_or_ge k0 q with z | z
            · exact z
            · exact absurd (by rw [e1]; exact nI_le z (by have := b1.1; omega)) h1
          suffices LP2 : ∀ (j2 i2 : Nat) (x2 : Int32) (ST_L2 : Nat → Int32) (QU_L2 : Nat → Int32) (QN_L2 : Int32), i2 + j2 = 6 → x2 = nI i2 → (ST_L2, QU_L2, QN_L2) = lp (s_X1_spread_L2 U T F C TR RO WY SU fr k0) i2 (ST_1, QU_1, QN_1) → (BK ST_L2 QU_L2 QN_L2 k0) → V p l e { frames := 2, cells := 0, slots := 0, locals := 45 } s m args below meth c D A 7 0 0 (MQ below (QV D (TI cI) (wY cI bd U T F C B CM TR (s_X1_spread_RO F RO) (s_X1_spread_WY F C RO WY SU) (s_X1_spread_SU F C RO SU) TH (s_X1_spread_ST U T F C TR RO WY SU ST QU fr) (s_X1_spread_QU U T F C TR RO WY SU ST QU fr) (s_X1_spread_QN U T F C TR RO WY SU ST QU fr) FE) A) args s 0 0 A) (wY cI bd U T F C B CM TR (s_X1_layTree_RO F RO) (s_X1_layTree_WY F C RO WY SU) (s_X1_layTree_SU F C RO SU) TH ST_L2 QU_L2 QN_L2 FE) [(3, .int x2), (2, .int (nI k0)), (0, .ref (bd 0)), (1, .int fr)] 56 [] by
            exact v_sub (lv' := [(3, .int 0), (2, .int (nI k0)), (0, .ref (bd 0)), (1, .int fr)]) [0, 1, 2, 3] rfl (LP2 6 0 0 ST_1 QU_1 QN_1 (Nat.zero_add _) nI_0.symm (lp_zero _ _).symm hbk0)
          intro j2
          induction j2 with
          | zero =>
            intro i2 x2 ST_L2 QU_L2 QN_L2 hi2 hx2 hs_L2 hbk
            have hi2 : 6 = i2 := by omega
            subst hi2
            subst hx2
            refine v_iload_n C0 (pc' := 57) 0 rfl rfl dX1_spread_56 rfl ?_
            refine v_bipush C0 (pc' := 59) 6 (by decide) dX1_spread_57 rfl ?_
            refine v_icmp_ge C0 193 (pc' := 62) dX1_spread_59 (by decide) rfl (fun h2 => ?_) (fun h2 => ?_)
            · refine v_iinc C0 (lv' := [(2, .int ((nI k0) + 1)), (3, .int (nI 6)), (0, .ref (bd 0)), (1, .int fr)]) (pc' := 196) 1 rfl ((nI k0) + 1) rfl (by decide) rfl dX1_spread_193 rfl ?_
              refine v_goto C0 46 dX1_spread_196 (by decide) ?_
              obtain ⟨q2, e2, b2, k2⟩ := hbk
              refine v_sub (lv' := [(2, .int (nI (k0 + 1))), (0, .ref (bd 0)), (1, .int fr)]) [0, 2, 3] (by rw [← nI_1 k0]; rfl) ?_
              exact ih (k0 + 1) ST_L2 QU_L2 QN_L2 (by omega) ⟨q2, e2, b2, by omega⟩ (by rw [← hs]; simp only [s_sp, if_neg h1, ← hs_L2])
            · exact absurd (by decide +kernel) h2
          | succ j2 ih2 =>
            intro i2 x2 ST_L2 QU_L2 QN_L2 hi2 hx2 hs_L2 hbk
            subst hx2
            refine v_iload_n C0 (pc' := 57) 0 rfl rfl dX1_spread_56 rfl ?_
            refine v_bipush C0 (pc' := 59) 6 (by decide) dX1_spread_57 rfl ?_
            refine v_icmp_ge C0 193 (pc' := 62) dX1_spread_59 (by decide) rfl (fun h3 => ?_) (fun h3 => ?_)
            · exact absurd h3 (nI_ge (a := i2) (b := 6) (by omega) (by decide))
            · refine v_aload_n C0 (pc' := 63) 2 rfl rfl dX1_spread_62 rfl ?_
              refine v_get C0 hK (C := RX1) (T := TX1) (N := 15) (pc' := 66) 0 12 rfl rfl rfl (by decide) in_X1_spread fl_X1_spread_37 rfl dX1_spread_63 rfl ?_
              refine v_iload_n C0 (pc' := 67) 1 rfl rfl dX1_spread_66 rfl ?_
              refine v_ialx C0 hK (pc' := 68) 10 0 rfl rfl (BK_k hbk) (by decide) dX1_spread_67 rfl ?_
              refine v_bipush C0 (pc' := 70) 16 (by decide) dX1_spread_68 rfl ?_
              refine v_idiv C0 (pc' := 71) (by decide) dX1_spread_70 rfl ?_
              refine v_bipush C0 (pc' := 73) 6 (by decide) dX1_spread_71 rfl ?_
              refine v_imul C0 (pc' := 74) dX1_spread_73 rfl ?_
              refine v_iload_n C0 (pc' := 75) 0 rfl rfl dX1_spread_74 rfl ?_
              refine v_iadd C0 (pc' := 76) dX1_spread_75 rfl ?_
              refine v_istore C0 (lv' := [(4, .int ((((xAt 96 QU_L2 (nI k0)) / 16) * 6) + (nI i2))), (3, .int (nI i2)), (2, .int (nI k0)), (0, .ref (bd 0)), (1, .int fr)]) (pc' := 78) (by decide) rfl dX1_spread_76 rfl ?_
              refine v_aload_n C0 (pc' := 79) 3 rfl rfl dX1_spread_78 rfl ?_
              refine v_iload C0 (pc' := 81) 0 rfl dX1_spread_79 rfl ?_
              refine v_callVi0 C0 (av := [.int ((((xAt 96 QU_L2 (nI k0)) / 16) * 6) + (nI i2))]) (rest := []) (ws' := wY cI bd U T F C B CM TR (s_X1_layTree_RO F RO) (s_X1_layTree_WY F C RO WY SU) (s_X1_layTree_SU F C RO SU) TH ST_L2 QU_L2 QN_L2 FE) (pc' := 84) hK hA (k_X1_isLive l D cI bd U T F C B CM TR (s_X1_layTree_RO F RO) (s_X1_layTree_WY F C RO WY SU) (s_X1_layTree_SU F C RO SU) TH ST_L2 QU_L2 QN_L2 FE ((((xAt 96 QU_L2 (nI k0)) / 16) * 6) + (nI i2)) hb_TR (at_in (BK_qk hbk) (by omega)) hF) (cwV 1 C0.2.2.2.2 gX1_spread_X1_isLive rfl rfl rfl (by decide +kernel) ⟨Nat.le_of_ble_eq_true rfl, Nat.le_of_ble_eq_true rfl⟩) ⟨0, 1, _, _, _, rfl, rfl⟩ PLs.all rfl rfl (Nat.le_of_ble_eq_true rfl) ⟨Nat.zero_le _, Nat.zero_le _⟩ dX1_spread_81 rfl ?_
              refine v_if_eq C0 105 (pc' := 87) dX1_spread_84 (by decide) rfl (fun h4 => ?_) (fun h4 => ?_)
              · refine v_iconst C0 (pc' := 106) (-1) (by decide) dX1_spread_105 rfl ?_
                refine v_istore C0 (lv' := [(5, .int (-1)), (4, .int ((((xAt 96 QU_L2 (nI k0)) / 16) * 6) + (nI i2))), (3, .int (nI i2)), (2, .int (nI k0)), (0, .ref (bd 0)), (1, .int fr)]) (pc' := 108) (by decide) rfl dX1_spread_106 rfl ?_
                refine v_iload C0 (pc' := 110) 0 rfl dX1_spread_108 rfl ?_
                refine v_iconst C0 (pc' := 111) (-1) (by decide) dX1_spread_110 rfl ?_
                refine v_icmp_ne C0 118 (pc' := 114) dX1_spread_111 (by decide) rfl (fun h5 => ?_) (fun h5 => ?_)
                · exact absurd (by decide) h5
                · refine v_iload_n C0 (pc' := 115) 5 rfl rfl dX1_spread_114 rfl ?_
                  refine v_goto C0 133 dX1_spread_115 (by decide) ?_
                  refine v_istore C0 (lv' := [(6, .int fr), (5, .int (-1)), (4, .int ((((xAt 96 QU_L2 (nI k0)) / 16) * 6) + (nI i2))), (3, .int (nI i2)), (2, .int (nI k0)), (0, .ref (bd 0)), (1, .int fr)]) (pc' := 135) (by decide) rfl dX1_spread_133 rfl ?_
                  refine v_aload_n C0 (pc' := 136) 5 rfl rfl dX1_spread_135 rfl ?_
                  refine v_get C0 hK (C := RX1) (T := TX1) (N := 15) (pc' := 139) 0 11 rfl rfl rfl (by decide) in_X1_spread fl_X1_spread_34 rfl dX1_spread_136 rfl ?_
                  refine v_iload C0 (pc' := 141) 0 rfl dX1_spread_139 rfl ?_
                  refine v_ialx C0 hK (pc' := 142) 9 0 rfl rfl hfr (by decide) dX1_spread_141 rfl ?_
                  refine v_iconst C0 (pc' := 143) (-1) (by decide) dX1_spread_142 rfl ?_
                  refine v_icmp_ne C0 187 (pc' := 146) dX1_spread_143 (by decide) rfl (fun h6 => ?_) (fun h6 => ?_)
                  · refine v_iinc C0 (lv' := [(3, .int ((nI i2) + 1)), (6, .int fr), (5, .int (-1)), (4, .int ((((xAt 96 QU_L2 (nI k0)) / 16) * 6) + (nI i2))), (2, .int (nI k0)), (0, .ref (bd 0)), (1, .int fr)]) (pc' := 190) 3 rfl ((nI i2) + 1) rfl (by decide) rfl dX1_spread_187 rfl ?_
                    refine v_goto C0 56 dX1_spread_190 (by decide) ?_
                    exact v_sub (lv' := [(3, .int ((nI i2) + 1)), (2, .int (nI k0)), (0, .ref (bd 0)), (1, .int fr)]) [0, 4, 5, 6] rfl (ih2 (i2 + 1) ((nI i2) + 1) ST_L2 QU_L2 QN_L2 (by omega) (by rw [nI_1]) (by rw [lp_succ, ← hs_L2]; simp only [s_X1_spread_L2, if_neg h1, if_neg h3, if_pos h4, if_neg h6]) hbk)
                  · refine v_aload_n C0 (pc' := 147) 5 rfl rfl dX1_spread_146 rfl ?_
                    refine v_get C0 hK (C := RX1) (T := TX1) (N := 15) (pc' := 150) 0 11 rfl rfl rfl (by decide) in_X1_spread fl_X1_spread_34 rfl dX1_spread_147 rfl ?_
                    refine v_iload C0 (pc' := 152) 0 rfl dX1_spread_150 rfl ?_
                    refine v_aload_n C0 (pc' := 153) 5 rfl rfl dX1_spread_152 rfl ?_
                    refine v_get C0 hK (C := RX1) (T := TX1) (N := 15) (pc' := 156) 0 11 rfl rfl rfl (by decide) in_X1_spread fl_X1_spread_34 rfl dX1_spread_153 rfl ?_
                    refine v_aload_n C0 (pc' := 157) 5 rfl rfl dX1_spread_156 rfl ?_
                    refine v_get C0 hK (C := RX1) (T := TX1) (N := 15) (pc' := 160) 0 12 rfl rfl rfl (by decide) in_X1_spread fl_X1_spread_37 rfl dX1_spread_157 rfl ?_
                    refine v_iload_n C0 (pc' := 161) 4 rfl rfl dX1_spread_160 rfl ?_
                    refine v_ialx C0 hK (pc' := 162) 10 0 rfl rfl (BK_k hbk) (by decide) dX1_spread_161 rfl ?_
                    refine v_ialx C0 hK (pc' := 163) 9 0 rfl rfl (BK_qk hbk) (by decide) dX1_spread_162 rfl ?_
                    refine v_iconst C0 (pc' := 164) 1 (by decide) dX1_spread_163 rfl ?_
                    refine v_iadd C0 (pc' := 165) dX1_spread_164 rfl ?_
                    refine v_iasx C0 hK (ws' := wY cI bd U T F C B CM TR (s_X1_layTree_RO F RO) (s_X1_layTree_WY F C RO WY SU) (s_X1_layTree_SU F C RO SU) TH (xPut 96 ST_L2 fr ((xAt 96 ST_L2 (xAt 96 QU_L2 (nI k0))) + 1)) QU_L2 QN_L2 FE) (pc' := 166) 9 0 rfl rfl rfl hfr (by decide) dX1_spread_165 rfl ?_
                    refine v_aload_n C0 (pc' := 167) 5 rfl rfl dX1_spread_166 rfl ?_
                    refine v_get C0 hK (C := RX1) (T := TX1) (N := 15) (pc' := 170) 0 12 rfl rfl rfl (by decide) in_X1_spread fl_X1_spread_37 rfl dX1_spread_167 rfl ?_
                    refine v_aload_n C0 (pc' := 171) 5 rfl rfl dX1_spread_170 rfl ?_
                    refine v_get C0 hK (C := RX1) (T := TX1) (N := 15) (pc' := 174) 0 13 rfl rfl rfl (by decide) in_X1_spread fl_X1_spread_90 rfl dX1_spread_171 rfl ?_
                    refine v_iload C0 (pc' := 176) 0 rfl dX1_spread_174 rfl ?_
                    refine v_iasx C0 hK (ws' := wY cI bd U T F C B CM TR (s_X1_layTree_RO F RO) (s_X1_layTree_WY F C RO WY SU) (s_X1_layTree_SU F C RO SU) TH (xPut 96 ST_L2 fr ((xAt 96 ST_L2 (xAt 96 QU_L2 (nI k0))) + 1)) (xPut 96 QU_L2 QN_L2 fr) QN_L2 FE) (pc' := 177) 10 0 rfl rfl rfl (BK_room hbk hfr h6) (by decide) dX1_spread_176 rfl ?_
                    refine v_aload_n C0 (pc' := 178) 5 rfl rfl dX1_spread_177 rfl ?_
                    refine v_dup C0 (pc' := 179) rfl dX1_spread_178 rfl ?_
                    refine v_get C0 hK (C := RX1) (T := TX1) (N := 15) (pc' := 182) 0 13 rfl rfl rfl (by decide) in_X1_spread fl_X1_spread_90 rfl dX1_spread_179 rfl ?_
                    refine v_iconst C0 (pc' := 183) 1 (by decide) dX1_spread_182 rfl ?_
                    refine v_iadd C0 (pc' := 184) dX1_spread_183 rfl ?_
                    refine v_put C0 hK (C := RX1) (T := TX1) (N := 15) (ws' := wY cI bd U T F C B CM TR (s_X1_layTree_RO F RO) (s_X1_layTree_WY F C RO WY SU) (s_X1_layTree_SU F C RO SU) TH (xPut 96 ST_L2 fr ((xAt 96 ST_L2 (xAt 96 QU_L2 (nI k0))) + 1)) (xPut 96 QU_L2 QN_L2 fr) (QN_L2 + 1) FE) (pc' := 187) 0 13 tyX1 rfl rfl rfl (by decide) (Nat.le_of_ble_eq_true rfl) tyX1_ok nmX1 in_X1_spread fl_X1_spread_90 rfl rfl rfl rfl rfl dX1_spread_184 rfl ?_
                    refine v_iinc C0 (lv' := [(3, .int ((nI i2) + 1)), (6, .int fr), (5, .int (-1)), (4, .int ((((xAt 96 QU_L2 (nI k0)) / 16) * 6) + (nI i2))), (2, .int (nI k0)), (0, .ref (bd 0)), (1, .int fr)]) (pc' := 190) 3 rfl ((nI i2) + 1) rfl (by decide) rfl dX1_spread_187 rfl ?_
                    refine v_goto C0 56 dX1_spread_190 (by decide) ?_
                    exact v_sub (lv' := [(3, .int ((nI i2) + 1)), (2, .int (nI k0)), (0, .ref (bd 0)), (1, .int fr)]) [0, 4, 5, 6] rfl (ih2 (i2 + 1) ((nI i2) + 1) (xPut 96 ST_L2 fr ((xAt 96 ST_L2 (xAt 96 QU_L2 (nI k0))) + 1)) (xPut 96 QU_L2 QN_L2 fr) (QN_L2 + 1) (by omega) (by rw [nI_1]) (by rw [lp_succ, ← hs_L2]; simp only [s_X1_spread_L2, if_neg h1, if_neg h3, if_pos h4, if_pos h6]) (BK_add hbk hfr h6))
              · refine v_aload_n C0 (pc' := 88) 3 rfl rfl dX1_spread_87 rfl ?_
                refine v_iload C0 (pc' := 90) 0 rfl dX1_spread_88 rfl ?_
                refine v_aload_n C0 (pc' := 91) 3 rfl rfl dX1_spread_90 rfl ?_
                refine v_get C0 hK (C := RX1) (T := TX1) (N := 15) (pc' := 94) 0 12 rfl rfl rfl (by decide) in_X1_spread fl_X1_spread_37 rfl dX1_spread_91 rfl ?_
                refine v_iload_n C0 (pc' := 95) 2 rfl rfl dX1_spread_94 rfl ?_
                refine v_ialx C0 hK (pc' := 96) 10 0 rfl rfl (BK_k hbk) (by decide) dX1_spread_95 rfl ?_
                refine v_bipush C0 (pc' := 98) 16 (by decide) dX1_spread_96 rfl ?_
                refine v_irem C0 (pc' := 99) (by decide) dX1_spread_98 rfl ?_
                refine v_callVi0 C0 (av := [.int ((((xAt 96 QU_L2 (nI k0)) / 16) * 6) + (nI i2)), .int ((xAt 96 QU_L2 (nI k0)) - (xAt 96 QU_L2 (nI k0)) / 16 * 16)]) (rest := []) (ws' := wY cI bd U T F C B CM TR (s_X1_layTree_RO F RO) (s_X1_layTree_WY F C RO WY SU) (s_X1_layTree_SU F C RO SU) TH ST_L2 QU_L2 QN_L2 FE) (pc' := 102) hK hA (k_X1_carried l D cI bd U T F C B CM TR (s_X1_layTree_RO F RO) (s_X1_layTree_WY F C RO WY SU) (s_X1_layTree_SU F C RO SU) TH ST_L2 QU_L2 QN_L2 FE ((((xAt 96 QU_L2 (nI k0)) / 16) * 6) + (nI i2)) ((xAt 96 QU_L2 (nI k0)) - (xAt 96 QU_L2 (nI k0)) / 16 * 16) (at_in (BK_qk hbk) (by omega)) hF (live_end h4)) (cwV 2 C0.2.2.2.2 gX1_spread_X1_carried rfl rfl rfl (by decide +kernel) ⟨Nat.le_of_ble_eq_true rfl, Nat.le_of_ble_eq_true rfl⟩) ⟨0, 1, _, _, _, rfl, rfl⟩ PLs.all rfl rfl (Nat.le_of_ble_eq_true rfl) ⟨Nat.zero_le _, Nat.zero_le _⟩ dX1_spread_99 rfl ?_
                refine v_goto C0 106 dX1_spread_102 (by decide) ?_
                refine v_istore C0 (lv' := [(5, .int (s_X1_carried U T F ((((xAt 96 QU_L2 (nI k0)) / 16) * 6) + (nI i2)) ((xAt 96 QU_L2 (nI k0)) - (xAt 96 QU_L2 (nI k0)) / 16 * 16))), (4, .int ((((xAt 96 QU_L2 (nI k0)) / 16) * 6) + (nI i2))), (3, .int (nI i2)), (2, .int (nI k0)), (0, .ref (bd 0)), (1, .int fr)]) (pc' := 108) (by decide) rfl dX1_spread_106 rfl ?_
                refine v_iload C0 (pc' := 110) 0 rfl dX1_spread_108 rfl ?_
                refine v_iconst C0 (pc' := 111) (-1) (by decide) dX1_spread_110 rfl ?_
                refine v_icmp_ne C0 118 (pc' := 114) dX1_spread_111 (by decide) rfl (fun h7 => ?_) (fun h7 => ?_)
                · refine v_aload_n C0 (pc' := 119) 4 rfl rfl dX1_spread_118 rfl ?_
                  refine v_get C0 hK (C := RX1) (T := TX1) (N := 15) (pc' := 122) 0 2 rfl rfl rfl (by decide) in_X1_spread fl_X1_spread_16 rfl dX1_spread_119 rfl ?_
                  refine v_iload C0 (pc' := 124) 1 rfl dX1_spread_122 rfl ?_
                  refine v_ialx C0 hK (pc' := 125) 3 0 rfl rfl (at_in (BK_qk hbk) (by omega)) (by decide) dX1_spread_124 rfl ?_
                  refine v_bipush C0 (pc' := 127) 6 (by decide) dX1_spread_125 rfl ?_
                  refine v_idiv C0 (pc' := 128) (by decide) dX1_spread_127 rfl ?_
                  refine v_iload C0 (pc' := 130) 0 rfl dX1_spread_128 rfl ?_
                  refine v_callSi0 C0 (av := [.int ((xAt 36 F ((((xAt 96 QU_L2 (nI k0)) / 16) * 6) + (nI i2))) / 6), .int (s_X1_carried U T F ((((xAt 96 QU_L2 (nI k0)) / 16) * 6) + (nI i2)) ((xAt 96 QU_L2 (nI k0)) - (xAt 96 QU_L2 (nI k0)) / 16 * 16))]) (rest := []) (ws' := wY cI bd U T F C B CM TR (s_X1_layTree_RO F RO) (s_X1_layTree_WY F C RO WY SU) (s_X1_layTree_SU F C RO SU) TH ST_L2 QU_L2 QN_L2 FE) (pc' := 133) hK hA (k_X1_place l D cI ((xAt 36 F ((((xAt 96 QU_L2 (nI k0)) / 16) * 6) + (nI i2))) / 6) (s_X1_carried U T F ((((xAt 96 QU_L2 (nI k0)) / 16) * 6) + (nI i2)) ((xAt 96 QU_L2 (nI k0)) - (xAt 96 QU_L2 (nI k0)) / 16 * 16))) (va_cwS 2 C0.2.2.2.2 gX1_spread_X1_place rfl rfl rfl (by decide +kernel) ⟨Nat.le_of_ble_eq_true rfl, Nat.le_of_ble_eq_true rfl⟩) PLs.nil rfl rfl (Nat.le_of_ble_eq_true rfl) ⟨Nat.zero_le _, Nat.zero_le _⟩ dX1_spread_130 rfl ?_
                  refine v_istore C0 (lv' := [(6, .int (s_X1_place ((xAt 36 F ((((xAt 96 QU_L2 (nI k0)) / 16) * 6) + (nI i2))) / 6) (s_X1_carried U T F ((((xAt 96 QU_L2 (nI k0)) / 16) * 6) + (nI i2)) ((xAt 96 QU_L2 (nI k0)) - (xAt 96 QU_L2 (nI k0)) / 16 * 16)))), (5, .int (s_X1_carried U T F ((((xAt 96 QU_L2 (nI k0)) / 16) * 6) + (nI i2)) ((xAt 96 QU_L2 (nI k0)) - (xAt 96 QU_L2 (nI k0)) / 16 * 16))), (4, .int ((((xAt 96 QU_L2 (nI k0)) / 16) * 6) + (nI i2))), (3, .int (nI i2)), (2, .int (nI k0)), (0, .ref (bd 0)), (1, .int fr)]) (pc' := 135) (by decide) rfl dX1_spread_133 rfl ?_
                  refine v_aload_n C0 (pc' := 136) 5 rfl rfl dX1_spread_135 rfl ?_
                  refine v_get C0 hK (C := RX1) (T := TX1) (N := 15) (pc' := 139) 0 11 rfl rfl rfl (by decide) in_X1_spread fl_X1_spread_34 rfl dX1_spread_136 rfl ?_
                  refine v_iload C0 (pc' := 141) 0 rfl dX1_spread_139 rfl ?_
                  refine v_ialx C0 hK (pc' := 142) 9 0 rfl rfl (place_in (div6_in (FR_in hF (at_in (BK_qk hbk) (by omega)) (live_end h4))) (carried_in hU hF (at_in (BK_qk hbk) (by omega)) (live_end h4) (rem16_in (BK_qk hbk)) h7)) (by decide) dX1_spread_141 rfl ?_
                  refine v_iconst C0 (pc' := 143) (-1) (by decide) dX1_spread_142 rfl ?_
                  refine v_icmp_ne C0 187 (pc' := 146) dX1_spread_143 (by decide) rfl (fun h8 => ?_) (fun h8 => ?_)
                  · refine v_iinc C0 (lv' := [(3, .int ((nI i2) + 1)), (6, .int (s_X1_place ((xAt 36 F ((((xAt 96 QU_L2 (nI k0)) / 16) * 6) + (nI i2))) / 6) (s_X1_carried U T F ((((xAt 96 QU_L2 (nI k0)) / 16) * 6) + (nI i2)) ((xAt 96 QU_L2 (nI k0)) - (xAt 96 QU_L2 (nI k0)) / 16 * 16)))), (5, .int (s_X1_carried U T F ((((xAt 96 QU_L2 (nI k0)) / 16) * 6) + (nI i2)) ((xAt 96 QU_L2 (nI k0)) - (xAt 96 QU_L2 (nI k0)) / 16 * 16))), (4, .int ((((xAt 96 QU_L2 (nI k0)) / 16) * 6) + (nI i2))), (2, .int (nI k0)), (0, .ref (bd 0)), (1, .int fr)]) (pc' := 190) 3 rfl ((nI i2) + 1) rfl (by decide) rfl dX1_spread_187 rfl ?_
                    refine v_goto C0 56 dX1_spread_190 (by decide) ?_
                    exact v_sub (lv' := [(3, .int ((nI i2) + 1)), (2, .int (nI k0)), (0, .ref (bd 0)), (1, .int fr)]) [0, 4, 5, 6] rfl (ih2 (i2 + 1) ((nI i2) + 1) ST_L2 QU_L2 QN_L2 (by omega) (by rw [nI_1]) (by rw [lp_succ, ← hs_L2]; simp only [s_X1_spread_L2, if_neg h1, if_neg h3, if_neg h4, if_neg h7, if_neg h8]) hbk)
                  · refine v_aload_n C0 (pc' := 147) 5 rfl rfl dX1_spread_146 rfl ?_
                    refine v_get C0 hK (C := RX1) (T := TX1) (N := 15) (pc' := 150) 0 11 rfl rfl rfl (by decide) in_X1_spread fl_X1_spread_34 rfl dX1_spread_147 rfl ?_
                    refine v_iload C0 (pc' := 152) 0 rfl dX1_spread_150 rfl ?_
                    refine v_aload_n C0 (pc' := 153) 5 rfl rfl dX1_spread_152 rfl ?_
                    refine v_get C0 hK (C := RX1) (T := TX1) (N := 15) (pc' := 156) 0 11 rfl rfl rfl (by decide) in_X1_spread fl_X1_spread_34 rfl dX1_spread_153 rfl ?_
                    refine v_aload_n C0 (pc' := 157) 5 rfl rfl dX1_spread_156 rfl ?_
                    refine v_get C0 hK (C := RX1) (T := TX1) (N := 15) (pc' := 160) 0 12 rfl rfl rfl (by decide) in_X1_spread fl_X1_spread_37 rfl dX1_spread_157 rfl ?_
                    refine v_iload_n C0 (pc' := 161) 4 rfl rfl dX1_spread_160 rfl ?_
                    refine v_ialx C0 hK (pc' := 162) 10 0 rfl rfl (BK_k hbk) (by decide) dX1_spread_161 rfl ?_
                    refine v_ialx C0 hK (pc' := 163) 9 0 rfl rfl (BK_qk hbk) (by decide) dX1_spread_162 rfl ?_
                    refine v_iconst C0 (pc' := 164) 1 (by decide) dX1_spread_163 rfl ?_
                    refine v_iadd C0 (pc' := 165) dX1_spread_164 rfl ?_
                    refine v_iasx C0 hK (ws' := wY cI bd U T F C B CM TR (s_X1_layTree_RO F RO) (s_X1_layTree_WY F C RO WY SU) (s_X1_layTree_SU F C RO SU) TH (xPut 96 ST_L2 (s_X1_place ((xAt 36 F ((((xAt 96 QU_L2 (nI k0)) / 16) * 6) + (nI i2))) / 6) (s_X1_carried U T F ((((xAt 96 QU_L2 (nI k0)) / 16) * 6) + (nI i2)) ((xAt 96 QU_L2 (nI k0)) - (xAt 96 QU_L2 (nI k0)) / 16 * 16))) ((xAt 96 ST_L2 (xAt 96 QU_L2 (nI k0))) + 1)) QU_L2 QN_L2 FE) (pc' := 166) 9 0 rfl rfl rfl (place_in (div6_in (FR_in hF (at_in (BK_qk hbk) (by omega)) (live_end h4))) (carried_in hU hF (at_in (BK_qk hbk) (by omega)) (live_end h4) (rem16_in (BK_qk hbk)) h7)) (by decide) dX1_spread_165 rfl ?_
                    refine v_aload_n C0 (pc' := 167) 5 rfl rfl dX1_spread_166 rfl ?_
                    refine v_get C0 hK (C := RX1) (T := TX1) (N := 15) (pc' := 170) 0 12 rfl rfl rfl (by decide) in_X1_spread fl_X1_spread_37 rfl dX1_spread_167 rfl ?_
                    refine v_aload_n C0 (pc' := 171) 5 rfl rfl dX1_spread_170 rfl ?_
                    refine v_get C0 hK (C := RX1) (T := TX1) (N := 15) (pc' := 174) 0 13 rfl rfl rfl (by decide) in_X1_spread fl_X1_spread_90 rfl dX1_spread_171 rfl ?_
                    refine v_iload C0 (pc' := 176) 0 rfl dX1_spread_174 rfl ?_
                    refine v_iasx C0 hK (ws' := wY cI bd U T F C B CM TR (s_X1_layTree_RO F RO) (s_X1_layTree_WY F C RO WY SU) (s_X1_layTree_SU F C RO SU) TH (xPut 96 ST_L2 (s_X1_place ((xAt 36 F ((((xAt 96 QU_L2 (nI k0)) / 16) * 6) + (nI i2))) / 6) (s_X1_carried U T F ((((xAt 96 QU_L2 (nI k0)) / 16) * 6) + (nI i2)) ((xAt 96 QU_L2 (nI k0)) - (xAt 96 QU_L2 (nI k0)) / 16 * 16))) ((xAt 96 ST_L2 (xAt 96 QU_L2 (nI k0))) + 1)) (xPut 96 QU_L2 QN_L2 (s_X1_place ((xAt 36 F ((((xAt 96 QU_L2 (nI k0)) / 16) * 6) + (nI i2))) / 6) (s_X1_carried U T F ((((xAt 96 QU_L2 (nI k0)) / 16) * 6) + (nI i2)) ((xAt 96 QU_L2 (nI k0)) - (xAt 96 QU_L2 (nI k0)) / 16 * 16)))) QN_L2 FE) (pc' := 177) 10 0 rfl rfl rfl (BK_room hbk (place_in (div6_in (FR_in hF (at_in (BK_qk hbk) (by omega)) (live_end h4))) (carried_in hU hF (at_in (BK_qk hbk) (by omega)) (live_end h4) (rem16_in (BK_qk hbk)) h7)) h8) (by decide) dX1_spread_176 rfl ?_
                    refine v_aload_n C0 (pc' := 178) 5 rfl rfl dX1_spread_177 rfl ?_
                    refine v_dup C0 (pc' := 179) rfl dX1_spread_178 rfl ?_
                    refine v_get C0 hK (C := RX1) (T := TX1) (N := 15) (pc' := 182) 0 13 rfl rfl rfl (by decide) in_X1_spread fl_X1_spread_90 rfl dX1_spread_179 rfl ?_
                    refine v_iconst C0 (pc' := 183) 1 (by decide) dX1_spread_182 rfl ?_
                    refine v_iadd C0 (pc' := 184) dX1_spread_183 rfl ?_
                    refine v_put C0 hK (C := RX1) (T := TX1) (N := 15) (ws' := wY cI bd U T F C B CM TR (s_X1_layTree_RO F RO) (s_X1_layTree_WY F C RO WY SU) (s_X1_layTree_SU F C RO SU) TH (xPut 96 ST_L2 (s_X1_place ((xAt 36 F ((((xAt 96 QU_L2 (nI k0)) / 16) * 6) + (nI i2))) / 6) (s_X1_carried U T F ((((xAt 96 QU_L2 (nI k0)) / 16) * 6) + (nI i2)) ((xAt 96 QU_L2 (nI k0)) - (xAt 96 QU_L2 (nI k0)) / 16 * 16))) ((xAt 96 ST_L2 (xAt 96 QU_L2 (nI k0))) + 1)) (xPut 96 QU_L2 QN_L2 (s_X1_place ((xAt 36 F ((((xAt 96 QU_L2 (nI k0)) / 16) * 6) + (nI i2))) / 6) (s_X1_carried U T F ((((xAt 96 QU_L2 (nI k0)) / 16) * 6) + (nI i2)) ((xAt 96 QU_L2 (nI k0)) - (xAt 96 QU_L2 (nI k0)) / 16 * 16)))) (QN_L2 + 1) FE) (pc' := 187) 0 13 tyX1 rfl rfl rfl (by decide) (Nat.le_of_ble_eq_true rfl) tyX1_ok nmX1 in_X1_spread fl_X1_spread_90 rfl rfl rfl rfl rfl dX1_spread_184 rfl ?_
                    refine v_iinc C0 (lv' := [(3, .int ((nI i2) + 1)), (6, .int (s_X1_place ((xAt 36 F ((((xAt 96 QU_L2 (nI k0)) / 16) * 6) + (nI i2))) / 6) (s_X1_carried U T F ((((xAt 96 QU_L2 (nI k0)) / 16) * 6) + (nI i2)) ((xAt 96 QU_L2 (nI k0)) - (xAt 96 QU_L2 (nI k0)) / 16 * 16)))), (5, .int (s_X1_carried U T F ((((xAt 96 QU_L2 (nI k0)) / 16) * 6) + (nI i2)) ((xAt 96 QU_L2 (nI k0)) - (xAt 96 QU_L2 (nI k0)) / 16 * 16))), (4, .int ((((xAt 96 QU_L2 (nI k0)) / 16) * 6) + (nI i2))), (2, .int (nI k0)), (0, .ref (bd 0)), (1, .int fr)]) (pc' := 190) 3 rfl ((nI i2) + 1) rfl (by decide) rfl dX1_spread_187 rfl ?_
                    refine v_goto C0 56 dX1_spread_190 (by decide) ?_
                    exact v_sub (lv' := [(3, .int ((nI i2) + 1)), (2, .int (nI k0)), (0, .ref (bd 0)), (1, .int fr)]) [0, 4, 5, 6] rfl (ih2 (i2 + 1) ((nI i2) + 1) (xPut 96 ST_L2 (s_X1_place ((xAt 36 F ((((xAt 96 QU_L2 (nI k0)) / 16) * 6) + (nI i2))) / 6) (s_X1_carried U T F ((((xAt 96 QU_L2 (nI k0)) / 16) * 6) + (nI i2)) ((xAt 96 QU_L2 (nI k0)) - (xAt 96 QU_L2 (nI k0)) / 16 * 16))) ((xAt 96 ST_L2 (xAt 96 QU_L2 (nI k0))) + 1)) (xPut 96 QU_L2 QN_L2 (s_X1_place ((xAt 36 F ((((xAt 96 QU_L2 (nI k0)) / 16) * 6) + (nI i2))) / 6) (s_X1_carried U T F ((((xAt 96 QU_L2 (nI k0)) / 16) * 6) + (nI i2)) ((xAt 96 QU_L2 (nI k0)) - (xAt 96 QU_L2 (nI k0)) / 16 * 16)))) (QN_L2 + 1) (by omega) (by rw [nI_1]) (by rw [lp_succ, ← hs_L2]; simp only [s_X1_spread_L2, if_neg h1, if_neg h3, if_neg h4, if_neg h7, if_pos h8]) (BK_add hbk (place_in (div6_in (FR_in hF (at_in (BK_qk hbk) (by omega)) (live_end h4))) (carried_in hU hF (at_in (BK_qk hbk) (by omega)) (live_end h4) (rem16_in (BK_qk hbk)) h7)) h8))
                · refine v_iload_n C0 (pc' := 115) 5 rfl rfl dX1_spread_114 rfl ?_
                  refine v_goto C0 133 dX1_spread_115 (by decide) ?_
                  refine v_istore C0 (lv' := [(6, .int fr), (5, .int (s_X1_carried U T F ((((xAt 96 QU_L2 (nI k0)) / 16) * 6) + (nI i2)) ((xAt 96 QU_L2 (nI k0)) - (xAt 96 QU_L2 (nI k0)) / 16 * 16))), (4, .int ((((xAt 96 QU_L2 (nI k0)) / 16) * 6) + (nI i2))), (3, .int (nI i2)), (2, .int (nI k0)), (0, .ref (bd 0)), (1, .int fr)]) (pc' := 135) (by decide) rfl dX1_spread_133 rfl ?_
                  refine v_aload_n C0 (pc' := 136) 5 rfl rfl dX1_spread_135 rfl ?_
                  refine v_get C0 hK (C := RX1) (T := TX1) (N := 15) (pc' := 139) 0 11 rfl rfl rfl (by decide) in_X1_spread fl_X1_spread_34 rfl dX1_spread_136 rfl ?_
                  refine v_iload C0 (pc' := 141) 0 rfl dX1_spread_139 rfl ?_
                  refine v_ialx C0 hK (pc' := 142) 9 0 rfl rfl hfr (by decide) dX1_spread_141 rfl ?_
                  refine v_iconst C0 (pc' := 143) (-1) (by decide) dX1_spread_142 rfl ?_
                  refine v_icmp_ne C0 187 (pc' := 146) dX1_spread_143 (by decide) rfl (fun h9 => ?_) (fun h9 => ?_)
                  · refine v_iinc C0 (lv' := [(3, .int ((nI i2) + 1)), (6, .int fr), (5, .int (s_X1_carried U T F ((((xAt 96 QU_L2 (nI k0)) / 16) * 6) + (nI i2)) ((xAt 96 QU_L2 (nI k0)) - (xAt 96 QU_L2 (nI k0)) / 16 * 16))), (4, .int ((((xAt 96 QU_L2 (nI k0)) / 16) * 6) + (nI i2))), (2, .int (nI k0)), (0, .ref (bd 0)), (1, .int fr)]) (pc' := 190) 3 rfl ((nI i2) + 1) rfl (by decide) rfl dX1_spread_187 rfl ?_
                    refine v_goto C0 56 dX1_spread_190 (by decide) ?_
                    exact v_sub (lv' := [(3, .int ((nI i2) + 1)), (2, .int (nI k0)), (0, .ref (bd 0)), (1, .int fr)]) [0, 4, 5, 6] rfl (ih2 (i2 + 1) ((nI i2) + 1) ST_L2 QU_L2 QN_L2 (by omega) (by rw [nI_1]) (by rw [lp_succ, ← hs_L2]; simp only [s_X1_spread_L2, if_neg h1, if_neg h3, if_neg h4, if_pos h7, if_neg h9]) hbk)
                  · refine v_aload_n C0 (pc' := 147) 5 rfl rfl dX1_spread_146 rfl ?_
                    refine v_get C0 hK (C := RX1) (T := TX1) (N := 15) (pc' := 150) 0 11 rfl rfl rfl (by decide) in_X1_spread fl_X1_spread_34 rfl dX1_spread_147 rfl ?_
                    refine v_iload C0 (pc' := 152) 0 rfl dX1_spread_150 rfl ?_
                    refine v_aload_n C0 (pc' := 153) 5 rfl rfl dX1_spread_152 rfl ?_
                    refine v_get C0 hK (C := RX1) (T := TX1) (N := 15) (pc' := 156) 0 11 rfl rfl rfl (by decide) in_X1_spread fl_X1_spread_34 rfl dX1_spread_153 rfl ?_
                    refine v_aload_n C0 (pc' := 157) 5 rfl rfl dX1_spread_156 rfl ?_
                    refine v_get C0 hK (C := RX1) (T := TX1) (N := 15) (pc' := 160) 0 12 rfl rfl rfl (by decide) in_X1_spread fl_X1_spread_37 rfl dX1_spread_157 rfl ?_
                    refine v_iload_n C0 (pc' := 161) 4 rfl rfl dX1_spread_160 rfl ?_
                    refine v_ialx C0 hK (pc' := 162) 10 0 rfl rfl (BK_k hbk) (by decide) dX1_spread_161 rfl ?_
                    refine v_ialx C0 hK (pc' := 163) 9 0 rfl rfl (BK_qk hbk) (by decide) dX1_spread_162 rfl ?_
                    refine v_iconst C0 (pc' := 164) 1 (by decide) dX1_spread_163 rfl ?_
                    refine v_iadd C0 (pc' := 165) dX1_spread_164 rfl ?_
                    refine v_iasx C0 hK (ws' := wY cI bd U T F C B CM TR (s_X1_layTree_RO F RO) (s_X1_layTree_WY F C RO WY SU) (s_X1_layTree_SU F C RO SU) TH (xPut 96 ST_L2 fr ((xAt 96 ST_L2 (xAt 96 QU_L2 (nI k0))) + 1)) QU_L2 QN_L2 FE) (pc' := 166) 9 0 rfl rfl rfl hfr (by decide) dX1_spread_165 rfl ?_
                    refine v_aload_n C0 (pc' := 167) 5 rfl rfl dX1_spread_166 rfl ?_
                    refine v_get C0 hK (C := RX1) (T := TX1) (N := 15) (pc' := 170) 0 12 rfl rfl rfl (by decide) in_X1_spread fl_X1_spread_37 rfl dX1_spread_167 rfl ?_
                    refine v_aload_n C0 (pc' := 171) 5 rfl rfl dX1_spread_170 rfl ?_
                    refine v_get C0 hK (C := RX1) (T := TX1) (N := 15) (pc' := 174) 0 13 rfl rfl rfl (by decide) in_X1_spread fl_X1_spread_90 rfl dX1_spread_171 rfl ?_
                    refine v_iload C0 (pc' := 176) 0 rfl dX1_spread_174 rfl ?_
                    refine v_iasx C0 hK (ws' := wY cI bd U T F C B CM TR (s_X1_layTree_RO F RO) (s_X1_layTree_WY F C RO WY SU) (s_X1_layTree_SU F C RO SU) TH (xPut 96 ST_L2 fr ((xAt 96 ST_L2 (xAt 96 QU_L2 (nI k0))) + 1)) (xPut 96 QU_L2 QN_L2 fr) QN_L2 FE) (pc' := 177) 10 0 rfl rfl rfl (BK_room hbk hfr h9) (by decide) dX1_spread_176 rfl ?_
                    refine v_aload_n C0 (pc' := 178) 5 rfl rfl dX1_spread_177 rfl ?_
                    refine v_dup C0 (pc' := 179) rfl dX1_spread_178 rfl ?_
                    refine v_get C0 hK (C := RX1) (T := TX1) (N := 15) (pc' := 182) 0 13 rfl rfl rfl (by decide) in_X1_spread fl_X1_spread_90 rfl dX1_spread_179 rfl ?_
                    refine v_iconst C0 (pc' := 183) 1 (by decide) dX1_spread_182 rfl ?_
                    refine v_iadd C0 (pc' := 184) dX1_spread_183 rfl ?_
                    refine v_put C0 hK (C := RX1) (T := TX1) (N := 15) (ws' := wY cI bd U T F C B CM TR (s_X1_layTree_RO F RO) (s_X1_layTree_WY F C RO WY SU) (s_X1_layTree_SU F C RO SU) TH (xPut 96 ST_L2 fr ((xAt 96 ST_L2 (xAt 96 QU_L2 (nI k0))) + 1)) (xPut 96 QU_L2 QN_L2 fr) (QN_L2 + 1) FE) (pc' := 187) 0 13 tyX1 rfl rfl rfl (by decide) (Nat.le_of_ble_eq_true rfl) tyX1_ok nmX1 in_X1_spread fl_X1_spread_90 rfl rfl rfl rfl rfl dX1_spread_184 rfl ?_
                    refine v_iinc C0 (lv' := [(3, .int ((nI i2) + 1)), (6, .int fr), (5, .int (s_X1_carried U T F ((((xAt 96 QU_L2 (nI k0)) / 16) * 6) + (nI i2)) ((xAt 96 QU_L2 (nI k0)) - (xAt 96 QU_L2 (nI k0)) / 16 * 16))), (4, .int ((((xAt 96 QU_L2 (nI k0)) / 16) * 6) + (nI i2))), (2, .int (nI k0)), (0, .ref (bd 0)), (1, .int fr)]) (pc' := 190) 3 rfl ((nI i2) + 1) rfl (by decide) rfl dX1_spread_187 rfl ?_
                    refine v_goto C0 56 dX1_spread_190 (by decide) ?_
                    exact v_sub (lv' := [(3, .int ((nI i2) + 1)), (2, .int (nI k0)), (0, .ref (bd 0)), (1, .int fr)]) [0, 4, 5, 6] rfl (ih2 (i2 + 1) ((nI i2) + 1) (xPut 96 ST_L2 fr ((xAt 96 ST_L2 (xAt 96 QU_L2 (nI k0))) + 1)) (xPut 96 QU_L2 QN_L2 fr) (QN_L2 + 1) (by omega) (by rw [nI_1]) (by rw [lp_succ, ← hs_L2]; simp only [s_X1_spread_L2, if_neg h1, if_neg h3, if_neg h4, if_pos h7, if_pos h9]) (BK_add hbk hfr h9))
    · exact absurd (by decide +kernel) h1
  | succ j1 ih1 =>
    intro i1 x1 ST_L1 hi1 hx1 hs_L1
    subst hx1
    refine v_iload_n C0 (pc' := 7) 0 rfl rfl dX1_spread_6 rfl ?_
    refine v_bipush C0 (pc' := 9) 96 (by decide) dX1_spread_7 rfl ?_
    refine v_icmp_ge C0 25 (pc' := 12) dX1_spread_9 (by decide) rfl (fun h2 => ?_) (fun h2 => ?_)
    · exact absurd h2 (nI_ge (a := i1) (b := 96) (by omega) (by decide))
    · refine v_aload_n C0 (pc' := 13) 1 rfl rfl dX1_spread_12 rfl ?_
      refine v_get C0 hK (C := RX1) (T := TX1) (N := 15) (pc' := 16) 0 11 rfl rfl rfl (by decide) in_X1_spread fl_X1_spread_34 rfl dX1_spread_13 rfl ?_
      refine v_iload_n C0 (pc' := 17) 0 rfl rfl dX1_spread_16 rfl ?_
      refine v_iconst C0 (pc' := 18) (-1) (by decide) dX1_spread_17 rfl ?_
      refine v_iasx C0 hK (ws' := wY cI bd U T F C B CM TR (s_X1_layTree_RO F RO) (s_X1_layTree_WY F C RO WY SU) (s_X1_layTree_SU F C RO SU) TH (xPut 96 ST_L1 (nI i1) (-1)) QU QN FE) (pc' := 19) 9 0 rfl rfl rfl (vp_in_nI (by omega) (by decide)) (by decide) dX1_spread_18 rfl ?_
      refine v_iinc C0 (lv' := [(2, .int ((nI i1) + 1)), (0, .ref (bd 0)), (1, .int fr)]) (pc' := 22) 0 rfl ((nI i1) + 1) rfl (by decide) rfl dX1_spread_19 rfl ?_
      refine v_goto C0 6 dX1_spread_22 (by decide) ?_
      exact v_sub (lv' := [(2, .int ((nI i1) + 1)), (0, .ref (bd 0)), (1, .int fr)]) [0, 1, 2] rfl (ih1 (i1 + 1) ((nI i1) + 1) (xPut 96 ST_L1 (nI i1) (-1)) (by omega) (by rw [nI_1]) (by rw [lp_succ, ← hs_L1]; simp only [s_X1_spread_L1, if_neg h2]))
