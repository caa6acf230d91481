/-! each call, on two objects of one picture: what both answer, what both are then -/
def OC1 (l : Launch) (y : MethodName) (ws : List Cond) (fo lo f1 l1 : Nat) (D : va_G) (cI : ClassId) (av : List Value) (wx wx' : va_W) (r TH : Int32) : Prop := (TH = 0 ∧ Ki l y ws fo lo 0 0 D (TI cI) av wx wx' r) ∨ (TH = 1 ∧ wx' = wx ∧ Kx l y ws f1 l1 D (TI cI) av wx xIAE)
def OC2 (l : Launch) (y : MethodName) (ws : List Cond) (fo lo f1 l1 f2 l2 : Nat) (D : va_G) (cI : ClassId) (av : List Value) (wx wx' : va_W) (r TH : Int32) (E2 : String) : Prop := (TH = 0 ∧ Ki l y ws fo lo 0 0 D (TI cI) av wx wx' r) ∨ (TH = 1 ∧ wx' = wx ∧ Kx l y ws f1 l1 D (TI cI) av wx xIAE) ∨ (TH = 2 ∧ wx' = wx ∧ Kx l y ws f2 l2 D (TI cI) av wx E2)
theorem h10 : ¬ (1 : Int32) = 0 := by decide
theorem h00 : (0 : Int32) = 0 := rfl
theorem hop_eq {U T F C' WU : Nat → Int32} {TR : Int32} {RO WY SU : Nat → Int32} (hF : WF F) (hU : WU_ U) (hT : WT_ U T) (hW : ∀ v, v < 6 → s_X1_layTree_WY F C' RO WY SU v = WU v) {f0 p : Nat} (hf : f0 < 96) (hp : p < 96) (S1 Q1 S2 Q2 : Nat → Int32) : xAt 96 (s_X1_spread_ST U T F C' TR RO WY SU S1 Q1 (nI f0)) (nI p) = xAt 96 (s_X0_walkFrom_ST U T F WU (s_X0_forgetWalks_ST S2) Q2 s_X0_forgetWalks_RN TR (nI f0)) (nI p) ∧ s_X1_spread_QN U T F C' TR RO WY SU S1 Q1 (nI f0) = s_X0_walkFrom_RN U T F WU (s_X0_forgetWalks_ST S2) Q2 s_X0_forgetWalks_RN TR (nI f0) := by
  obtain ⟨q, Z1, Z2, h, e1, e2, e3, e4⟩ := spread_eq (TR := TR) hF hU hT hW hf S1 Q1 S2 Q2
  rw [xAt_nI hp (by decide), xAt_nI hp (by decide), e1, e2, e3, e4, h.1, h.2.1, h.2.2.2.1 p hp]
  exact ⟨rfl, rfl⟩
theorem same_lane {U : Nat → Int32} (hU : WU_ U) {s : Nat} (hs : s < 36) : ∃ u, u < 16 ∧ xAt 36 U (nI s) = nI u ∧ (¬ xAt 36 U (nI s) = 0 → okL (xAt 36 U (nI s))) := by
  obtain ⟨u, hu, e⟩ := hU s hs
  rw [xAt_nI hs (by decide), e]
  refine ⟨u, by omega, rfl, fun z => ⟨fun h => z ?_, ?_⟩⟩
  · have h2 := (nI_ltI (a := u) (b := 1) (by omega) (by decide)).mp h
    have h3 : u = 0 := by omega
    rw [h3]; rfl
  · exact Int32.not_lt.mp (fun h => by have h2 := (nI_ltI (a := 15) (b := u) (by decide) (by omega)).mp h; omega)
set_option maxHeartbeats 1000000 in
theorem q_untag (l : Launch) (hst : l.stackTraces = false) (D : va_G) {cI : ClassId} {ad bd : Nat → Nat} {wx wy : va_W} {t0 : Int32} (h : WP cI ad bd wx wy t0) (a b c : Int32) : ∃ (wx' wy' : va_W) (r TH : Int32), WP cI ad bd wx' wy' TH ∧ Ki l yX1_untag wsX1_untag 2 43 0 0 D (TI cI) [.ref (bd 0), .int a, .int b, .int c] wy wy' r ∧ OC2 l yX0_untag wsX0_untag 2 43 8 123 6 82 D cI [.ref (ad 0), .int a, .int b, .int c] wx wx' r TH xISE := by
  obtain ⟨U, T, F, C, B, RU, RC, WU, ST, RP, RN, WT, SS, CC, TR, C', B', CM, RO, WY, SU, ST', QU, QN, FE, rfl, rfl, hI⟩ := h
  obtain ⟨hF, hU, hT, hC, hB, hR, hN, hV⟩ := id hI
  have k := k_X1_untag l D cI bd U T F C' B' CM TR RO WY SU t0 ST' QU QN FE a b c 
  by_cases hu : okU a ∧ okU b
  · have n1 := port_n0 hu.1 hu.2
    by_cases hl : c = 0 ∨ okL c
    · have n2 : ¬ s_X1_in c 0 15 = 0 := fun z => in015.mp z hl
      obtain ⟨s, v, hs, hv, ea, -, e1, e2⟩ := slot_of hu.1 hu.2
      obtain ⟨q, hq, ec⟩ : ∃ q, q < 16 ∧ c = nI q := hl.elim (fun z => ⟨0, by decide, z⟩) (fun z => by obtain ⟨q, _, h2, e⟩ := okL_of z; exact ⟨q, h2, e⟩)
      subst ec
      by_cases ht : s_X0_isTagged T (nI s) (nI q) = 0
      · have n3 : s_X1_isTagged T (nI s) (nI q) = 0 := by rw [tag_eq hT hs hq]; exact ht
        have kx := k_X0_untag l D cI ad U T F C B RU RC WU ST RP RN WT SS CC TR a b (nI q) hu.1 hu.2 hl (by rw [e1]; exact ht)
        simp only [s_X1_untag, s_X1_untag_U, s_X1_untag_TH, if_neg n1, if_neg n2, e2, if_pos n3] at k
        simp only [s_X0_untag, s_X0_untag_U, e1] at kx
        exact ⟨_, _, _, _, WP.mk ⟨hF, WU_untag hU hs hq, WT_untag hT hs hq ht, hC, hB, hR, hN, hV⟩, k, Or.inl ⟨rfl, kx⟩⟩
      · have n3 : ¬ s_X1_isTagged T (nI s) (nI q) = 0 := by rw [tag_eq hT hs hq]; exact ht
        simp only [s_X1_untag, s_X1_untag_U, s_X1_untag_TH, if_neg n1, if_neg n2, e2, if_neg n3] at k
        exact ⟨_, _, _, _, WP.mk hI, k, Or.inr (Or.inr ⟨rfl, rfl, kx_X0_untag_ISE l hst D cI ad U T F C B RU RC WU ST RP RN WT SS CC TR a b (nI q) hu.1 hu.2 hl (by rw [e1]; exact ht)⟩)⟩
    · simp only [s_X1_untag, s_X1_untag_U, s_X1_untag_TH, if_neg n1, if_pos (in015.mpr hl)] at k
      exact ⟨_, _, _, _, WP.mk hI, k, Or.inr (Or.inl ⟨rfl, rfl, kx_X0_untag_IAE l hst D cI ad U T F C B RU RC WU ST RP RN WT SS CC TR a b c (fun z => hl z.2.2)⟩)⟩
  · simp only [s_X1_untag, s_X1_untag_U, s_X1_untag_TH, if_pos (port0.mpr hu)] at k
    exact ⟨_, _, _, _, WP.mk hI, k, Or.inr (Or.inl ⟨rfl, rfl, kx_X0_untag_IAE l hst D cI ad U T F C B RU RC WU ST RP RN WT SS CC TR a b c (fun z => hu ⟨z.1, z.2.1⟩)⟩)⟩
set_option maxHeartbeats 1000000 in
theorem q_tag (l : Launch) (hst : l.stackTraces = false) (D : va_G) {cI : ClassId} {ad bd : Nat → Nat} {wx wy : va_W} {t0 : Int32} (h : WP cI ad bd wx wy t0) (a b c i : Int32) (hb_i : i = 0 ∨ i = 1) : ∃ (wx' wy' : va_W) (r TH : Int32), WP cI ad bd wx' wy' TH ∧ Ki l yX1_tag wsX1_tag 2 43 0 0 D (TI cI) [.ref (bd 0), .int a, .int b, .int c, .int i] wy wy' r ∧ OC2 l yX0_tag wsX0_tag 2 43 8 123 6 82 D cI [.ref (ad 0), .int a, .int b, .int c, .int i] wx wx' r TH xISE := by
  obtain ⟨U, T, F, C, B, RU, RC, WU, ST, RP, RN, WT, SS, CC, TR, C', B', CM, RO, WY, SU, ST', QU, QN, FE, rfl, rfl, hI⟩ := h
  obtain ⟨hF, hU, hT, hC, hB, hR, hN, hV⟩ := id hI
  have k := k_X1_tag l D cI bd U T F C' B' CM TR RO WY SU t0 ST' QU QN FE a b c i hb_i
  by_cases hu : okU a ∧ okU b
  · have n1 := port_n0 hu.1 hu.2
    by_cases hl : okL c
    · have n2 := place_n0 hu.1 hl
      obtain ⟨s, v, hs, hv, ea, -, e1, e2⟩ := slot_of hu.1 hu.2
      obtain ⟨q, hq1, hq, ec⟩ := okL_of hl
      subst ec
      have eT : s_X1_isTagged T (nI s) (nI q) = s_X0_isTagged T (nI s) (nI q) := tag_eq hT hs hq
      obtain ⟨r1, r2, r3⟩ := tag_row hU hT hs hq1 hq
      by_cases hi : i = 0
      · have kx := k_X0_tag l D cI ad U T F C B RU RC WU ST RP RN WT SS CC TR a b (nI q) i hb_i hu.1 hu.2 hl (fun z => z.1 hi)
        simp only [s_X1_tag, s_X1_tag_T, s_X1_tag_TH, if_neg n1, if_neg n2, e2, if_pos hi, eT] at k
        simp only [s_X0_tag, s_X0_tag_T, e1, if_pos hi] at kx
        exact ⟨_, _, _, _, WP.mk ⟨hF, hU, r2, hC, hB, hR, hN, hV⟩, k, Or.inl ⟨rfl, kx⟩⟩
      · by_cases hq2 : xAt 36 U (nI s) = nI q
        · simp only [s_X1_tag, s_X1_tag_T, s_X1_tag_TH, if_neg n1, if_neg n2, e2, if_neg hi, if_pos hq2] at k
          exact ⟨_, _, _, _, WP.mk hI, k, Or.inr (Or.inr ⟨rfl, rfl, kx_X0_tag_ISE l hst D cI ad U T F C B RU RC WU ST RP RN WT SS CC TR a b (nI q) i hb_i hu.1 hu.2 hl hi (by rw [e1]; exact hq2)⟩)⟩
        · have kx := k_X0_tag l D cI ad U T F C B RU RC WU ST RP RN WT SS CC TR a b (nI q) i hb_i hu.1 hu.2 hl (fun z => hq2 (by rw [← e1]; exact z.2))
          simp only [s_X1_tag, s_X1_tag_T, s_X1_tag_TH, if_neg n1, if_neg n2, e2, if_neg hi, if_neg hq2, eT] at k
          simp only [s_X0_tag, s_X0_tag_T, e1, if_neg hi, r1] at kx
          exact ⟨_, _, _, _, WP.mk ⟨hF, hU, r3 (fun z => hq2 (by rw [xAt_nI hs (by decide)]; exact z)), hC, hB, hR, hN, hV⟩, k, Or.inl ⟨rfl, kx⟩⟩
    · simp only [s_X1_tag, s_X1_tag_T, s_X1_tag_TH, if_neg n1, if_pos (place0.mpr (fun z => hl z.2))] at k
      exact ⟨_, _, _, _, WP.mk hI, k, Or.inr (Or.inl ⟨rfl, rfl, kx_X0_tag_IAE l hst D cI ad U T F C B RU RC WU ST RP RN WT SS CC TR a b c i hb_i (fun z => hl z.2.2)⟩)⟩
  · simp only [s_X1_tag, s_X1_tag_T, s_X1_tag_TH, if_pos (port0.mpr hu)] at k
    exact ⟨_, _, _, _, WP.mk hI, k, Or.inr (Or.inl ⟨rfl, rfl, kx_X0_tag_IAE l hst D cI ad U T F C B RU RC WU ST RP RN WT SS CC TR a b c i hb_i (fun z => hu ⟨z.1, z.2.1⟩)⟩)⟩
set_option maxHeartbeats 1000000 in
theorem q_cable (l : Launch) (hst : l.stackTraces = false) (D : va_G) {cI : ClassId} {ad bd : Nat → Nat} {wx wy : va_W} {t0 : Int32} (h : WP cI ad bd wx wy t0) (a b c d w : Int32) : ∃ (wx' wy' : va_W) (r TH : Int32), WP cI ad bd wx' wy' TH ∧ Ki l yX1_cable wsX1_cable 2 43 0 0 D (TI cI) [.ref (bd 0), .int a, .int b, .int c, .int d, .int w] wy wy' r ∧ OC2 l yX0_cable wsX0_cable 5 114 8 123 6 82 D cI [.ref (ad 0), .int a, .int b, .int c, .int d, .int w] wx wx' r TH xISE := by
  obtain ⟨U, T, F, C, B, RU, RC, WU, ST, RP, RN, WT, SS, CC, TR, C', B', CM, RO, WY, SU, ST', QU, QN, FE, rfl, rfl, hI⟩ := h
  obtain ⟨hF, hU, hT, hC, hB, hR, hN, hV⟩ := id hI
  have k := k_X1_cable l D cI bd U T F C' B' CM TR RO WY SU t0 ST' QU QN FE a b c d w 
  by_cases hu : okU a ∧ okU b
  · have n1 := port_n0 hu.1 hu.2
    by_cases hu2 : okU c ∧ okU d
    · have n2 := port_n0 hu2.1 hu2.2
      by_cases hw : ¬ w < 1 ∧ w ≤ 20
      · have n3 : ¬ s_X1_in w 1 20 = 0 := fun z => in120.mp z hw
        by_cases hne : a = c
        · simp only [s_X1_cable, s_X1_cable_F, s_X1_cable_C, s_X1_cable_CM, s_X1_cable_TH, if_neg n1, if_neg n2, if_neg n3, if_pos hne] at k
          exact ⟨_, _, _, _, WP.mk hI, k, Or.inr (Or.inl ⟨rfl, rfl, kx_X0_cable_IAE l hst D cI ad U T F C B RU RC WU ST RP RN WT SS CC TR a b c d w (fun z => z.2.2.2.2.2.2 hne)⟩)⟩
        · obtain ⟨s, v, hs, hv, ea, ev, e1, e2⟩ := slot_of hu.1 hu.2
          obtain ⟨j, v2, hj, hv2, ec, ev2, e3, e4⟩ := slot_of hu2.1 hu2.2
          have hsj : s / 6 ≠ j / 6 := fun z => hne (by rw [ea, ec, ← ev, ← ev2, z])
          by_cases f1 : F s = -1
          · have x1 : xAt 36 F (nI s) = -1 := by rw [xAt_nI hs (by decide)]; exact f1
            by_cases f2 : F j = -1
            · have x2 : xAt 36 F (nI j) = -1 := by rw [xAt_nI hj (by decide)]; exact f2
              obtain ⟨q, hq1, hq2, ew⟩ : ∃ q, 1 ≤ q ∧ q ≤ 20 ∧ w = nI q := by
                have h1 : vp_in w 21 := vp_in_ofNat (by decide) (fun z => hw.1 (Int32.lt_of_lt_of_le z (by decide))) (fun z => absurd (Int32.le_trans z hw.2) (by decide))
                obtain ⟨q, hq, e⟩ := vp_in_of h1 (by decide)
                refine ⟨q, ?_, by omega, e⟩
                rcases Nat.eq_zero_or_pos q with z | z
                · subst z; exact absurd (show w < 1 by rw [e]; decide) hw.1
                · exact z
              subst ew
              have kx := k_X0_cable l D cI ad U T F C B RU RC WU ST RP RN WT SS CC TR a b c d (nI q) hu.1 hu.2 hu2.1 hu2.2 hw.1 hw.2 hne (by rw [e1]; exact (cab0 hs).mpr f1) (by rw [e3]; exact (cab0 hj).mpr f2)
              simp only [s_X1_cable, s_X1_cable_F, s_X1_cable_C, s_X1_cable_CM, s_X1_cable_TH, if_neg n1, if_neg n2, if_neg n3, if_neg hne, e2, e4, if_pos x1, if_pos x2] at k
              simp only [s_X0_cable, s_X0_cable_F, s_X0_cable_C, s_X0_cable_RU, s_X0_cable_RC, s_X0_cable_WU, s_X0_cable_WT, s_X0_cable_CC, s_X0_setCable_F, s_X0_setCable_C, e1, e3] at kx
              have hF' := WF_cable hF hs hj hsj f1 f2
              have hC' := WC_cable hC hF hs hj hsj f1 f2 hq1 hq2
              subst hN
              exact ⟨_, _, _, _, WP.mk ⟨hF', hU, hT, hC', hB, hR, rfl, TV_grow hF' hC' RU RC WU WT⟩, k, Or.inl ⟨rfl, kx⟩⟩
            · have x2 : ¬ xAt 36 F (nI j) = -1 := by rw [xAt_nI hj (by decide)]; exact f2
              simp only [s_X1_cable, s_X1_cable_F, s_X1_cable_C, s_X1_cable_CM, s_X1_cable_TH, if_neg n1, if_neg n2, if_neg n3, if_neg hne, e2, e4, if_pos x1, if_neg x2] at k
              exact ⟨_, _, _, _, WP.mk hI, k, Or.inr (Or.inr ⟨rfl, rfl, kx_X0_cable_ISE l hst D cI ad U T F C B RU RC WU ST RP RN WT SS CC TR a b c d w hu.1 hu.2 hu2.1 hu2.2 hw.1 hw.2 hne (fun z => f2 ((cab0 hj).mp (by rw [← e3]; exact z.2)))⟩)⟩
          · have x1 : ¬ xAt 36 F (nI s) = -1 := by rw [xAt_nI hs (by decide)]; exact f1
            simp only [s_X1_cable, s_X1_cable_F, s_X1_cable_C, s_X1_cable_CM, s_X1_cable_TH, if_neg n1, if_neg n2, if_neg n3, if_neg hne, e2, e4, if_neg x1] at k
            exact ⟨_, _, _, _, WP.mk hI, k, Or.inr (Or.inr ⟨rfl, rfl, kx_X0_cable_ISE l hst D cI ad U T F C B RU RC WU ST RP RN WT SS CC TR a b c d w hu.1 hu.2 hu2.1 hu2.2 hw.1 hw.2 hne (fun z => f1 ((cab0 hs).mp (by rw [← e1]; exact z.1)))⟩)⟩
      · simp only [s_X1_cable, s_X1_cable_F, s_X1_cable_C, s_X1_cable_CM, s_X1_cable_TH, if_neg n1, if_neg n2, if_pos (in120.mpr hw)] at k
        exact ⟨_, _, _, _, WP.mk hI, k, Or.inr (Or.inl ⟨rfl, rfl, kx_X0_cable_IAE l hst D cI ad U T F C B RU RC WU ST RP RN WT SS CC TR a b c d w (fun z => hw ⟨z.2.2.2.2.1, z.2.2.2.2.2.1⟩)⟩)⟩
    · simp only [s_X1_cable, s_X1_cable_F, s_X1_cable_C, s_X1_cable_CM, s_X1_cable_TH, if_neg n1, if_pos (port0.mpr hu2)] at k
      exact ⟨_, _, _, _, WP.mk hI, k, Or.inr (Or.inl ⟨rfl, rfl, kx_X0_cable_IAE l hst D cI ad U T F C B RU RC WU ST RP RN WT SS CC TR a b c d w (fun z => hu2 ⟨z.2.2.1, z.2.2.2.1⟩)⟩)⟩
  · simp only [s_X1_cable, s_X1_cable_F, s_X1_cable_C, s_X1_cable_CM, s_X1_cable_TH, if_pos (port0.mpr hu)] at k
    exact ⟨_, _, _, _, WP.mk hI, k, Or.inr (Or.inl ⟨rfl, rfl, kx_X0_cable_IAE l hst D cI ad U T F C B RU RC WU ST RP RN WT SS CC TR a b c d w (fun z => hu ⟨z.1, z.2.1⟩)⟩)⟩
set_option maxHeartbeats 1000000 in
theorem q_pull (l : Launch) (hst : l.stackTraces = false) (D : va_G) {cI : ClassId} {ad bd : Nat → Nat} {wx wy : va_W} {t0 : Int32} (h : WP cI ad bd wx wy t0) (a b : Int32) : ∃ (wx' wy' : va_W) (r TH : Int32), WP cI ad bd wx' wy' TH ∧ Ki l yX1_pull wsX1_pull 3 65 0 0 D (TI cI) [.ref (bd 0), .int a, .int b] wy wy' r ∧ OC2 l yX0_pull wsX0_pull 5 114 9 146 7 105 D cI [.ref (ad 0), .int a, .int b] wx wx' r TH xNSE := by
  obtain ⟨U, T, F, C, B, RU, RC, WU, ST, RP, RN, WT, SS, CC, TR, C', B', CM, RO, WY, SU, ST', QU, QN, FE, rfl, rfl, hI⟩ := h
  obtain ⟨hF, hU, hT, hC, hB, hR, hN, hV⟩ := id hI
  have k := k_X1_pull l D cI bd U T F C' B' CM TR RO WY SU t0 ST' QU QN FE a b hF.FR
  by_cases hu : okU a ∧ okU b
  · have n1 := port_n0 hu.1 hu.2
    obtain ⟨s, v, hs, hv, ea, -, e1, e2⟩ := slot_of hu.1 hu.2
    rcases hF s hs with f1 | ⟨j, hj, f1, f2, -⟩
    · have x1 : xAt 36 F (nI s) = -1 := by rw [xAt_nI hs (by decide)]; exact f1
      simp only [s_X1_pull, s_X1_pull_F, s_X1_pull_CM, s_X1_pull_TH, s_X1_hasCable, s_X1_hasCable_TH, if_neg n1, e2, if_pos x1, if_pos h00] at k
      exact ⟨_, _, _, _, WP.mk hI, k, Or.inr (Or.inr ⟨rfl, rfl, kx_X0_pull_NSE l hst D cI ad U T F C B RU RC WU ST RP RN WT SS CC TR a b hu.1 hu.2 (by rw [e1]; exact (cab0 hs).mpr f1)⟩)⟩
    · have x1 : xAt 36 F (nI s) = nI j := by rw [xAt_nI hs (by decide)]; exact f1
      have n2 : ¬ nI j = -1 := nI_m1 (by omega)
      have kx := k_X0_pull l D cI ad U T F C B RU RC WU ST RP RN WT SS CC TR a b hu.1 hu.2 (by rw [e1]; exact fun z => n2 (by rw [← f1]; exact (cab0 hs).mp z))
      simp only [s_X1_pull, s_X1_pull_F, s_X1_pull_CM, s_X1_pull_TH, s_X1_hasCable, s_X1_hasCable_TH, if_neg n1, e2, x1, if_neg n2, if_neg h10] at k
      simp only [s_X0_pull, s_X0_pull_F, s_X0_pull_C, s_X0_pull_RU, s_X0_pull_RC, s_X0_pull_WU, s_X0_pull_WT, s_X0_pull_CC, s_X0_slotWithCable, s_X0_setCable_F, s_X0_setCable_C, e1, x1] at kx
      have hF' := WF_pull hF hs hj f1 f2
      have hC' := WC_pull hC hF hs hj f1 f2
      obtain ⟨c, -, -, c3, c4, -⟩ := hC s hs (by rw [f1]; exact n2)
      have ec : xAt 36 C (nI s) = xAt 36 C' (nI s) := by rw [xAt_nI hs (by decide), xAt_nI hs (by decide), c3, c4]
      subst hN
      rw [ec] at kx
      exact ⟨_, _, _, _, WP.mk ⟨hF', hU, hT, hC', hB, hR, rfl, TV_grow hF' hC' RU RC WU WT⟩, k, Or.inl ⟨rfl, kx⟩⟩
  · simp only [s_X1_pull, s_X1_pull_F, s_X1_pull_CM, s_X1_pull_TH, s_X1_hasCable, s_X1_hasCable_TH, if_pos (port0.mpr hu), if_pos h00] at k
    exact ⟨_, _, _, _, WP.mk hI, k, Or.inr (Or.inl ⟨rfl, rfl, kx_X0_pull_IAE l hst D cI ad U T F C B RU RC WU ST RP RN WT SS CC TR a b hu⟩)⟩
set_option maxHeartbeats 1000000 in
theorem q_note (l : Launch) (hst : l.stackTraces = false) (D : va_G) {cI : ClassId} {ad bd : Nat → Nat} {wx wy : va_W} {t0 : Int32} (h : WP cI ad bd wx wy t0) (a b c d : Int32) : ∃ (wx' wy' : va_W) (r TH : Int32), WP cI ad bd wx' wy' TH ∧ Ki l yX1_note wsX1_note 2 43 0 0 D (TI cI) [.ref (bd 0), .int a, .int b, .int c, .int d] wy wy' r ∧ OC1 l yX0_note wsX0_note 2 41 8 123 D cI [.ref (ad 0), .int a, .int b, .int c, .int d] wx wx' r TH := by
  obtain ⟨U, T, F, C, B, RU, RC, WU, ST, RP, RN, WT, SS, CC, TR, C', B', CM, RO, WY, SU, ST', QU, QN, FE, rfl, rfl, hI⟩ := h
  obtain ⟨hF, hU, hT, hC, hB, hR, hN, hV⟩ := id hI
  have k := k_X1_note l D cI bd U T F C' B' CM TR RO WY SU t0 ST' QU QN FE a b c d 
  by_cases hu : okU a ∧ okU b
  · have n1 := port_n0 hu.1 hu.2
    obtain ⟨s, v, hs, hv, ea, -, e1, e2⟩ := slot_of hu.1 hu.2
    have eB : (if xAt 36 B (nI s) = -1 then (0 : Int32) else 1) = if xAt 36 B' (nI s) = -1 then 0 else 1 := by
      rw [xAt_nI hs (by decide), xAt_nI hs (by decide)]
      by_cases z : B s = -1
      · rw [if_pos z, if_pos ((BB_m1 hB hs).mp z)]
      · rw [if_neg z, if_neg (fun y => z ((BB_m1 hB hs).mpr y))]
    by_cases hc : c = -1
    · have kx := k_X0_note l D cI ad U T F C B RU RC WU ST RP RN WT SS CC TR a b c d hu.1 hu.2 (Or.inl hc)
      simp only [s_X1_note, s_X1_note_B, s_X1_note_TH, if_neg n1, e2, if_pos hc] at k
      simp only [s_X0_note, s_X0_note_B, e1, if_pos hc, eB] at kx
      exact ⟨_, _, _, _, WP.mk ⟨hF, hU, hT, hC, BB_put hB hs (Or.inl ⟨rfl, rfl⟩), hR, hN, hV⟩, k, Or.inl ⟨rfl, kx⟩⟩
    · by_cases hu2 : okU c ∧ okU d
      · have n2 := port_n0 hu2.1 hu2.2
        obtain ⟨j, v2, hj, hv2, ec, -, e3, e4⟩ := slot_of hu2.1 hu2.2
        have kx := k_X0_note l D cI ad U T F C B RU RC WU ST RP RN WT SS CC TR a b c d hu.1 hu.2 (Or.inr hu2)
        simp only [s_X1_note, s_X1_note_B, s_X1_note_TH, if_neg n1, if_neg n2, e2, e4, if_neg hc] at k
        simp only [s_X0_note, s_X0_note_B, e1, e3, if_neg hc, eB] at kx
        exact ⟨_, _, _, _, WP.mk ⟨hF, hU, hT, hC, BB_put hB hs (Or.inr ⟨j, hj, rfl, rfl⟩), hR, hN, hV⟩, k, Or.inl ⟨rfl, kx⟩⟩
      · simp only [s_X1_note, s_X1_note_B, s_X1_note_TH, if_neg n1, if_neg hc, if_pos (port0.mpr hu2)] at k
        exact ⟨_, _, _, _, WP.mk hI, k, Or.inr ⟨rfl, rfl, kx_X0_note_IAE l hst D cI ad U T F C B RU RC WU ST RP RN WT SS CC TR a b c d (fun z => z.2.2.elim hc hu2)⟩⟩
  · simp only [s_X1_note, s_X1_note_B, s_X1_note_TH, if_pos (port0.mpr hu)] at k
    exact ⟨_, _, _, _, WP.mk hI, k, Or.inr ⟨rfl, rfl, kx_X0_note_IAE l hst D cI ad U T F C B RU RC WU ST RP RN WT SS CC TR a b c d (fun z => hu ⟨z.1, z.2.1⟩)⟩⟩
set_option maxHeartbeats 1000000 in
theorem q_far (l : Launch) (hst : l.stackTraces = false) (D : va_G) {cI : ClassId} {ad bd : Nat → Nat} {wx wy : va_W} {t0 : Int32} (h : WP cI ad bd wx wy t0) (a b : Int32) : ∃ (wx' wy' : va_W) (r TH : Int32), WP cI ad bd wx' wy' TH ∧ Ki l yX1_far wsX1_far 2 43 0 0 D (TI cI) [.ref (bd 0), .int a, .int b] wy wy' r ∧ OC1 l yX0_far wsX0_far 2 41 8 123 D cI [.ref (ad 0), .int a, .int b] wx wx' r TH := by
  obtain ⟨U, T, F, C, B, RU, RC, WU, ST, RP, RN, WT, SS, CC, TR, C', B', CM, RO, WY, SU, ST', QU, QN, FE, rfl, rfl, hI⟩ := h
  obtain ⟨hF, hU, hT, hC, hB, hR, hN, hV⟩ := id hI
  have k := k_X1_far l D cI bd U T F C' B' CM TR RO WY SU t0 ST' QU QN FE a b 
  by_cases hu : okU a ∧ okU b
  · have n1 := port_n0 hu.1 hu.2
    obtain ⟨s, v, hs, hv, ea, -, e1, e2⟩ := slot_of hu.1 hu.2
    have kx := k_X0_far l D cI ad U T F C B RU RC WU ST RP RN WT SS CC TR a b hu.1 hu.2
    simp only [s_X1_far, s_X1_far_TH, if_neg n1, e2] at k
    simp only [s_X0_far, s_X0_endName, e1] at kx
    exact ⟨_, _, _, _, WP.mk hI, k, Or.inl ⟨rfl, kx⟩⟩
  · simp only [s_X1_far, s_X1_far_TH, if_pos (port0.mpr hu)] at k
    exact ⟨_, _, _, _, WP.mk hI, k, Or.inr ⟨rfl, rfl, kx_X0_far_IAE l hst D cI ad U T F C B RU RC WU ST RP RN WT SS CC TR a b hu⟩⟩
set_option maxHeartbeats 1000000 in
theorem q_isOn (l : Launch) (hst : l.stackTraces = false) (D : va_G) {cI : ClassId} {ad bd : Nat → Nat} {wx wy : va_W} {t0 : Int32} (h : WP cI ad bd wx wy t0) (a b : Int32) : ∃ (wx' wy' : va_W) (r TH : Int32), WP cI ad bd wx' wy' TH ∧ Ki l yX1_isOn wsX1_isOn 3 65 0 0 D (TI cI) [.ref (bd 0), .int a, .int b] wy wy' r ∧ OC2 l yX0_isOn wsX0_isOn 3 65 9 146 7 105 D cI [.ref (ad 0), .int a, .int b] wx wx' r TH xNSE := by
  obtain ⟨U, T, F, C, B, RU, RC, WU, ST, RP, RN, WT, SS, CC, TR, C', B', CM, RO, WY, SU, ST', QU, QN, FE, rfl, rfl, hI⟩ := h
  obtain ⟨hF, hU, hT, hC, hB, hR, hN, hV⟩ := id hI
  have k := k_X1_isOn l D cI bd U T F C' B' CM TR RO WY SU t0 ST' QU QN FE a b hR hF.FR
  by_cases hu : okU a ∧ okU b
  · have n1 := port_n0 hu.1 hu.2
    obtain ⟨s, v, hs, hv, ea, -, e1, e2⟩ := slot_of hu.1 hu.2
    by_cases f1 : F s = -1
    · have x1 : xAt 36 F (nI s) = -1 := by rw [xAt_nI hs (by decide)]; exact f1
      simp only [s_X1_isOn, s_X1_isOn_RO, s_X1_isOn_WY, s_X1_isOn_SU, s_X1_isOn_TH, s_X1_hasCable, s_X1_hasCable_TH, if_neg n1, e2, if_pos x1, if_pos h00] at k
      exact ⟨_, _, _, _, WP.mk hI, k, Or.inr (Or.inr ⟨rfl, rfl, kx_X0_isOn_NSE l hst D cI ad U T F C B RU RC WU ST RP RN WT SS CC TR a b hu.1 hu.2 (by rw [e1]; exact (cab0 hs).mpr f1)⟩)⟩
    · have x1 : ¬ xAt 36 F (nI s) = -1 := by rw [xAt_nI hs (by decide)]; exact f1
      have kx := k_X0_isOn l D cI ad U T F C B RU RC WU ST RP RN WT SS CC TR a b hR hu.1 hu.2 (by rw [e1]; exact fun z => f1 ((cab0 hs).mp z))
      have el := live_eq (TR := TR) hF (hV.2.2.1 RO WY SU) hs
      simp only [s_X1_isOn, s_X1_isOn_RO, s_X1_isOn_WY, s_X1_isOn_SU, s_X1_isOn_TH, s_X1_hasCable, s_X1_hasCable_TH, if_neg n1, e2, if_neg x1, if_neg h10, el] at k
      simp only [s_X0_isOn, s_X0_slotWithCable, e1] at kx
      exact ⟨_, _, _, _, WP.mk hI, k, Or.inl ⟨rfl, kx⟩⟩
  · simp only [s_X1_isOn, s_X1_isOn_RO, s_X1_isOn_WY, s_X1_isOn_SU, s_X1_isOn_TH, s_X1_hasCable, s_X1_hasCable_TH, if_pos (port0.mpr hu), if_pos h00] at k
    exact ⟨_, _, _, _, WP.mk hI, k, Or.inr (Or.inl ⟨rfl, rfl, kx_X0_isOn_IAE l hst D cI ad U T F C B RU RC WU ST RP RN WT SS CC TR a b hu⟩)⟩
set_option maxHeartbeats 1000000 in
theorem q_comesAs (l : Launch) (hst : l.stackTraces = false) (D : va_G) {cI : ClassId} {ad bd : Nat → Nat} {wx wy : va_W} {t0 : Int32} (h : WP cI ad bd wx wy t0) (a b c : Int32) : ∃ (wx' wy' : va_W) (r TH : Int32), WP cI ad bd wx' wy' TH ∧ Ki l yX1_comesAs wsX1_comesAs 3 65 0 0 D (TI cI) [.ref (bd 0), .int a, .int b, .int c] wy wy' r ∧ OC2 l yX0_comesAs wsX0_comesAs 3 67 9 146 7 105 D cI [.ref (ad 0), .int a, .int b, .int c] wx wx' r TH xNSE := by
  obtain ⟨U, T, F, C, B, RU, RC, WU, ST, RP, RN, WT, SS, CC, TR, C', B', CM, RO, WY, SU, ST', QU, QN, FE, rfl, rfl, hI⟩ := h
  obtain ⟨hF, hU, hT, hC, hB, hR, hN, hV⟩ := id hI
  have k := k_X1_comesAs l D cI bd U T F C' B' CM TR RO WY SU t0 ST' QU QN FE a b c hF.FR
  by_cases hu : okU a ∧ okU b
  · have n1 := port_n0 hu.1 hu.2
    by_cases hl : okL c
    · have n2 := place_n0 hu.1 hl
      obtain ⟨s, v, hs, hv, ea, -, e1, e2⟩ := slot_of hu.1 hu.2
      by_cases f1 : F s = -1
      · have x1 : xAt 36 F (nI s) = -1 := by rw [xAt_nI hs (by decide)]; exact f1
        simp only [s_X1_comesAs, s_X1_comesAs_TH, s_X1_hasCable, s_X1_hasCable_TH, if_neg n1, if_neg n2, e2, if_pos x1, if_pos h00] at k
        exact ⟨_, _, _, _, WP.mk hI, k, Or.inr (Or.inr ⟨rfl, rfl, kx_X0_comesAs_NSE l hst D cI ad U T F C B RU RC WU ST RP RN WT SS CC TR a b c hl hu.1 hu.2 (by rw [e1]; exact (cab0 hs).mpr f1)⟩)⟩
      · have x1 : ¬ xAt 36 F (nI s) = -1 := by rw [xAt_nI hs (by decide)]; exact f1
        have kx := k_X0_comesAs l D cI ad U T F C B RU RC WU ST RP RN WT SS CC TR a b c hl hu.1 hu.2 (by rw [e1]; exact fun z => f1 ((cab0 hs).mp z))
        obtain ⟨q, hq1, hq, ec⟩ := okL_of hl
        have el : s_X1_carried U T F (nI s) c = s_X0_laneBeyond U T F (nI s) c := by rw [ec]; exact carried_eq hF hU hT hs hq f1
        simp only [s_X1_comesAs, s_X1_comesAs_TH, s_X1_hasCable, s_X1_hasCable_TH, if_neg n1, if_neg n2, e2, if_neg x1, if_neg h10, el] at k
        simp only [s_X0_comesAs, s_X0_slotWithCable, e1] at kx
        exact ⟨_, _, _, _, WP.mk hI, k, Or.inl ⟨rfl, kx⟩⟩
    · simp only [s_X1_comesAs, s_X1_comesAs_TH, if_neg n1, if_pos (place0.mpr (fun z => hl z.2))] at k
      exact ⟨_, _, _, _, WP.mk hI, k, Or.inr (Or.inl ⟨rfl, rfl, kx_X0_comesAs_IAE l hst D cI ad U T F C B RU RC WU ST RP RN WT SS CC TR a b c (fun z => hl z.1)⟩)⟩
  · simp only [s_X1_comesAs, s_X1_comesAs_TH, if_pos (port0.mpr hu)] at k
    exact ⟨_, _, _, _, WP.mk hI, k, Or.inr (Or.inl ⟨rfl, rfl, kx_X0_comesAs_IAE l hst D cI ad U T F C B RU RC WU ST RP RN WT SS CC TR a b c (fun z => hu z.2)⟩)⟩
set_option maxHeartbeats 1000000 in
theorem q_oneSided (l : Launch) (hst : l.stackTraces = false) (D : va_G) {cI : ClassId} {ad bd : Nat → Nat} {wx wy : va_W} {t0 : Int32} (h : WP cI ad bd wx wy t0) (a b : Int32) : ∃ (wx' wy' : va_W) (r TH : Int32), WP cI ad bd wx' wy' TH ∧ Ki l yX1_oneSided wsX1_oneSided 3 65 0 0 D (TI cI) [.ref (bd 0), .int a, .int b] wy wy' r ∧ OC2 l yX0_oneSided wsX0_oneSided 3 65 9 146 7 105 D cI [.ref (ad 0), .int a, .int b] wx wx' r TH xNSE := by
  obtain ⟨U, T, F, C, B, RU, RC, WU, ST, RP, RN, WT, SS, CC, TR, C', B', CM, RO, WY, SU, ST', QU, QN, FE, rfl, rfl, hI⟩ := h
  obtain ⟨hF, hU, hT, hC, hB, hR, hN, hV⟩ := id hI
  have k := k_X1_oneSided l D cI bd U T F C' B' CM TR RO WY SU t0 ST' QU QN FE a b hF.FR
  by_cases hu : okU a ∧ okU b
  · have n1 := port_n0 hu.1 hu.2
    obtain ⟨s, v, hs, hv, ea, -, e1, e2⟩ := slot_of hu.1 hu.2
    rcases hF s hs with f1 | ⟨j, hj, f1, -, -⟩
    · have x1 : xAt 36 F (nI s) = -1 := by rw [xAt_nI hs (by decide)]; exact f1
      simp only [s_X1_oneSided, s_X1_oneSided_TH, s_X1_hasCable, s_X1_hasCable_TH, if_neg n1, e2, if_pos x1, if_pos h00] at k
      exact ⟨_, _, _, _, WP.mk hI, k, Or.inr (Or.inr ⟨rfl, rfl, kx_X0_oneSided_NSE l hst D cI ad U T F C B RU RC WU ST RP RN WT SS CC TR a b hu.1 hu.2 (by rw [e1]; exact (cab0 hs).mpr f1)⟩)⟩
    · have x1 : xAt 36 F (nI s) = nI j := by rw [xAt_nI hs (by decide)]; exact f1
      have n2 : ¬ nI j = -1 := nI_m1 (by omega)
      have kx := k_X0_oneSided l D cI ad U T F C B RU RC WU ST RP RN WT SS CC TR a b hu.1 hu.2 (by rw [e1]; exact fun z => n2 (by rw [← f1]; exact (cab0 hs).mp z))
      obtain ⟨t1, ht1, et1, -, -⟩ := hT s hs
      obtain ⟨t2, ht2, et2, -, -⟩ := hT j hj
      have el : s_X1_bits (xAt 36 T (nI s) ^^^ xAt 36 T (nI j)) = s_J6_bitCount_0f7a4 (xAt 36 T (nI s) ^^^ xAt 36 T (nI j)) := by
        rw [xAt_nI hs (by decide), xAt_nI hj (by decide), et1, et2, nx_xor]
        exact (bc_eq (Nat.xor_lt_two_pow (n := 16) ht1 ht2)).symm
      simp only [s_X1_oneSided, s_X1_oneSided_TH, s_X1_hasCable, s_X1_hasCable_TH, if_neg n1, e2, x1, if_neg n2, if_neg h10, el] at k
      simp only [s_X0_oneSided, s_X0_slotWithCable, e1, x1] at kx
      exact ⟨_, _, _, _, WP.mk hI, k, Or.inl ⟨rfl, kx⟩⟩
  · simp only [s_X1_oneSided, s_X1_oneSided_TH, s_X1_hasCable, s_X1_hasCable_TH, if_pos (port0.mpr hu), if_pos h00] at k
    exact ⟨_, _, _, _, WP.mk hI, k, Or.inr (Or.inl ⟨rfl, rfl, kx_X0_oneSided_IAE l hst D cI ad U T F C B RU RC WU ST RP RN WT SS CC TR a b hu⟩)⟩
set_option maxHeartbeats 1000000 in
theorem q_root (l : Launch) (hst : l.stackTraces = false) (D : va_G) {cI : ClassId} {ad bd : Nat → Nat} {wx wy : va_W} {t0 : Int32} (h : WP cI ad bd wx wy t0) (a : Int32) : ∃ (wx' wy' : va_W) (r TH : Int32), WP cI ad bd wx' wy' TH ∧ Ki l yX1_root wsX1_root 2 45 0 0 D (TI cI) [.ref (bd 0), .int a] wy wy' r ∧ OC1 l yX0_root wsX0_root 1 21 7 102 D cI [.ref (ad 0), .int a] wx wx' r TH := by
  obtain ⟨U, T, F, C, B, RU, RC, WU, ST, RP, RN, WT, SS, CC, TR, C', B', CM, RO, WY, SU, ST', QU, QN, FE, rfl, rfl, hI⟩ := h
  obtain ⟨hF, hU, hT, hC, hB, hR, hN, hV⟩ := id hI
  have k := k_X1_root l D cI bd U T F C' B' CM TR RO WY SU t0 ST' QU QN FE a hF.FR
  by_cases hu : okU a
  · have n1 : ¬ s_X1_asksFor a = 0 := fun z => asks0.mp z hu
    have kx := k_X0_root l D cI ad U T F C B RU RC WU ST RP RN WT SS CC TR a hu
    obtain ⟨v, hv, ea⟩ := okU_of hu
    have el : xAt 6 (s_X1_layTree_RO F RO) (nI v) = xAt 6 RU (nI v) := by rw [SM_at (rootY hF RO) hv, SM_at hV.1 hv]
    simp only [s_X1_root, s_X1_root_RO, s_X1_root_WY, s_X1_root_SU, s_X1_root_TH, asksT1 hu, s_X1_asksFor_RO, s_X1_asksFor_WY, s_X1_asksFor_SU, if_neg n1] at k
    simp only [s_X0_root] at kx
    subst ea
    simp only [el] at k
    exact ⟨_, _, _, _, WP.mk hI, k, Or.inl ⟨rfl, kx⟩⟩
  · simp only [s_X1_root, s_X1_root_RO, s_X1_root_WY, s_X1_root_SU, s_X1_root_TH, asksT0 hu] at k
    exact ⟨_, _, _, _, WP.mk hI, k, Or.inr ⟨rfl, rfl, kx_X0_root_IAE l hst D cI ad U T F C B RU RC WU ST RP RN WT SS CC TR a hu⟩⟩
set_option maxHeartbeats 1000000 in
theorem q_costOf (l : Launch) (hst : l.stackTraces = false) (D : va_G) {cI : ClassId} {ad bd : Nat → Nat} {wx wy : va_W} {t0 : Int32} (h : WP cI ad bd wx wy t0) (a : Int32) : ∃ (wx' wy' : va_W) (r TH : Int32), WP cI ad bd wx' wy' TH ∧ Ki l yX1_costOf wsX1_costOf 2 45 0 0 D (TI cI) [.ref (bd 0), .int a] wy wy' r ∧ OC1 l yX0_costOf wsX0_costOf 1 21 7 102 D cI [.ref (ad 0), .int a] wx wx' r TH := by
  obtain ⟨U, T, F, C, B, RU, RC, WU, ST, RP, RN, WT, SS, CC, TR, C', B', CM, RO, WY, SU, ST', QU, QN, FE, rfl, rfl, hI⟩ := h
  obtain ⟨hF, hU, hT, hC, hB, hR, hN, hV⟩ := id hI
  have k := k_X1_costOf l D cI bd U T F C' B' CM TR RO WY SU t0 ST' QU QN FE a hF.FR
  by_cases hu : okU a
  · have n1 : ¬ s_X1_asksFor a = 0 := fun z => asks0.mp z hu
    have kx := k_X0_costOf l D cI ad U T F C B RU RC WU ST RP RN WT SS CC TR a hu
    obtain ⟨v, hv, ea⟩ := okU_of hu
    have el : xAt 6 (s_X1_layTree_SU F C' RO SU) (nI v) = xAt 6 RC (nI v) := by rw [SM_at (costY hF hC RO SU) hv, SM_at hV.2.1 hv]
    simp only [s_X1_costOf, s_X1_costOf_RO, s_X1_costOf_WY, s_X1_costOf_SU, s_X1_costOf_TH, asksT1 hu, s_X1_asksFor_RO, s_X1_asksFor_WY, s_X1_asksFor_SU, if_neg n1] at k
    simp only [s_X0_costOf] at kx
    subst ea
    simp only [el] at k
    exact ⟨_, _, _, _, WP.mk hI, k, Or.inl ⟨rfl, kx⟩⟩
  · simp only [s_X1_costOf, s_X1_costOf_RO, s_X1_costOf_WY, s_X1_costOf_SU, s_X1_costOf_TH, asksT0 hu] at k
    exact ⟨_, _, _, _, WP.mk hI, k, Or.inr ⟨rfl, rfl, kx_X0_costOf_IAE l hst D cI ad U T F C B RU RC WU ST RP RN WT SS CC TR a hu⟩⟩
set_option maxHeartbeats 1000000 in
theorem q_wayUp (l : Launch) (hst : l.stackTraces = false) (D : va_G) {cI : ClassId} {ad bd : Nat → Nat} {wx wy : va_W} {t0 : Int32} (h : WP cI ad bd wx wy t0) (a : Int32) : ∃ (wx' wy' : va_W) (r TH : Int32), WP cI ad bd wx' wy' TH ∧ Ki l yX1_wayUp wsX1_wayUp 2 45 0 0 D (TI cI) [.ref (bd 0), .int a] wy wy' r ∧ OC1 l yX0_wayUp wsX0_wayUp 1 21 7 102 D cI [.ref (ad 0), .int a] wx wx' r TH := by
  obtain ⟨U, T, F, C, B, RU, RC, WU, ST, RP, RN, WT, SS, CC, TR, C', B', CM, RO, WY, SU, ST', QU, QN, FE, rfl, rfl, hI⟩ := h
  obtain ⟨hF, hU, hT, hC, hB, hR, hN, hV⟩ := id hI
  have k := k_X1_wayUp l D cI bd U T F C' B' CM TR RO WY SU t0 ST' QU QN FE a hF.FR
  by_cases hu : okU a
  · have n1 : ¬ s_X1_asksFor a = 0 := fun z => asks0.mp z hu
    have kx := k_X0_wayUp l D cI ad U T F C B RU RC WU ST RP RN WT SS CC TR a hu
    obtain ⟨v, hv, ea⟩ := okU_of hu
    have el : xAt 6 (s_X1_layTree_WY F C' RO WY SU) (nI v) = xAt 6 WU (nI v) := by rw [xAt_nI hv (by decide), xAt_nI hv (by decide), hV.2.2.1 RO WY SU v hv]
    simp only [s_X1_wayUp, s_X1_wayUp_RO, s_X1_wayUp_WY, s_X1_wayUp_SU, s_X1_wayUp_TH, asksT1 hu, s_X1_asksFor_RO, s_X1_asksFor_WY, s_X1_asksFor_SU, if_neg n1] at k
    simp only [s_X0_wayUp] at kx
    subst ea
    simp only [el] at k
    exact ⟨_, _, _, _, WP.mk hI, k, Or.inl ⟨rfl, kx⟩⟩
  · simp only [s_X1_wayUp, s_X1_wayUp_RO, s_X1_wayUp_WY, s_X1_wayUp_SU, s_X1_wayUp_TH, asksT0 hu] at k
    exact ⟨_, _, _, _, WP.mk hI, k, Or.inr ⟨rfl, rfl, kx_X0_wayUp_IAE l hst D cI ad U T F C B RU RC WU ST RP RN WT SS CC TR a hu⟩⟩
set_option maxHeartbeats 1000000 in
theorem q_hops (l : Launch) (hst : l.stackTraces = false) (D : va_G) {cI : ClassId} {ad bd : Nat → Nat} {wx wy : va_W} {t0 : Int32} (h : WP cI ad bd wx wy t0) (a b c d : Int32) : ∃ (wx' wy' : va_W) (r TH : Int32), WP cI ad bd wx' wy' TH ∧ Ki l yX1_hops wsX1_hops 3 71 0 0 D (TI cI) [.ref (bd 0), .int a, .int b, .int c, .int d] wy wy' r ∧ OC1 l yX0_hops wsX0_hops 6 137 8 123 D cI [.ref (ad 0), .int a, .int b, .int c, .int d] wx wx' r TH := by
  obtain ⟨U, T, F, C, B, RU, RC, WU, ST, RP, RN, WT, SS, CC, TR, C', B', CM, RO, WY, SU, ST', QU, QN, FE, rfl, rfl, hI⟩ := h
  obtain ⟨hF, hU, hT, hC, hB, hR, hN, hV⟩ := id hI
  have k := k_X1_hops l D cI bd U T F C' B' CM TR RO WY SU t0 ST' QU QN FE a b c d hR hF.FR hU.UR
  by_cases hu : okU a ∧ okL b
  · have n1 := place_n0 hu.1 hu.2
    by_cases hu2 : okU c ∧ okL d
    · have n2 := place_n0 hu2.1 hu2.2
      obtain ⟨p, hp, e1, e2⟩ := place_of hu.1 hu.2
      obtain ⟨q, hq, e3, e4⟩ := place_of hu2.1 hu2.2
      have kx := k_X0_hops l D cI ad U T F C B RU RC WU ST RP RN WT SS CC TR a b c d hR hu.1 hu.2 hu2.1 hu2.2
      have el := (hop_eq (TR := TR) hF hU hT (hV.2.2.1 RO WY SU) hp hq ST' QU ST RP).1
      simp only [s_X1_hops, s_X1_hops_RO, s_X1_hops_WY, s_X1_hops_SU, s_X1_hops_TH, s_X1_hops_ST, s_X1_hops_QU, s_X1_hops_QN, if_neg n1, if_neg n2, e2, e4, el] at k
      simp only [s_X0_hops, s_X0_hops_ST, s_X0_hops_RP, s_X0_hops_RN, e1, e3] at kx
      exact ⟨_, _, _, _, WP.mk hI, k, Or.inl ⟨rfl, kx⟩⟩
    · simp only [s_X1_hops, s_X1_hops_RO, s_X1_hops_WY, s_X1_hops_SU, s_X1_hops_TH, s_X1_hops_ST, s_X1_hops_QU, s_X1_hops_QN, if_neg n1, if_pos (place0.mpr hu2)] at k
      exact ⟨_, _, _, _, WP.mk hI, k, Or.inr ⟨rfl, rfl, kx_X0_hops_IAE l hst D cI ad U T F C B RU RC WU ST RP RN WT SS CC TR a b c d (fun z => hu2 z.2)⟩⟩
  · simp only [s_X1_hops, s_X1_hops_RO, s_X1_hops_WY, s_X1_hops_SU, s_X1_hops_TH, s_X1_hops_ST, s_X1_hops_QU, s_X1_hops_QN, if_pos (place0.mpr hu)] at k
    exact ⟨_, _, _, _, WP.mk hI, k, Or.inr ⟨rfl, rfl, kx_X0_hops_IAE l hst D cI ad U T F C B RU RC WU ST RP RN WT SS CC TR a b c d (fun z => hu z.1)⟩⟩
set_option maxHeartbeats 1000000 in
theorem q_joined (l : Launch) (hst : l.stackTraces = false) (D : va_G) {cI : ClassId} {ad bd : Nat → Nat} {wx wy : va_W} {t0 : Int32} (h : WP cI ad bd wx wy t0) (a b : Int32) : ∃ (wx' wy' : va_W) (r TH : Int32), WP cI ad bd wx' wy' TH ∧ Ki l yX1_joined wsX1_joined 3 71 0 0 D (TI cI) [.ref (bd 0), .int a, .int b] wy wy' r ∧ OC1 l yX0_joined wsX0_joined 6 137 8 123 D cI [.ref (ad 0), .int a, .int b] wx wx' r TH := by
  obtain ⟨U, T, F, C, B, RU, RC, WU, ST, RP, RN, WT, SS, CC, TR, C', B', CM, RO, WY, SU, ST', QU, QN, FE, rfl, rfl, hI⟩ := h
  obtain ⟨hF, hU, hT, hC, hB, hR, hN, hV⟩ := id hI
  have k := k_X1_joined l D cI bd U T F C' B' CM TR RO WY SU t0 ST' QU QN FE a b hR hF.FR hU.UR
  by_cases hu : okU a ∧ okL b
  · have n1 := place_n0 hu.1 hu.2
    obtain ⟨p, hp, e1, e2⟩ := place_of hu.1 hu.2
    have kx := k_X0_joined l D cI ad U T F C B RU RC WU ST RP RN WT SS CC TR a b hR hu.1 hu.2
    have el := (hop_eq (TR := TR) hF hU hT (hV.2.2.1 RO WY SU) hp hp ST' QU ST RP).2
    simp only [s_X1_joined, s_X1_joined_RO, s_X1_joined_WY, s_X1_joined_SU, s_X1_joined_TH, s_X1_joined_ST, s_X1_joined_QU, s_X1_joined_QN, if_neg n1, e2, el] at k
    simp only [s_X0_joined, s_X0_joined_ST, s_X0_joined_RP, s_X0_joined_RN, e1] at kx
    exact ⟨_, _, _, _, WP.mk hI, k, Or.inl ⟨rfl, kx⟩⟩
  · simp only [s_X1_joined, s_X1_joined_RO, s_X1_joined_WY, s_X1_joined_SU, s_X1_joined_TH, s_X1_joined_ST, s_X1_joined_QU, s_X1_joined_QN, if_pos (place0.mpr hu)] at k
    exact ⟨_, _, _, _, WP.mk hI, k, Or.inr ⟨rfl, rfl, kx_X0_joined_IAE l hst D cI ad U T F C B RU RC WU ST RP RN WT SS CC TR a b hu⟩⟩
set_option maxHeartbeats 1000000 in
theorem q_meet (l : Launch) (hst : l.stackTraces = false) (D : va_G) {cI : ClassId} {ad bd : Nat → Nat} {wx wy : va_W} {t0 : Int32} (h : WP cI ad bd wx wy t0) (a b c d : Int32) : ∃ (wx' wy' : va_W) (r TH : Int32), WP cI ad bd wx' wy' TH ∧ Ki l yX1_meet wsX1_meet 3 71 0 0 D (TI cI) [.ref (bd 0), .int a, .int b, .int c, .int d] wy wy' r ∧ OC1 l yX0_meet wsX0_meet 7 163 8 123 D cI [.ref (ad 0), .int a, .int b, .int c, .int d] wx wx' r TH := by
  obtain ⟨U, T, F, C, B, RU, RC, WU, ST, RP, RN, WT, SS, CC, TR, C', B', CM, RO, WY, SU, ST', QU, QN, FE, rfl, rfl, hI⟩ := h
  obtain ⟨hF, hU, hT, hC, hB, hR, hN, hV⟩ := id hI
  have k := k_X1_meet l D cI bd U T F C' B' CM TR RO WY SU t0 ST' QU QN FE a b c d hR hF.FR hU.UR
  by_cases hu : okU a ∧ okU b
  · have n1 := port_n0 hu.1 hu.2
    by_cases hu2 : okU c ∧ okU d
    · have n2 := port_n0 hu2.1 hu2.2
      obtain ⟨s, v, hs, hv, ea, -, e1, e2⟩ := slot_of hu.1 hu.2
      obtain ⟨j, v2, hj, hv2, ec, -, e3, e4⟩ := slot_of hu2.1 hu2.2
      obtain ⟨u1, hu1, x1, y1⟩ := same_lane hU hs
      obtain ⟨u2, hu2', x2, y2⟩ := same_lane hU hj
      have kx := k_X0_meet l D cI ad U T F C B RU RC WU ST RP RN WT SS CC TR a b c d hR hu.1 hu.2 hu2.1 hu2.2 (by rw [e1]; exact y1) (by rw [e3]; exact y2)
      simp only [s_X1_meet, s_X1_meet_RO, s_X1_meet_WY, s_X1_meet_SU, s_X1_meet_TH, s_X1_meet_ST, s_X1_meet_QU, s_X1_meet_QN, if_neg n1, if_neg n2, e2, e4] at k
      simp only [s_X0_meet, s_X0_meet_ST, s_X0_meet_RP, s_X0_meet_RN, s_X0_hops, s_X0_hops_ST, s_X0_hops_RP, s_X0_hops_RN, e1, e3] at kx
      by_cases z1 : xAt 36 U (nI s) = 0
      · simp only [if_pos z1] at k kx
        exact ⟨_, _, _, _, WP.mk hI, k, Or.inl ⟨rfl, kx⟩⟩
      · by_cases z2 : xAt 36 U (nI j) = 0
        · simp only [if_neg z1, if_pos z2] at k kx
          exact ⟨_, _, _, _, WP.mk hI, k, Or.inl ⟨rfl, kx⟩⟩
        · simp only [if_neg z1, if_neg z2] at k kx
          obtain ⟨p, hp, g1, g2⟩ := place_of hu.1 (y1 z1)
          obtain ⟨q, hq, g3, g4⟩ := place_of hu2.1 (y2 z2)
          have el := (hop_eq (TR := TR) hF hU hT (hV.2.2.1 RO WY SU) hp hq ST' QU ST RP).1
          simp only [g2, g4, el] at k
          simp only [g1, g3] at kx
          exact ⟨_, _, _, _, WP.mk hI, k, Or.inl ⟨rfl, kx⟩⟩
    · simp only [s_X1_meet, s_X1_meet_RO, s_X1_meet_WY, s_X1_meet_SU, s_X1_meet_TH, s_X1_meet_ST, s_X1_meet_QU, s_X1_meet_QN, if_neg n1, if_pos (port0.mpr hu2)] at k
      exact ⟨_, _, _, _, WP.mk hI, k, Or.inr ⟨rfl, rfl, kx_X0_meet_IAE l hst D cI ad U T F C B RU RC WU ST RP RN WT SS CC TR a b c d (fun z => hu2 z.2)⟩⟩
  · simp only [s_X1_meet, s_X1_meet_RO, s_X1_meet_WY, s_X1_meet_SU, s_X1_meet_TH, s_X1_meet_ST, s_X1_meet_QU, s_X1_meet_QN, if_pos (port0.mpr hu)] at k
    exact ⟨_, _, _, _, WP.mk hI, k, Or.inr ⟨rfl, rfl, kx_X0_meet_IAE l hst D cI ad U T F C B RU RC WU ST RP RN WT SS CC TR a b c d (fun z => hu z.1)⟩⟩
set_option maxHeartbeats 1000000 in
theorem q_changes (l : Launch) (hst : l.stackTraces = false) (D : va_G) {cI : ClassId} {ad bd : Nat → Nat} {wx wy : va_W} {t0 : Int32} (h : WP cI ad bd wx wy t0) (a b c d : Int32) : ∃ (wx' wy' : va_W) (r TH : Int32), WP cI ad bd wx' wy' TH ∧ Ki l yX1_changes wsX1_changes 2 45 0 0 D (TI cI) [.ref (bd 0), .int a, .int b, .int c, .int d] wy wy' r ∧ OC1 l yX0_changes wsX0_changes 3 72 8 123 D cI [.ref (ad 0), .int a, .int b, .int c, .int d] wx wx' r TH := by
  obtain ⟨U, T, F, C, B, RU, RC, WU, ST, RP, RN, WT, SS, CC, TR, C', B', CM, RO, WY, SU, ST', QU, QN, FE, rfl, rfl, hI⟩ := h
  obtain ⟨hF, hU, hT, hC, hB, hR, hN, hV⟩ := id hI
  have k := k_X1_changes l D cI bd U T F C' B' CM TR RO WY SU t0 ST' QU QN FE a b c d hR hF.FR
  by_cases hu : okU a ∧ okU b
  · have n1 := port_n0 hu.1 hu.2
    by_cases hu2 : okU c ∧ okU d
    · have n2 := port_n0 hu2.1 hu2.2
      obtain ⟨s, v, hs, hv, ea, -, e1, e2⟩ := slot_of hu.1 hu.2
      obtain ⟨j, v2, hj, hv2, ec, -, e3, e4⟩ := slot_of hu2.1 hu2.2
      obtain ⟨u1, hu1, x1, y1⟩ := same_lane hU hs
      have kx := k_X0_changes l D cI ad U T F C B RU RC WU ST RP RN WT SS CC TR a b c d hR hu.1 hu.2 hu2.1 hu2.2
      have er : s_X0_changes U T F WU WT SS TR a b c d = s_X1_changes U T F C' TR RO WY SU FE a b c d := by
        have el := ch_eq (TR := TR) (C := C') (RO := RO) (WY := WY) (SU := SU) hF hT hV.2.2.1 hu1 (unit := a) (port := b) (by rw [e1]; exact x1) (by rw [e2]; exact x1) hv ea WT SS FE hv2
        unfold s_X0_changes s_X1_changes
        rw [if_neg n1, if_neg n2, e2, e4, e1, e3]
        by_cases z1 : xAt 36 U (nI s) = 0
        · rw [if_pos z1, if_pos z1]
        · rw [if_neg z1, if_neg z1]
          by_cases z2 : xAt 36 U (nI s) = xAt 36 U (nI j)
          · rw [if_pos z2, if_pos z2.symm, ec]
            exact el
          · rw [if_neg z2, if_neg (fun y => z2 y.symm)]
      have eH : s_X1_changes_TH a b c d = 0 := by unfold s_X1_changes_TH; rw [if_neg n1, if_neg n2]
      rw [eH] at k
      rw [er] at kx
      exact ⟨_, _, _, _, WP.mk hI, k, Or.inl ⟨rfl, kx⟩⟩
    · have eH : s_X1_changes_TH a b c d = 1 := by unfold s_X1_changes_TH; rw [if_neg n1, if_pos (port0.mpr hu2)]
      rw [eH] at k
      exact ⟨_, _, _, _, WP.mk hI, k, Or.inr ⟨rfl, rfl, kx_X0_changes_IAE l hst D cI ad U T F C B RU RC WU ST RP RN WT SS CC TR a b c d (fun z => hu2 z.2)⟩⟩
  · have eH : s_X1_changes_TH a b c d = 1 := by unfold s_X1_changes_TH; rw [if_pos (port0.mpr hu)]
    rw [eH] at k
    exact ⟨_, _, _, _, WP.mk hI, k, Or.inr ⟨rfl, rfl, kx_X0_changes_IAE l hst D cI ad U T F C B RU RC WU ST RP RN WT SS CC TR a b c d (fun z => hu z.1)⟩⟩
set_option maxHeartbeats 1000000 in
theorem q_tree (l : Launch) (D : va_G) {cI : ClassId} {ad bd : Nat → Nat} {wx wy : va_W} {t0 : Int32} (h : WP cI ad bd wx wy t0) (b : Int32) (hb : b = 0 ∨ b = 1) : ∃ (wx' wy' : va_W) (r : Int32), WP cI ad bd wx' wy' 0 ∧ Ki l yX1_tree wsX1_tree 0 0 0 0 D (TI cI) [.ref (bd 0), .int b] wy wy' r ∧ Ki l yX0_tree wsX0_tree 0 0 0 0 D (TI cI) [.ref (ad 0), .int b] wx wx' r := by
  obtain ⟨U, T, F, C, B, RU, RC, WU, ST, RP, RN, WT, SS, CC, TR, C', B', CM, RO, WY, SU, ST', QU, QN, FE, rfl, rfl, hI⟩ := h
  obtain ⟨hF, hU, hT, hC, hB, hR, hN, hV⟩ := id hI
  have k := k_X1_tree l D cI bd U T F C' B' CM TR RO WY SU t0 ST' QU QN FE b hb hR
  have kx := k_X0_tree l D cI ad U T F C B RU RC WU ST RP RN WT SS CC TR b hb hR
  simp only [s_X1_tree, s_X1_tree_TR, s_X1_tree_TH] at k
  simp only [s_X0_tree, s_X0_tree_TR] at kx
  exact ⟨_, _, _, WP.mk ⟨hF, hU, hT, hC, hB, hb, hN, hV⟩, k, kx⟩
set_option maxHeartbeats 1000000 in
theorem q_wrong (l : Launch) (D : va_G) {cI : ClassId} {ad bd : Nat → Nat} {wx wy : va_W} {t0 : Int32} (h : WP cI ad bd wx wy t0) : ∃ (wx' wy' : va_W) (r : Int32), WP cI ad bd wx' wy' 0 ∧ Ki l yX1_wrong wsX1_wrong 0 0 0 0 D (TI cI) [.ref (bd 0)] wy wy' r ∧ Ki l yX0_wrong wsX0_wrong 1 21 0 0 D (TI cI) [.ref (ad 0)] wx wx' r := by
  obtain ⟨U, T, F, C, B, RU, RC, WU, ST, RP, RN, WT, SS, CC, TR, C', B', CM, RO, WY, SU, ST', QU, QN, FE, rfl, rfl, hI⟩ := h
  obtain ⟨hF, hU, hT, hC, hB, hR, hN, hV⟩ := id hI
  have k := k_X1_wrong l D cI bd U T F C' B' CM TR RO WY SU t0 ST' QU QN FE  
  have kx := k_X0_wrong l D cI ad U T F C B RU RC WU ST RP RN WT SS CC TR  
  rw [s_X1_wrong_TH, ← wrong_eq hF hB] at k
  exact ⟨_, _, _, WP.mk hI, k, kx⟩
set_option maxHeartbeats 1000000 in
theorem q_islands (l : Launch) (D : va_G) {cI : ClassId} {ad bd : Nat → Nat} {wx wy : va_W} {t0 : Int32} (h : WP cI ad bd wx wy t0) : ∃ (wx' wy' : va_W) (r : Int32), WP cI ad bd wx' wy' 0 ∧ Ki l yX1_islands wsX1_islands 4 95 0 0 D (TI cI) [.ref (bd 0)] wy wy' r ∧ Ki l yX0_islands wsX0_islands 6 137 0 0 D (TI cI) [.ref (ad 0)] wx wx' r := by
  obtain ⟨U, T, F, C, B, RU, RC, WU, ST, RP, RN, WT, SS, CC, TR, C', B', CM, RO, WY, SU, ST', QU, QN, FE, rfl, rfl, hI⟩ := h
  obtain ⟨hF, hU, hT, hC, hB, hR, hN, hV⟩ := id hI
  have k := k_X1_islands l D cI bd U T F C' B' CM TR RO WY SU t0 ST' QU QN FE  hR hF.FR hU.UR
  have kx := k_X0_islands l D cI ad U T F C B RU RC WU ST RP RN WT SS CC TR  hR
  rw [s_X1_islands_TH, s_X1_islands, islands_eq hF hU hT hV.2.2.1 ST RP] at k
  exact ⟨_, _, _, WP.mk hI, k, kx⟩
set_option maxHeartbeats 1000000 in
theorem q_loops (l : Launch) (D : va_G) {cI : ClassId} {ad bd : Nat → Nat} {wx wy : va_W} {t0 : Int32} (h : WP cI ad bd wx wy t0) : ∃ (wx' wy' : va_W) (r : Int32), WP cI ad bd wx' wy' 0 ∧ Ki l yX1_loops wsX1_loops 4 95 0 0 D (TI cI) [.ref (bd 0)] wy wy' r ∧ Ki l yX0_loops wsX0_loops 7 161 0 0 D (TI cI) [.ref (ad 0)] wx wx' r := by
  obtain ⟨U, T, F, C, B, RU, RC, WU, ST, RP, RN, WT, SS, CC, TR, C', B', CM, RO, WY, SU, ST', QU, QN, FE, rfl, rfl, hI⟩ := h
  obtain ⟨hF, hU, hT, hC, hB, hR, hN, hV⟩ := id hI
  have k := k_X1_loops l D cI bd U T F C' B' CM TR RO WY SU t0 ST' QU QN FE  hR hF.FR hU.UR
  have kx := k_X0_loops l D cI ad U T F C B RU RC WU ST RP RN WT SS CC TR  hR
  rw [s_X1_loops_TH, loops_eq hF hU hT hV.2.2.1 ST RP] at k
  exact ⟨_, _, _, WP.mk hI, k, kx⟩
