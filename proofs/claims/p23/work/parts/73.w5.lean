/-! does, tags, cables: what the class answers or throws, as a number -/
set_option maxHeartbeats 1000000 in
set_option maxRecDepth 100000 in
theorem w_untag_ok (l : Launch) {D : va_G} {cI : ClassId} {ad : Nat → Nat} {wx wx' : va_W} {r : Int32} (a b c : Int32) (hx : ∃ fs, wx[0]? = some (ad 0, .inr (0, fs))) (hM : Ki l yX0_untag wsX0_untag 2 43 0 0 D (TI cI) (.ref (ad 0) :: [.int a, .int b, .int c]) wx wx' r) : KE l yL_does wsL_does 7 107 D (TI cI) [.ref (ad 0), .int (nI 0), .int a, .int b, .int c] wx wx' r := by
  obtain ⟨fs, hx⟩ := hx
  refine KE.of (cc := cL_does) (maxL := 6) (lv0 := [(0, .ref (ad 0)), (1, .int (nI 0)), (2, .int a), (3, .int b), (4, .int c)]) (by decide +kernel) rfl (Nat.le_of_ble_eq_true rfl) rfl ?_
  intro p e s m args below meth c9 A C0 hT0 hr hlk hK hA hEN
  refine v_iload_n C0 (pc' := 1) 1 rfl rfl dL_does_0 rfl ?_
  refine v_if_neN C0 15 (pc' := 4) (by omega) dL_does_1 (by decide) rfl (fun h1 => ?_) (fun h1 => ?_)
  · exact absurd (by decide) h1
  · refine v_aload_n C0 (pc' := 5) 0 rfl rfl dL_does_4 rfl ?_
    refine v_iload_n C0 (pc' := 6) 2 rfl rfl dL_does_5 rfl ?_
    refine v_iload_n C0 (pc' := 7) 3 rfl rfl dL_does_6 rfl ?_
    refine v_iload C0 (pc' := 9) 4 rfl dL_does_7 rfl ?_
    refine v_callVi0 C0 (av := [.int a, .int b, .int c]) (rest := []) (ws' := wx') (pc' := 12) hK hA hM (cwV 3 C0.2.2.2.2 gL_does_X0_untag rfl rfl rfl (by decide +kernel) ⟨Nat.le_of_ble_eq_true rfl, Nat.le_of_ble_eq_true rfl⟩) ⟨0, 0, _, _, _, rfl, hx⟩ PLs.all rfl rfl (Nat.le_of_ble_eq_true rfl) ⟨Nat.zero_le _, Nat.zero_le _⟩ dL_does_9 rfl ?_
    refine v_goto C0 73 dL_does_12 (by decide) ?_
    refine v_widen (k2 := 1) (n2 := 6) (Nat.le_of_ble_eq_true rfl) (Nat.le_of_ble_eq_true rfl) ?_
    exact v_iret C0 hr hlk hK rfl dL_does_73
set_option maxHeartbeats 1000000 in
set_option maxRecDepth 100000 in
theorem w_untag_ISE (l : Launch) {D : va_G} {cI : ClassId} {ad : Nat → Nat} {wx wx' : va_W} {r : Int32} (a b c : Int32) (hx : ∃ fs, wx[0]? = some (ad 0, .inr (0, fs))) (hM : Kx l yX0_untag wsX0_untag 6 82 D (TI cI) (.ref (ad 0) :: [.int a, .int b, .int c]) wx xISE) : KE l yL_does wsL_does 7 107 D (TI cI) [.ref (ad 0), .int (nI 0), .int a, .int b, .int c] wx wx (-13) := by
  obtain ⟨fs, hx⟩ := hx
  refine KE.of (cc := cL_does) (maxL := 6) (lv0 := [(0, .ref (ad 0)), (1, .int (nI 0)), (2, .int a), (3, .int b), (4, .int c)]) (by decide +kernel) rfl (Nat.le_of_ble_eq_true rfl) rfl ?_
  intro p e s m args below meth c9 A C0 hT0 hr hlk hK hA hEN
  refine v_iload_n C0 (pc' := 1) 1 rfl rfl dL_does_0 rfl ?_
  refine v_if_neN C0 15 (pc' := 4) (by omega) dL_does_1 (by decide) rfl (fun h1 => ?_) (fun h1 => ?_)
  · exact absurd (by decide) h1
  · refine v_aload_n C0 (pc' := 5) 0 rfl rfl dL_does_4 rfl ?_
    refine v_iload_n C0 (pc' := 6) 2 rfl rfl dL_does_5 rfl ?_
    refine v_iload_n C0 (pc' := 7) 3 rfl rfl dL_does_6 rfl ?_
    refine v_iload C0 (pc' := 9) 4 rfl dL_does_7 rfl ?_
    refine v_callVx_catch C0 (av := [.int a, .int b, .int c]) (rest := []) hK hA hEN hM (cwV 3 C0.2.2.2.2 gL_does_X0_untag rfl rfl rfl (by decide +kernel) ⟨Nat.le_of_ble_eq_true rfl, Nat.le_of_ble_eq_true rfl⟩) ⟨0, 0, _, _, _, rfl, hx⟩ PLs.all rfl rfl (Nat.le_of_ble_eq_true rfl) ⟨Nat.le_of_ble_eq_true rfl, Nat.le_of_ble_eq_true rfl⟩ dL_does_9 xISE [⟨0, 73, 74, 64⟩, ⟨0, 73, 79, 66⟩] ⟨0, 73, 84, 68⟩ [] hT0 (fun z hz => Or.inr ((List.mem_cons.mp hz).elim (fun e => by subst e; exact ⟨by decide, xIAE, (C0.2.2.2.2 _ (List.mem_of_getElem? (i := 1) rfl)), hEN.2.2.2.2.1⟩) (fun hz => by have hz := List.mem_singleton.mp hz; subst hz; exact ⟨by decide, xNSE, (C0.2.2.2.2 _ (List.mem_of_getElem? (i := 2) rfl)), hEN.2.2.2.2.2.2.1⟩))) (by decide) (by decide) (C0.2.2.2.2 _ (List.mem_of_getElem? (i := 3) rfl)) (va_Nw.use rfl (hEN.2.2.2.1 _ (List.mem_cons_of_mem _ List.mem_cons_self))) (fun q9 => ?_)
    refine v_astore C0 (lv' := [(5, .ref q9), (0, .ref (ad 0)), (1, .int (nI 0)), (2, .int a), (3, .int b), (4, .int c)]) (pc' := 86) (by decide) rfl dL_does_84 rfl ?_
    refine v_bipush C0 (pc' := 88) (-13) (by decide) dL_does_86 rfl ?_
    exact v_iret C0 hr hlk hK rfl dL_does_88
set_option maxHeartbeats 1000000 in
set_option maxRecDepth 100000 in
theorem w_pull_ok (l : Launch) {D : va_G} {cI : ClassId} {ad : Nat → Nat} {wx wx' : va_W} {r : Int32} (a b c : Int32) (hx : ∃ fs, wx[0]? = some (ad 0, .inr (0, fs))) (hM : Ki l yX0_pull wsX0_pull 5 114 0 0 D (TI cI) (.ref (ad 0) :: [.int a, .int b]) wx wx' r) : KE l yL_does wsL_does 8 138 D (TI cI) [.ref (ad 0), .int (nI 1), .int a, .int b, .int c] wx wx' r := by
  obtain ⟨fs, hx⟩ := hx
  refine KE.of (cc := cL_does) (maxL := 6) (lv0 := [(0, .ref (ad 0)), (1, .int (nI 1)), (2, .int a), (3, .int b), (4, .int c)]) (by decide +kernel) rfl (Nat.le_of_ble_eq_true rfl) rfl ?_
  intro p e s m args below meth c9 A C0 hT0 hr hlk hK hA hEN
  refine v_iload_n C0 (pc' := 1) 1 rfl rfl dL_does_0 rfl ?_
  refine v_if_neN C0 15 (pc' := 4) (by omega) dL_does_1 (by decide) rfl (fun h1 => ?_) (fun h1 => ?_)
  · refine v_iload_n C0 (pc' := 16) 1 rfl rfl dL_does_15 rfl ?_
    refine v_iconst C0 (pc' := 17) (nI 1) (by decide +kernel) dL_does_16 rfl ?_
    refine v_icmp_neN C0 29 (pc' := 20) (by omega) (by omega) dL_does_17 (by decide) rfl (fun h2 => ?_) (fun h2 => ?_)
    · exact absurd (by decide) h2
    · refine v_aload_n C0 (pc' := 21) 0 rfl rfl dL_does_20 rfl ?_
      refine v_iload_n C0 (pc' := 22) 2 rfl rfl dL_does_21 rfl ?_
      refine v_iload_n C0 (pc' := 23) 3 rfl rfl dL_does_22 rfl ?_
      refine v_callVi0 C0 (av := [.int a, .int b]) (rest := []) (ws' := wx') (pc' := 26) hK hA hM (cwV 2 C0.2.2.2.2 gL_does_X0_pull rfl rfl rfl (by decide +kernel) ⟨Nat.le_of_ble_eq_true rfl, Nat.le_of_ble_eq_true rfl⟩) ⟨0, 0, _, _, _, rfl, hx⟩ PLs.all rfl rfl (Nat.le_of_ble_eq_true rfl) ⟨Nat.zero_le _, Nat.zero_le _⟩ dL_does_23 rfl ?_
      refine v_goto C0 73 dL_does_26 (by decide) ?_
      refine v_widen (k2 := 1) (n2 := 6) (Nat.le_of_ble_eq_true rfl) (Nat.le_of_ble_eq_true rfl) ?_
      exact v_iret C0 hr hlk hK rfl dL_does_73
  · exact absurd h1 (by decide)
set_option maxHeartbeats 1000000 in
set_option maxRecDepth 100000 in
theorem w_pull_NSE (l : Launch) {D : va_G} {cI : ClassId} {ad : Nat → Nat} {wx wx' : va_W} {r : Int32} (a b c : Int32) (hx : ∃ fs, wx[0]? = some (ad 0, .inr (0, fs))) (hM : Kx l yX0_pull wsX0_pull 7 105 D (TI cI) (.ref (ad 0) :: [.int a, .int b]) wx xNSE) : KE l yL_does wsL_does 8 138 D (TI cI) [.ref (ad 0), .int (nI 1), .int a, .int b, .int c] wx wx (-14) := by
  obtain ⟨fs, hx⟩ := hx
  refine KE.of (cc := cL_does) (maxL := 6) (lv0 := [(0, .ref (ad 0)), (1, .int (nI 1)), (2, .int a), (3, .int b), (4, .int c)]) (by decide +kernel) rfl (Nat.le_of_ble_eq_true rfl) rfl ?_
  intro p e s m args below meth c9 A C0 hT0 hr hlk hK hA hEN
  refine v_iload_n C0 (pc' := 1) 1 rfl rfl dL_does_0 rfl ?_
  refine v_if_neN C0 15 (pc' := 4) (by omega) dL_does_1 (by decide) rfl (fun h1 => ?_) (fun h1 => ?_)
  · refine v_iload_n C0 (pc' := 16) 1 rfl rfl dL_does_15 rfl ?_
    refine v_iconst C0 (pc' := 17) (nI 1) (by decide +kernel) dL_does_16 rfl ?_
    refine v_icmp_neN C0 29 (pc' := 20) (by omega) (by omega) dL_does_17 (by decide) rfl (fun h2 => ?_) (fun h2 => ?_)
    · exact absurd (by decide) h2
    · refine v_aload_n C0 (pc' := 21) 0 rfl rfl dL_does_20 rfl ?_
      refine v_iload_n C0 (pc' := 22) 2 rfl rfl dL_does_21 rfl ?_
      refine v_iload_n C0 (pc' := 23) 3 rfl rfl dL_does_22 rfl ?_
      refine v_callVx_catch C0 (av := [.int a, .int b]) (rest := []) hK hA hEN hM (cwV 2 C0.2.2.2.2 gL_does_X0_pull rfl rfl rfl (by decide +kernel) ⟨Nat.le_of_ble_eq_true rfl, Nat.le_of_ble_eq_true rfl⟩) ⟨0, 0, _, _, _, rfl, hx⟩ PLs.all rfl rfl (Nat.le_of_ble_eq_true rfl) ⟨Nat.le_of_ble_eq_true rfl, Nat.le_of_ble_eq_true rfl⟩ dL_does_23 xNSE [⟨0, 73, 74, 64⟩] ⟨0, 73, 79, 66⟩ [⟨0, 73, 84, 68⟩] hT0 (fun z hz => Or.inr (by have hz := List.mem_singleton.mp hz; subst hz; exact ⟨by decide, xIAE, (C0.2.2.2.2 _ (List.mem_of_getElem? (i := 1) rfl)), hEN.2.2.2.2.2.1⟩)) (by decide) (by decide) (C0.2.2.2.2 _ (List.mem_of_getElem? (i := 2) rfl)) (va_Nw.use rfl (hEN.2.2.2.1 _ (List.mem_cons_of_mem _ (List.mem_cons_of_mem _ List.mem_cons_self)))) (fun q9 => ?_)
      refine v_astore C0 (lv' := [(5, .ref q9), (0, .ref (ad 0)), (1, .int (nI 1)), (2, .int a), (3, .int b), (4, .int c)]) (pc' := 81) (by decide) rfl dL_does_79 rfl ?_
      refine v_bipush C0 (pc' := 83) (-14) (by decide) dL_does_81 rfl ?_
      exact v_iret C0 hr hlk hK rfl dL_does_83
  · exact absurd h1 (by decide)
set_option maxHeartbeats 1000000 in
set_option maxRecDepth 100000 in
theorem w_isOn_ok (l : Launch) {D : va_G} {cI : ClassId} {ad : Nat → Nat} {wx wx' : va_W} {r : Int32} (a b c : Int32) (hx : ∃ fs, wx[0]? = some (ad 0, .inr (0, fs))) (hb : r = 0 ∨ r = 1) (hM : Ki l yX0_isOn wsX0_isOn 3 65 0 0 D (TI cI) (.ref (ad 0) :: [.int a, .int b]) wx wx' r) : KE l yL_does wsL_does 8 127 D (TI cI) [.ref (ad 0), .int (nI 2), .int a, .int b, .int c] wx wx' r := by
  obtain ⟨fs, hx⟩ := hx
  refine KE.of (cc := cL_does) (maxL := 6) (lv0 := [(0, .ref (ad 0)), (1, .int (nI 2)), (2, .int a), (3, .int b), (4, .int c)]) (by decide +kernel) rfl (Nat.le_of_ble_eq_true rfl) rfl ?_
  intro p e s m args below meth c9 A C0 hT0 hr hlk hK hA hEN
  refine v_iload_n C0 (pc' := 1) 1 rfl rfl dL_does_0 rfl ?_
  refine v_if_neN C0 15 (pc' := 4) (by omega) dL_does_1 (by decide) rfl (fun h1 => ?_) (fun h1 => ?_)
  · refine v_iload_n C0 (pc' := 16) 1 rfl rfl dL_does_15 rfl ?_
    refine v_iconst C0 (pc' := 17) (nI 1) (by decide +kernel) dL_does_16 rfl ?_
    refine v_icmp_neN C0 29 (pc' := 20) (by omega) (by omega) dL_does_17 (by decide) rfl (fun h2 => ?_) (fun h2 => ?_)
    · refine v_iload_n C0 (pc' := 30) 1 rfl rfl dL_does_29 rfl ?_
      refine v_iconst C0 (pc' := 31) (nI 2) (by decide +kernel) dL_does_30 rfl ?_
      refine v_icmp_neN C0 51 (pc' := 34) (by omega) (by omega) dL_does_31 (by decide) rfl (fun h3 => ?_) (fun h3 => ?_)
      · exact absurd (by decide) h3
      · refine v_aload_n C0 (pc' := 35) 0 rfl rfl dL_does_34 rfl ?_
        refine v_iload_n C0 (pc' := 36) 2 rfl rfl dL_does_35 rfl ?_
        refine v_iload_n C0 (pc' := 37) 3 rfl rfl dL_does_36 rfl ?_
        refine v_callVi0 C0 (av := [.int a, .int b]) (rest := []) (ws' := wx') (pc' := 40) hK hA hM (cwV 2 C0.2.2.2.2 gL_does_X0_isOn rfl rfl rfl (by decide +kernel) ⟨Nat.le_of_ble_eq_true rfl, Nat.le_of_ble_eq_true rfl⟩) ⟨0, 0, _, _, _, rfl, hx⟩ PLs.all rfl rfl (Nat.le_of_ble_eq_true rfl) ⟨Nat.zero_le _, Nat.zero_le _⟩ dL_does_37 rfl ?_
        refine v_if_eq C0 47 (pc' := 43) dL_does_40 (by decide) rfl (fun h4 => ?_) (fun h4 => ?_)
        · refine v_iconst C0 (pc' := 48) (nI 0) (by decide +kernel) dL_does_47 rfl ?_
          refine v_goto C0 73 dL_does_48 (by decide) ?_
          refine v_widen (k2 := 1) (n2 := 6) (Nat.le_of_ble_eq_true rfl) (Nat.le_of_ble_eq_true rfl) ?_
          exact v_iret C0 hr hlk hK (by rw [h4]; rfl) dL_does_73
        · refine v_iconst C0 (pc' := 44) (nI 1) (by decide +kernel) dL_does_43 rfl ?_
          refine v_goto C0 73 dL_does_44 (by decide) ?_
          refine v_widen (k2 := 1) (n2 := 6) (Nat.le_of_ble_eq_true rfl) (Nat.le_of_ble_eq_true rfl) ?_
          exact v_iret C0 hr hlk hK (hb.elim (fun z => absurd z h4) (fun z => by rw [z]; rfl)) dL_does_73
    · exact absurd h2 (by decide)
  · exact absurd h1 (by decide)
set_option maxHeartbeats 1000000 in
set_option maxRecDepth 100000 in
theorem w_isOn_NSE (l : Launch) {D : va_G} {cI : ClassId} {ad : Nat → Nat} {wx wx' : va_W} {r : Int32} (a b c : Int32) (hx : ∃ fs, wx[0]? = some (ad 0, .inr (0, fs))) (hM : Kx l yX0_isOn wsX0_isOn 7 105 D (TI cI) (.ref (ad 0) :: [.int a, .int b]) wx xNSE) : KE l yL_does wsL_does 8 127 D (TI cI) [.ref (ad 0), .int (nI 2), .int a, .int b, .int c] wx wx (-14) := by
  obtain ⟨fs, hx⟩ := hx
  refine KE.of (cc := cL_does) (maxL := 6) (lv0 := [(0, .ref (ad 0)), (1, .int (nI 2)), (2, .int a), (3, .int b), (4, .int c)]) (by decide +kernel) rfl (Nat.le_of_ble_eq_true rfl) rfl ?_
  intro p e s m args below meth c9 A C0 hT0 hr hlk hK hA hEN
  refine v_iload_n C0 (pc' := 1) 1 rfl rfl dL_does_0 rfl ?_
  refine v_if_neN C0 15 (pc' := 4) (by omega) dL_does_1 (by decide) rfl (fun h1 => ?_) (fun h1 => ?_)
  · refine v_iload_n C0 (pc' := 16) 1 rfl rfl dL_does_15 rfl ?_
    refine v_iconst C0 (pc' := 17) (nI 1) (by decide +kernel) dL_does_16 rfl ?_
    refine v_icmp_neN C0 29 (pc' := 20) (by omega) (by omega) dL_does_17 (by decide) rfl (fun h2 => ?_) (fun h2 => ?_)
    · refine v_iload_n C0 (pc' := 30) 1 rfl rfl dL_does_29 rfl ?_
      refine v_iconst C0 (pc' := 31) (nI 2) (by decide +kernel) dL_does_30 rfl ?_
      refine v_icmp_neN C0 51 (pc' := 34) (by omega) (by omega) dL_does_31 (by decide) rfl (fun h3 => ?_) (fun h3 => ?_)
      · exact absurd (by decide) h3
      · refine v_aload_n C0 (pc' := 35) 0 rfl rfl dL_does_34 rfl ?_
        refine v_iload_n C0 (pc' := 36) 2 rfl rfl dL_does_35 rfl ?_
        refine v_iload_n C0 (pc' := 37) 3 rfl rfl dL_does_36 rfl ?_
        refine v_callVx_catch C0 (av := [.int a, .int b]) (rest := []) hK hA hEN hM (cwV 2 C0.2.2.2.2 gL_does_X0_isOn rfl rfl rfl (by decide +kernel) ⟨Nat.le_of_ble_eq_true rfl, Nat.le_of_ble_eq_true rfl⟩) ⟨0, 0, _, _, _, rfl, hx⟩ PLs.all rfl rfl (Nat.le_of_ble_eq_true rfl) ⟨Nat.le_of_ble_eq_true rfl, Nat.le_of_ble_eq_true rfl⟩ dL_does_37 xNSE [⟨0, 73, 74, 64⟩] ⟨0, 73, 79, 66⟩ [⟨0, 73, 84, 68⟩] hT0 (fun z hz => Or.inr (by have hz := List.mem_singleton.mp hz; subst hz; exact ⟨by decide, xIAE, (C0.2.2.2.2 _ (List.mem_of_getElem? (i := 1) rfl)), hEN.2.2.2.2.2.1⟩)) (by decide) (by decide) (C0.2.2.2.2 _ (List.mem_of_getElem? (i := 2) rfl)) (va_Nw.use rfl (hEN.2.2.2.1 _ (List.mem_cons_of_mem _ (List.mem_cons_of_mem _ List.mem_cons_self)))) (fun q9 => ?_)
        refine v_astore C0 (lv' := [(5, .ref q9), (0, .ref (ad 0)), (1, .int (nI 2)), (2, .int a), (3, .int b), (4, .int c)]) (pc' := 81) (by decide) rfl dL_does_79 rfl ?_
        refine v_bipush C0 (pc' := 83) (-14) (by decide) dL_does_81 rfl ?_
        exact v_iret C0 hr hlk hK rfl dL_does_83
    · exact absurd h2 (by decide)
  · exact absurd h1 (by decide)
set_option maxHeartbeats 1000000 in
set_option maxRecDepth 100000 in
theorem w_comesAs_ok (l : Launch) {D : va_G} {cI : ClassId} {ad : Nat → Nat} {wx wx' : va_W} {r : Int32} (a b c : Int32) (hx : ∃ fs, wx[0]? = some (ad 0, .inr (0, fs))) (hM : Ki l yX0_comesAs wsX0_comesAs 3 67 0 0 D (TI cI) (.ref (ad 0) :: [.int a, .int b, .int c]) wx wx' r) : KE l yL_does wsL_does 8 128 D (TI cI) [.ref (ad 0), .int (nI 3), .int a, .int b, .int c] wx wx' r := by
  obtain ⟨fs, hx⟩ := hx
  refine KE.of (cc := cL_does) (maxL := 6) (lv0 := [(0, .ref (ad 0)), (1, .int (nI 3)), (2, .int a), (3, .int b), (4, .int c)]) (by decide +kernel) rfl (Nat.le_of_ble_eq_true rfl) rfl ?_
  intro p e s m args below meth c9 A C0 hT0 hr hlk hK hA hEN
  refine v_iload_n C0 (pc' := 1) 1 rfl rfl dL_does_0 rfl ?_
  refine v_if_neN C0 15 (pc' := 4) (by omega) dL_does_1 (by decide) rfl (fun h1 => ?_) (fun h1 => ?_)
  · refine v_iload_n C0 (pc' := 16) 1 rfl rfl dL_does_15 rfl ?_
    refine v_iconst C0 (pc' := 17) (nI 1) (by decide +kernel) dL_does_16 rfl ?_
    refine v_icmp_neN C0 29 (pc' := 20) (by omega) (by omega) dL_does_17 (by decide) rfl (fun h2 => ?_) (fun h2 => ?_)
    · refine v_iload_n C0 (pc' := 30) 1 rfl rfl dL_does_29 rfl ?_
      refine v_iconst C0 (pc' := 31) (nI 2) (by decide +kernel) dL_does_30 rfl ?_
      refine v_icmp_neN C0 51 (pc' := 34) (by omega) (by omega) dL_does_31 (by decide) rfl (fun h3 => ?_) (fun h3 => ?_)
      · refine v_iload_n C0 (pc' := 52) 1 rfl rfl dL_does_51 rfl ?_
        refine v_iconst C0 (pc' := 53) (nI 3) (by decide +kernel) dL_does_52 rfl ?_
        refine v_icmp_neN C0 67 (pc' := 56) (by omega) (by omega) dL_does_53 (by decide) rfl (fun h4 => ?_) (fun h4 => ?_)
        · exact absurd (by decide) h4
        · refine v_aload_n C0 (pc' := 57) 0 rfl rfl dL_does_56 rfl ?_
          refine v_iload_n C0 (pc' := 58) 2 rfl rfl dL_does_57 rfl ?_
          refine v_iload_n C0 (pc' := 59) 3 rfl rfl dL_does_58 rfl ?_
          refine v_iload C0 (pc' := 61) 4 rfl dL_does_59 rfl ?_
          refine v_callVi0 C0 (av := [.int a, .int b, .int c]) (rest := []) (ws' := wx') (pc' := 64) hK hA hM (cwV 3 C0.2.2.2.2 gL_does_X0_comesAs rfl rfl rfl (by decide +kernel) ⟨Nat.le_of_ble_eq_true rfl, Nat.le_of_ble_eq_true rfl⟩) ⟨0, 0, _, _, _, rfl, hx⟩ PLs.all rfl rfl (Nat.le_of_ble_eq_true rfl) ⟨Nat.zero_le _, Nat.zero_le _⟩ dL_does_61 rfl ?_
          refine v_goto C0 73 dL_does_64 (by decide) ?_
          refine v_widen (k2 := 1) (n2 := 6) (Nat.le_of_ble_eq_true rfl) (Nat.le_of_ble_eq_true rfl) ?_
          exact v_iret C0 hr hlk hK rfl dL_does_73
      · exact absurd h3 (by decide)
    · exact absurd h2 (by decide)
  · exact absurd h1 (by decide)
set_option maxHeartbeats 1000000 in
set_option maxRecDepth 100000 in
theorem w_comesAs_NSE (l : Launch) {D : va_G} {cI : ClassId} {ad : Nat → Nat} {wx wx' : va_W} {r : Int32} (a b c : Int32) (hx : ∃ fs, wx[0]? = some (ad 0, .inr (0, fs))) (hM : Kx l yX0_comesAs wsX0_comesAs 7 105 D (TI cI) (.ref (ad 0) :: [.int a, .int b, .int c]) wx xNSE) : KE l yL_does wsL_does 8 128 D (TI cI) [.ref (ad 0), .int (nI 3), .int a, .int b, .int c] wx wx (-14) := by
  obtain ⟨fs, hx⟩ := hx
  refine KE.of (cc := cL_does) (maxL := 6) (lv0 := [(0, .ref (ad 0)), (1, .int (nI 3)), (2, .int a), (3, .int b), (4, .int c)]) (by decide +kernel) rfl (Nat.le_of_ble_eq_true rfl) rfl ?_
  intro p e s m args below meth c9 A C0 hT0 hr hlk hK hA hEN
  refine v_iload_n C0 (pc' := 1) 1 rfl rfl dL_does_0 rfl ?_
  refine v_if_neN C0 15 (pc' := 4) (by omega) dL_does_1 (by decide) rfl (fun h1 => ?_) (fun h1 => ?_)
  · refine v_iload_n C0 (pc' := 16) 1 rfl rfl dL_does_15 rfl ?_
    refine v_iconst C0 (pc' := 17) (nI 1) (by decide +kernel) dL_does_16 rfl ?_
    refine v_icmp_neN C0 29 (pc' := 20) (by omega) (by omega) dL_does_17 (by decide) rfl (fun h2 => ?_) (fun h2 => ?_)
    · refine v_iload_n C0 (pc' := 30) 1 rfl rfl dL_does_29 rfl ?_
      refine v_iconst C0 (pc' := 31) (nI 2) (by decide +kernel) dL_does_30 rfl ?_
      refine v_icmp_neN C0 51 (pc' := 34) (by omega) (by omega) dL_does_31 (by decide) rfl (fun h3 => ?_) (fun h3 => ?_)
      · refine v_iload_n C0 (pc' := 52) 1 rfl rfl dL_does_51 rfl ?_
        refine v_iconst C0 (pc' := 53) (nI 3) (by decide +kernel) dL_does_52 rfl ?_
        refine v_icmp_neN C0 67 (pc' := 56) (by omega) (by omega) dL_does_53 (by decide) rfl (fun h4 => ?_) (fun h4 => ?_)
        · exact absurd (by decide) h4
        · refine v_aload_n C0 (pc' := 57) 0 rfl rfl dL_does_56 rfl ?_
          refine v_iload_n C0 (pc' := 58) 2 rfl rfl dL_does_57 rfl ?_
          refine v_iload_n C0 (pc' := 59) 3 rfl rfl dL_does_58 rfl ?_
          refine v_iload C0 (pc' := 61) 4 rfl dL_does_59 rfl ?_
          refine v_callVx_catch C0 (av := [.int a, .int b, .int c]) (rest := []) hK hA hEN hM (cwV 3 C0.2.2.2.2 gL_does_X0_comesAs rfl rfl rfl (by decide +kernel) ⟨Nat.le_of_ble_eq_true rfl, Nat.le_of_ble_eq_true rfl⟩) ⟨0, 0, _, _, _, rfl, hx⟩ PLs.all rfl rfl (Nat.le_of_ble_eq_true rfl) ⟨Nat.le_of_ble_eq_true rfl, Nat.le_of_ble_eq_true rfl⟩ dL_does_61 xNSE [⟨0, 73, 74, 64⟩] ⟨0, 73, 79, 66⟩ [⟨0, 73, 84, 68⟩] hT0 (fun z hz => Or.inr (by have hz := List.mem_singleton.mp hz; subst hz; exact ⟨by decide, xIAE, (C0.2.2.2.2 _ (List.mem_of_getElem? (i := 1) rfl)), hEN.2.2.2.2.2.1⟩)) (by decide) (by decide) (C0.2.2.2.2 _ (List.mem_of_getElem? (i := 2) rfl)) (va_Nw.use rfl (hEN.2.2.2.1 _ (List.mem_cons_of_mem _ (List.mem_cons_of_mem _ List.mem_cons_self)))) (fun q9 => ?_)
          refine v_astore C0 (lv' := [(5, .ref q9), (0, .ref (ad 0)), (1, .int (nI 3)), (2, .int a), (3, .int b), (4, .int c)]) (pc' := 81) (by decide) rfl dL_does_79 rfl ?_
          refine v_bipush C0 (pc' := 83) (-14) (by decide) dL_does_81 rfl ?_
          exact v_iret C0 hr hlk hK rfl dL_does_83
      · exact absurd h3 (by decide)
    · exact absurd h2 (by decide)
  · exact absurd h1 (by decide)
set_option maxHeartbeats 1000000 in
set_option maxRecDepth 100000 in
theorem w_oneSided_ok (l : Launch) {D : va_G} {cI : ClassId} {ad : Nat → Nat} {wx wx' : va_W} {r : Int32} (a b c : Int32) (hx : ∃ fs, wx[0]? = some (ad 0, .inr (0, fs))) (hM : Ki l yX0_oneSided wsX0_oneSided 3 65 0 0 D (TI cI) (.ref (ad 0) :: [.int a, .int b]) wx wx' r) : KE l yL_does wsL_does 8 128 D (TI cI) [.ref (ad 0), .int (nI 4), .int a, .int b, .int c] wx wx' r := by
  obtain ⟨fs, hx⟩ := hx
  refine KE.of (cc := cL_does) (maxL := 6) (lv0 := [(0, .ref (ad 0)), (1, .int (nI 4)), (2, .int a), (3, .int b), (4, .int c)]) (by decide +kernel) rfl (Nat.le_of_ble_eq_true rfl) rfl ?_
  intro p e s m args below meth c9 A C0 hT0 hr hlk hK hA hEN
  refine v_iload_n C0 (pc' := 1) 1 rfl rfl dL_does_0 rfl ?_
  refine v_if_neN C0 15 (pc' := 4) (by omega) dL_does_1 (by decide) rfl (fun h1 => ?_) (fun h1 => ?_)
  · refine v_iload_n C0 (pc' := 16) 1 rfl rfl dL_does_15 rfl ?_
    refine v_iconst C0 (pc' := 17) (nI 1) (by decide +kernel) dL_does_16 rfl ?_
    refine v_icmp_neN C0 29 (pc' := 20) (by omega) (by omega) dL_does_17 (by decide) rfl (fun h2 => ?_) (fun h2 => ?_)
    · refine v_iload_n C0 (pc' := 30) 1 rfl rfl dL_does_29 rfl ?_
      refine v_iconst C0 (pc' := 31) (nI 2) (by decide +kernel) dL_does_30 rfl ?_
      refine v_icmp_neN C0 51 (pc' := 34) (by omega) (by omega) dL_does_31 (by decide) rfl (fun h3 => ?_) (fun h3 => ?_)
      · refine v_iload_n C0 (pc' := 52) 1 rfl rfl dL_does_51 rfl ?_
        refine v_iconst C0 (pc' := 53) (nI 3) (by decide +kernel) dL_does_52 rfl ?_
        refine v_icmp_neN C0 67 (pc' := 56) (by omega) (by omega) dL_does_53 (by decide) rfl (fun h4 => ?_) (fun h4 => ?_)
        · refine v_aload_n C0 (pc' := 68) 0 rfl rfl dL_does_67 rfl ?_
          refine v_iload_n C0 (pc' := 69) 2 rfl rfl dL_does_68 rfl ?_
          refine v_iload_n C0 (pc' := 70) 3 rfl rfl dL_does_69 rfl ?_
          refine v_callVi0 C0 (av := [.int a, .int b]) (rest := []) (ws' := wx') (pc' := 73) hK hA hM (cwV 2 C0.2.2.2.2 gL_does_X0_oneSided rfl rfl rfl (by decide +kernel) ⟨Nat.le_of_ble_eq_true rfl, Nat.le_of_ble_eq_true rfl⟩) ⟨0, 0, _, _, _, rfl, hx⟩ PLs.all rfl rfl (Nat.le_of_ble_eq_true rfl) ⟨Nat.zero_le _, Nat.zero_le _⟩ dL_does_70 rfl ?_
          refine v_widen (k2 := 1) (n2 := 6) (Nat.le_of_ble_eq_true rfl) (Nat.le_of_ble_eq_true rfl) ?_
          exact v_iret C0 hr hlk hK rfl dL_does_73
        · exact absurd h4 (by decide)
      · exact absurd h3 (by decide)
    · exact absurd h2 (by decide)
  · exact absurd h1 (by decide)
set_option maxHeartbeats 1000000 in
set_option maxRecDepth 100000 in
theorem w_oneSided_NSE (l : Launch) {D : va_G} {cI : ClassId} {ad : Nat → Nat} {wx wx' : va_W} {r : Int32} (a b c : Int32) (hx : ∃ fs, wx[0]? = some (ad 0, .inr (0, fs))) (hM : Kx l yX0_oneSided wsX0_oneSided 7 105 D (TI cI) (.ref (ad 0) :: [.int a, .int b]) wx xNSE) : KE l yL_does wsL_does 8 128 D (TI cI) [.ref (ad 0), .int (nI 4), .int a, .int b, .int c] wx wx (-14) := by
  obtain ⟨fs, hx⟩ := hx
  refine KE.of (cc := cL_does) (maxL := 6) (lv0 := [(0, .ref (ad 0)), (1, .int (nI 4)), (2, .int a), (3, .int b), (4, .int c)]) (by decide +kernel) rfl (Nat.le_of_ble_eq_true rfl) rfl ?_
  intro p e s m args below meth c9 A C0 hT0 hr hlk hK hA hEN
  refine v_iload_n C0 (pc' := 1) 1 rfl rfl dL_does_0 rfl ?_
  refine v_if_neN C0 15 (pc' := 4) (by omega) dL_does_1 (by decide) rfl (fun h1 => ?_) (fun h1 => ?_)
  · refine v_iload_n C0 (pc' := 16) 1 rfl rfl dL_does_15 rfl ?_
    refine v_iconst C0 (pc' := 17) (nI 1) (by decide +kernel) dL_does_16 rfl ?_
    refine v_icmp_neN C0 29 (pc' := 20) (by omega) (by omega) dL_does_17 (by decide) rfl (fun h2 => ?_) (fun h2 => ?_)
    · refine v_iload_n C0 (pc' := 30) 1 rfl rfl dL_does_29 rfl ?_
      refine v_iconst C0 (pc' := 31) (nI 2) (by decide +kernel) dL_does_30 rfl ?_
      refine v_icmp_neN C0 51 (pc' := 34) (by omega) (by omega) dL_does_31 (by decide) rfl (fun h3 => ?_) (fun h3 => ?_)
      · refine v_iload_n C0 (pc' := 52) 1 rfl rfl dL_does_51 rfl ?_
        refine v_iconst C0 (pc' := 53) (nI 3) (by decide +kernel) dL_does_52 rfl ?_
        refine v_icmp_neN C0 67 (pc' := 56) (by omega) (by omega) dL_does_53 (by decide) rfl (fun h4 => ?_) (fun h4 => ?_)
        · refine v_aload_n C0 (pc' := 68) 0 rfl rfl dL_does_67 rfl ?_
          refine v_iload_n C0 (pc' := 69) 2 rfl rfl dL_does_68 rfl ?_
          refine v_iload_n C0 (pc' := 70) 3 rfl rfl dL_does_69 rfl ?_
          refine v_callVx_catch C0 (av := [.int a, .int b]) (rest := []) hK hA hEN hM (cwV 2 C0.2.2.2.2 gL_does_X0_oneSided rfl rfl rfl (by decide +kernel) ⟨Nat.le_of_ble_eq_true rfl, Nat.le_of_ble_eq_true rfl⟩) ⟨0, 0, _, _, _, rfl, hx⟩ PLs.all rfl rfl (Nat.le_of_ble_eq_true rfl) ⟨Nat.le_of_ble_eq_true rfl, Nat.le_of_ble_eq_true rfl⟩ dL_does_70 xNSE [⟨0, 73, 74, 64⟩] ⟨0, 73, 79, 66⟩ [⟨0, 73, 84, 68⟩] hT0 (fun z hz => Or.inr (by have hz := List.mem_singleton.mp hz; subst hz; exact ⟨by decide, xIAE, (C0.2.2.2.2 _ (List.mem_of_getElem? (i := 1) rfl)), hEN.2.2.2.2.2.1⟩)) (by decide) (by decide) (C0.2.2.2.2 _ (List.mem_of_getElem? (i := 2) rfl)) (va_Nw.use rfl (hEN.2.2.2.1 _ (List.mem_cons_of_mem _ (List.mem_cons_of_mem _ List.mem_cons_self)))) (fun q9 => ?_)
          refine v_astore C0 (lv' := [(5, .ref q9), (0, .ref (ad 0)), (1, .int (nI 4)), (2, .int a), (3, .int b), (4, .int c)]) (pc' := 81) (by decide) rfl dL_does_79 rfl ?_
          refine v_bipush C0 (pc' := 83) (-14) (by decide) dL_does_81 rfl ?_
          exact v_iret C0 hr hlk hK rfl dL_does_83
        · exact absurd h4 (by decide)
      · exact absurd h3 (by decide)
    · exact absurd h2 (by decide)
  · exact absurd h1 (by decide)
set_option maxHeartbeats 1000000 in
set_option maxRecDepth 100000 in
theorem w_tag_ok (l : Launch) {D : va_G} {cI : ClassId} {ad : Nat → Nat} {wx wx' : va_W} {r : Int32} (a b c t : Int32) (hx : ∃ fs, wx[0]? = some (ad 0, .inr (0, fs))) (hb : r = 0 ∨ r = 1) (hM : Ki l yX0_tag wsX0_tag 2 43 0 0 D (TI cI) (.ref (ad 0) :: [.int a, .int b, .int c, .int t]) wx wx' r) : KE l yL_tags wsL_tags 7 109 D (TI cI) [.ref (ad 0), .int a, .int b, .int c, .int t] wx wx' r := by
  obtain ⟨fs, hx⟩ := hx
  refine KE.of (cc := cL_tags) (maxL := 6) (lv0 := [(0, .ref (ad 0)), (1, .int a), (2, .int b), (3, .int c), (4, .int t)]) (by decide +kernel) rfl (Nat.le_of_ble_eq_true rfl) rfl ?_
  intro p e s m args below meth c9 A C0 hT0 hr hlk hK hA hEN
  refine v_aload_n C0 (pc' := 1) 0 rfl rfl dL_tags_0 rfl ?_
  refine v_iload_n C0 (pc' := 2) 1 rfl rfl dL_tags_1 rfl ?_
  refine v_iload_n C0 (pc' := 3) 2 rfl rfl dL_tags_2 rfl ?_
  refine v_iload_n C0 (pc' := 4) 3 rfl rfl dL_tags_3 rfl ?_
  refine v_iload C0 (pc' := 6) 4 rfl dL_tags_4 rfl ?_
  refine v_callVi0 C0 (av := [.int a, .int b, .int c, .int t]) (rest := []) (ws' := wx') (pc' := 9) hK hA hM (cwV 4 C0.2.2.2.2 gL_tags_X0_tag rfl rfl rfl (by decide +kernel) ⟨Nat.le_of_ble_eq_true rfl, Nat.le_of_ble_eq_true rfl⟩) ⟨0, 0, _, _, _, rfl, hx⟩ PLs.all rfl rfl (Nat.le_of_ble_eq_true rfl) ⟨Nat.zero_le _, Nat.zero_le _⟩ dL_tags_6 rfl ?_
  refine v_if_eq C0 16 (pc' := 12) dL_tags_9 (by decide) rfl (fun h1 => ?_) (fun h1 => ?_)
  · refine v_iconst C0 (pc' := 17) (nI 0) (by decide +kernel) dL_tags_16 rfl ?_
    refine v_widen (k2 := 1) (n2 := 6) (Nat.le_of_ble_eq_true rfl) (Nat.le_of_ble_eq_true rfl) ?_
    exact v_iret C0 hr hlk hK (by rw [h1]; rfl) dL_tags_17
  · refine v_iconst C0 (pc' := 13) (nI 1) (by decide +kernel) dL_tags_12 rfl ?_
    refine v_goto C0 17 dL_tags_13 (by decide) ?_
    refine v_widen (k2 := 1) (n2 := 6) (Nat.le_of_ble_eq_true rfl) (Nat.le_of_ble_eq_true rfl) ?_
    exact v_iret C0 hr hlk hK (hb.elim (fun z => absurd z h1) (fun z => by rw [z]; rfl)) dL_tags_17
set_option maxHeartbeats 1000000 in
set_option maxRecDepth 100000 in
theorem w_tag_ISE (l : Launch) {D : va_G} {cI : ClassId} {ad : Nat → Nat} {wx wx' : va_W} {r : Int32} (a b c t : Int32) (hx : ∃ fs, wx[0]? = some (ad 0, .inr (0, fs))) (hM : Kx l yX0_tag wsX0_tag 6 82 D (TI cI) (.ref (ad 0) :: [.int a, .int b, .int c, .int t]) wx xISE) : KE l yL_tags wsL_tags 7 109 D (TI cI) [.ref (ad 0), .int a, .int b, .int c, .int t] wx wx (-13) := by
  obtain ⟨fs, hx⟩ := hx
  refine KE.of (cc := cL_tags) (maxL := 6) (lv0 := [(0, .ref (ad 0)), (1, .int a), (2, .int b), (3, .int c), (4, .int t)]) (by decide +kernel) rfl (Nat.le_of_ble_eq_true rfl) rfl ?_
  intro p e s m args below meth c9 A C0 hT0 hr hlk hK hA hEN
  refine v_aload_n C0 (pc' := 1) 0 rfl rfl dL_tags_0 rfl ?_
  refine v_iload_n C0 (pc' := 2) 1 rfl rfl dL_tags_1 rfl ?_
  refine v_iload_n C0 (pc' := 3) 2 rfl rfl dL_tags_2 rfl ?_
  refine v_iload_n C0 (pc' := 4) 3 rfl rfl dL_tags_3 rfl ?_
  refine v_iload C0 (pc' := 6) 4 rfl dL_tags_4 rfl ?_
  refine v_callVx_catch C0 (av := [.int a, .int b, .int c, .int t]) (rest := []) hK hA hEN hM (cwV 4 C0.2.2.2.2 gL_tags_X0_tag rfl rfl rfl (by decide +kernel) ⟨Nat.le_of_ble_eq_true rfl, Nat.le_of_ble_eq_true rfl⟩) ⟨0, 0, _, _, _, rfl, hx⟩ PLs.all rfl rfl (Nat.le_of_ble_eq_true rfl) ⟨Nat.le_of_ble_eq_true rfl, Nat.le_of_ble_eq_true rfl⟩ dL_tags_6 xISE [] ⟨0, 17, 18, 68⟩ [] hT0 (fun z hz => absurd hz List.not_mem_nil) (by decide) (by decide) (C0.2.2.2.2 _ (List.mem_of_getElem? (i := 1) rfl)) (va_Nw.use rfl (hEN.2.2.2.1 _ (List.mem_cons_of_mem _ List.mem_cons_self))) (fun q9 => ?_)
  refine v_astore C0 (lv' := [(5, .ref q9), (0, .ref (ad 0)), (1, .int a), (2, .int b), (3, .int c), (4, .int t)]) (pc' := 20) (by decide) rfl dL_tags_18 rfl ?_
  refine v_bipush C0 (pc' := 22) (-13) (by decide) dL_tags_20 rfl ?_
  exact v_iret C0 hr hlk hK rfl dL_tags_22
set_option maxHeartbeats 1000000 in
set_option maxRecDepth 100000 in
theorem w_cable_ok (l : Launch) {D : va_G} {cI : ClassId} {ad : Nat → Nat} {wx wx' : va_W} {r : Int32} (a b c f w : Int32) (hx : ∃ fs, wx[0]? = some (ad 0, .inr (0, fs))) (hM : Ki l yX0_cable wsX0_cable 5 114 0 0 D (TI cI) (.ref (ad 0) :: [.int a, .int b, .int c, .int f, .int w]) wx wx' r) : KE l yL_cables wsL_cables 9 150 D (TI cI) [.ref (ad 0), .int a, .int b, .int c, .int f, .int w] wx wx' r := by
  obtain ⟨fs, hx⟩ := hx
  refine KE.of (cc := cL_cables) (maxL := 7) (lv0 := [(0, .ref (ad 0)), (1, .int a), (2, .int b), (3, .int c), (4, .int f), (5, .int w)]) (by decide +kernel) rfl (Nat.le_of_ble_eq_true rfl) rfl ?_
  intro p e s m args below meth c9 A C0 hT0 hr hlk hK hA hEN
  refine v_aload_n C0 (pc' := 1) 0 rfl rfl dL_cables_0 rfl ?_
  refine v_iload_n C0 (pc' := 2) 1 rfl rfl dL_cables_1 rfl ?_
  refine v_iload_n C0 (pc' := 3) 2 rfl rfl dL_cables_2 rfl ?_
  refine v_iload_n C0 (pc' := 4) 3 rfl rfl dL_cables_3 rfl ?_
  refine v_iload C0 (pc' := 6) 4 rfl dL_cables_4 rfl ?_
  refine v_iload C0 (pc' := 8) 5 rfl dL_cables_6 rfl ?_
  refine v_callVi0 C0 (av := [.int a, .int b, .int c, .int f, .int w]) (rest := []) (ws' := wx') (pc' := 11) hK hA hM (cwV 5 C0.2.2.2.2 gL_cables_X0_cable rfl rfl rfl (by decide +kernel) ⟨Nat.le_of_ble_eq_true rfl, Nat.le_of_ble_eq_true rfl⟩) ⟨0, 0, _, _, _, rfl, hx⟩ PLs.all rfl rfl (Nat.le_of_ble_eq_true rfl) ⟨Nat.zero_le _, Nat.zero_le _⟩ dL_cables_8 rfl ?_
  refine v_widen (k2 := 1) (n2 := 6) (Nat.le_of_ble_eq_true rfl) (Nat.le_of_ble_eq_true rfl) ?_
  exact v_iret C0 hr hlk hK rfl dL_cables_11
set_option maxHeartbeats 1000000 in
set_option maxRecDepth 100000 in
theorem w_cable_IAE (l : Launch) {D : va_G} {cI : ClassId} {ad : Nat → Nat} {wx wx' : va_W} {r : Int32} (a b c f w : Int32) (hx : ∃ fs, wx[0]? = some (ad 0, .inr (0, fs))) (hM : Kx l yX0_cable wsX0_cable 8 123 D (TI cI) (.ref (ad 0) :: [.int a, .int b, .int c, .int f, .int w]) wx xIAE) : KE l yL_cables wsL_cables 9 150 D (TI cI) [.ref (ad 0), .int a, .int b, .int c, .int f, .int w] wx wx (-12) := by
  obtain ⟨fs, hx⟩ := hx
  refine KE.of (cc := cL_cables) (maxL := 7) (lv0 := [(0, .ref (ad 0)), (1, .int a), (2, .int b), (3, .int c), (4, .int f), (5, .int w)]) (by decide +kernel) rfl (Nat.le_of_ble_eq_true rfl) rfl ?_
  intro p e s m args below meth c9 A C0 hT0 hr hlk hK hA hEN
  refine v_aload_n C0 (pc' := 1) 0 rfl rfl dL_cables_0 rfl ?_
  refine v_iload_n C0 (pc' := 2) 1 rfl rfl dL_cables_1 rfl ?_
  refine v_iload_n C0 (pc' := 3) 2 rfl rfl dL_cables_2 rfl ?_
  refine v_iload_n C0 (pc' := 4) 3 rfl rfl dL_cables_3 rfl ?_
  refine v_iload C0 (pc' := 6) 4 rfl dL_cables_4 rfl ?_
  refine v_iload C0 (pc' := 8) 5 rfl dL_cables_6 rfl ?_
  refine v_callVx_catch C0 (av := [.int a, .int b, .int c, .int f, .int w]) (rest := []) hK hA hEN hM (cwV 5 C0.2.2.2.2 gL_cables_X0_cable rfl rfl rfl (by decide +kernel) ⟨Nat.le_of_ble_eq_true rfl, Nat.le_of_ble_eq_true rfl⟩) ⟨0, 0, _, _, _, rfl, hx⟩ PLs.all rfl rfl (Nat.le_of_ble_eq_true rfl) ⟨Nat.le_of_ble_eq_true rfl, Nat.le_of_ble_eq_true rfl⟩ dL_cables_8 xIAE [] ⟨0, 11, 12, 64⟩ [⟨0, 11, 17, 68⟩] hT0 (fun z hz => absurd hz List.not_mem_nil) (by decide) (by decide) (C0.2.2.2.2 _ (List.mem_of_getElem? (i := 1) rfl)) (va_Nw.use rfl (hEN.2.2.2.1 _ List.mem_cons_self)) (fun q9 => ?_)
  refine v_astore C0 (lv' := [(6, .ref q9), (0, .ref (ad 0)), (1, .int a), (2, .int b), (3, .int c), (4, .int f), (5, .int w)]) (pc' := 14) (by decide) rfl dL_cables_12 rfl ?_
  refine v_bipush C0 (pc' := 16) (-12) (by decide) dL_cables_14 rfl ?_
  exact v_iret C0 hr hlk hK rfl dL_cables_16
set_option maxHeartbeats 1000000 in
set_option maxRecDepth 100000 in
theorem w_cable_ISE (l : Launch) {D : va_G} {cI : ClassId} {ad : Nat → Nat} {wx wx' : va_W} {r : Int32} (a b c f w : Int32) (hx : ∃ fs, wx[0]? = some (ad 0, .inr (0, fs))) (hM : Kx l yX0_cable wsX0_cable 6 82 D (TI cI) (.ref (ad 0) :: [.int a, .int b, .int c, .int f, .int w]) wx xISE) : KE l yL_cables wsL_cables 9 150 D (TI cI) [.ref (ad 0), .int a, .int b, .int c, .int f, .int w] wx wx (-13) := by
  obtain ⟨fs, hx⟩ := hx
  refine KE.of (cc := cL_cables) (maxL := 7) (lv0 := [(0, .ref (ad 0)), (1, .int a), (2, .int b), (3, .int c), (4, .int f), (5, .int w)]) (by decide +kernel) rfl (Nat.le_of_ble_eq_true rfl) rfl ?_
  intro p e s m args below meth c9 A C0 hT0 hr hlk hK hA hEN
  refine v_aload_n C0 (pc' := 1) 0 rfl rfl dL_cables_0 rfl ?_
  refine v_iload_n C0 (pc' := 2) 1 rfl rfl dL_cables_1 rfl ?_
  refine v_iload_n C0 (pc' := 3) 2 rfl rfl dL_cables_2 rfl ?_
  refine v_iload_n C0 (pc' := 4) 3 rfl rfl dL_cables_3 rfl ?_
  refine v_iload C0 (pc' := 6) 4 rfl dL_cables_4 rfl ?_
  refine v_iload C0 (pc' := 8) 5 rfl dL_cables_6 rfl ?_
  refine v_callVx_catch C0 (av := [.int a, .int b, .int c, .int f, .int w]) (rest := []) hK hA hEN hM (cwV 5 C0.2.2.2.2 gL_cables_X0_cable rfl rfl rfl (by decide +kernel) ⟨Nat.le_of_ble_eq_true rfl, Nat.le_of_ble_eq_true rfl⟩) ⟨0, 0, _, _, _, rfl, hx⟩ PLs.all rfl rfl (Nat.le_of_ble_eq_true rfl) ⟨Nat.le_of_ble_eq_true rfl, Nat.le_of_ble_eq_true rfl⟩ dL_cables_8 xISE [⟨0, 11, 12, 64⟩] ⟨0, 11, 17, 68⟩ [] hT0 (fun z hz => Or.inr (by have hz := List.mem_singleton.mp hz; subst hz; exact ⟨by decide, xIAE, (C0.2.2.2.2 _ (List.mem_of_getElem? (i := 1) rfl)), hEN.2.2.2.2.1⟩)) (by decide) (by decide) (C0.2.2.2.2 _ (List.mem_of_getElem? (i := 2) rfl)) (va_Nw.use rfl (hEN.2.2.2.1 _ (List.mem_cons_of_mem _ List.mem_cons_self))) (fun q9 => ?_)
  refine v_astore C0 (lv' := [(6, .ref q9), (0, .ref (ad 0)), (1, .int a), (2, .int b), (3, .int c), (4, .int f), (5, .int w)]) (pc' := 19) (by decide) rfl dL_cables_17 rfl ?_
  refine v_bipush C0 (pc' := 21) (-13) (by decide) dL_cables_19 rfl ?_
  exact v_iret C0 hr hlk hK rfl dL_cables_21
