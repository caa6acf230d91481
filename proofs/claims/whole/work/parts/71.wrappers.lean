/-! the law's own methods: they call the class, and catch what it throws -/
theorem gx1 {α : Type} {a : α} {l : List α} {q : α} (h : l[0]? = some q) : (a :: l)[1]? = some q := h
set_option maxHeartbeats 1000000 in
set_option maxRecDepth 100000 in
theorem w_untag_ok (l : Launch) {D : va_G} {cI cJ : ClassId} {ad : Nat → Nat} {wx wx' : va_W} {r : Int32} (o : Nat) (g : Nat → Int64) (a b c : Int32) (hx : ∃ fs, wx[0]? = some (ad 0, .inr (0, fs))) (hM : Ki l yX0_untag wsX0_untag 2 43 0 0 D (TI cI) [.ref (ad 0), .int a, .int b, .int c] wx wx' r) : KE l yL_untag wsL_untag 9 148 D (TL cI cJ) [.ref (ad 0), .int a, .int b, .int c, .ref o] (oC cJ o g :: wx) (oC cJ o (vp_updL g (0 : Int32).toNatClampNeg (r.toInt64)) :: wx') 0 := by
  obtain ⟨fs, hx⟩ := hx
  refine KE.of (cc := cL_untag) (maxL := 6) (lv0 := [(0, .ref (ad 0)), (1, .int a), (2, .int b), (3, .int c), (4, .ref o)]) (by decide +kernel) rfl (Nat.le_of_ble_eq_true rfl) rfl ?_
  intro p e s m args below meth c9 A C0 hT0 hr hlk hK hA hEN
  have hK1 : va_K D vwCl (TI cI) s := hK.sub [0] rfl
  refine v_aload C0 (pc' := 2) 4 rfl dL_untag_0 rfl ?_
  refine v_iconst C0 (pc' := 3) 0 (by decide) dL_untag_2 rfl ?_
  refine v_aload_n C0 (pc' := 4) 0 rfl rfl dL_untag_3 rfl ?_
  refine v_iload_n C0 (pc' := 5) 1 rfl rfl dL_untag_4 rfl ?_
  refine v_iload_n C0 (pc' := 6) 2 rfl rfl dL_untag_5 rfl ?_
  refine v_iload_n C0 (pc' := 7) 3 rfl rfl dL_untag_6 rfl ?_
  refine v_callVi0 C0 (av := [.int a, .int b, .int c]) (rest := [.int 0, .ref o]) (ws' := oC cJ o g :: wx') (pc' := 10) hK1 hA hM (cwV 3 C0.2.2.2.2 gL_untag_X0_untag rfl rfl rfl (by decide +kernel) ⟨Nat.le_of_ble_eq_true rfl, Nat.le_of_ble_eq_true rfl⟩) ⟨1, 0, _, _, _, rfl, gx1 hx⟩ (PLs.rt (P := [oC cJ o g])) rfl rfl (Nat.le_of_ble_eq_true rfl) ⟨Nat.zero_le _, Nat.zero_le _⟩ dL_untag_7 rfl ?_
  refine v_i2l C0 (pc' := 11) dL_untag_10 rfl ?_
  refine v_last C0 hK (ws' := oC cJ o (vp_updL g (0 : Int32).toNatClampNeg (r.toInt64)) :: wx') (pc' := 12) 0 1 rfl rfl rfl vin01 dL_untag_11 rfl ?_
  refine v_goto C0 23 dL_untag_12 (by decide) ?_
  refine v_iconst C0 (pc' := 24) 0 (by decide) dL_untag_23 rfl ?_
  refine v_widen (k2 := 1) (n2 := 6) (Nat.le_of_ble_eq_true rfl) (Nat.le_of_ble_eq_true rfl) ?_
  exact v_iret C0 hr hlk hK rfl dL_untag_24
set_option maxHeartbeats 1000000 in
set_option maxRecDepth 100000 in
theorem w_untag_IAE (l : Launch) {D : va_G} {cI cJ : ClassId} {ad : Nat → Nat} {wx wx' : va_W} {r : Int32} (o : Nat) (g : Nat → Int64) (a b c : Int32) (hx : ∃ fs, wx[0]? = some (ad 0, .inr (0, fs))) (hM : Kx l yX0_untag wsX0_untag 8 123 D (TI cI) [.ref (ad 0), .int a, .int b, .int c] wx xIAE) : KE l yL_untag wsL_untag 9 148 D (TL cI cJ) [.ref (ad 0), .int a, .int b, .int c, .ref o] (oC cJ o g :: wx) (oC cJ o g :: wx) 1 := by
  obtain ⟨fs, hx⟩ := hx
  refine KE.of (cc := cL_untag) (maxL := 6) (lv0 := [(0, .ref (ad 0)), (1, .int a), (2, .int b), (3, .int c), (4, .ref o)]) (by decide +kernel) rfl (Nat.le_of_ble_eq_true rfl) rfl ?_
  intro p e s m args below meth c9 A C0 hT0 hr hlk hK hA hEN
  have hK1 : va_K D vwCl (TI cI) s := hK.sub [0] rfl
  refine v_aload C0 (pc' := 2) 4 rfl dL_untag_0 rfl ?_
  refine v_iconst C0 (pc' := 3) 0 (by decide) dL_untag_2 rfl ?_
  refine v_aload_n C0 (pc' := 4) 0 rfl rfl dL_untag_3 rfl ?_
  refine v_iload_n C0 (pc' := 5) 1 rfl rfl dL_untag_4 rfl ?_
  refine v_iload_n C0 (pc' := 6) 2 rfl rfl dL_untag_5 rfl ?_
  refine v_iload_n C0 (pc' := 7) 3 rfl rfl dL_untag_6 rfl ?_
  refine v_callVx_catch C0 (av := [.int a, .int b, .int c]) (rest := [.int 0, .ref o]) hK1 hA hEN hM (cwV 3 C0.2.2.2.2 gL_untag_X0_untag rfl rfl rfl (by decide +kernel) ⟨Nat.le_of_ble_eq_true rfl, Nat.le_of_ble_eq_true rfl⟩) ⟨1, 0, _, _, _, rfl, gx1 hx⟩ (PLs.rt (P := [oC cJ o g])) rfl rfl (Nat.le_of_ble_eq_true rfl) ⟨Nat.le_of_ble_eq_true rfl, Nat.le_of_ble_eq_true rfl⟩ dL_untag_7 xIAE [] ⟨0, 12, 15, 13⟩ [⟨0, 12, 19, 15⟩] hT0 (fun z hz => absurd hz List.not_mem_nil) (by decide) (by decide) (C0.2.2.2.2 _ (List.mem_of_getElem? (i := 1) rfl)) (va_Nw.use rfl (hEN.2.2.2.1 _ List.mem_cons_self)) (fun q9 => ?_)
  refine v_astore C0 (lv' := [(5, .ref q9), (0, .ref (ad 0)), (1, .int a), (2, .int b), (3, .int c), (4, .ref o)]) (pc' := 17) (by decide) rfl dL_untag_15 rfl ?_
  refine v_iconst C0 (pc' := 18) 1 (by decide) dL_untag_17 rfl ?_
  exact v_iret C0 hr hlk hK rfl dL_untag_18
set_option maxHeartbeats 1000000 in
set_option maxRecDepth 100000 in
theorem w_untag_ISE (l : Launch) {D : va_G} {cI cJ : ClassId} {ad : Nat → Nat} {wx wx' : va_W} {r : Int32} (o : Nat) (g : Nat → Int64) (a b c : Int32) (hx : ∃ fs, wx[0]? = some (ad 0, .inr (0, fs))) (hM : Kx l yX0_untag wsX0_untag 6 82 D (TI cI) [.ref (ad 0), .int a, .int b, .int c] wx xISE) : KE l yL_untag wsL_untag 9 148 D (TL cI cJ) [.ref (ad 0), .int a, .int b, .int c, .ref o] (oC cJ o g :: wx) (oC cJ o g :: wx) 2 := by
  obtain ⟨fs, hx⟩ := hx
  refine KE.of (cc := cL_untag) (maxL := 6) (lv0 := [(0, .ref (ad 0)), (1, .int a), (2, .int b), (3, .int c), (4, .ref o)]) (by decide +kernel) rfl (Nat.le_of_ble_eq_true rfl) rfl ?_
  intro p e s m args below meth c9 A C0 hT0 hr hlk hK hA hEN
  have hK1 : va_K D vwCl (TI cI) s := hK.sub [0] rfl
  refine v_aload C0 (pc' := 2) 4 rfl dL_untag_0 rfl ?_
  refine v_iconst C0 (pc' := 3) 0 (by decide) dL_untag_2 rfl ?_
  refine v_aload_n C0 (pc' := 4) 0 rfl rfl dL_untag_3 rfl ?_
  refine v_iload_n C0 (pc' := 5) 1 rfl rfl dL_untag_4 rfl ?_
  refine v_iload_n C0 (pc' := 6) 2 rfl rfl dL_untag_5 rfl ?_
  refine v_iload_n C0 (pc' := 7) 3 rfl rfl dL_untag_6 rfl ?_
  refine v_callVx_catch C0 (av := [.int a, .int b, .int c]) (rest := [.int 0, .ref o]) hK1 hA hEN hM (cwV 3 C0.2.2.2.2 gL_untag_X0_untag rfl rfl rfl (by decide +kernel) ⟨Nat.le_of_ble_eq_true rfl, Nat.le_of_ble_eq_true rfl⟩) ⟨1, 0, _, _, _, rfl, gx1 hx⟩ (PLs.rt (P := [oC cJ o g])) rfl rfl (Nat.le_of_ble_eq_true rfl) ⟨Nat.le_of_ble_eq_true rfl, Nat.le_of_ble_eq_true rfl⟩ dL_untag_7 xISE [⟨0, 12, 15, 13⟩] ⟨0, 12, 19, 15⟩ [] hT0 (fun z hz => Or.inr (by have hz := List.mem_singleton.mp hz; subst hz; exact ⟨by decide, xIAE, C0.2.2.2.2 _ (List.mem_of_getElem? (i := 1) rfl), hEN.2.2.2.2.1⟩)) (by decide) (by decide) (C0.2.2.2.2 _ (List.mem_of_getElem? (i := 2) rfl)) (va_Nw.use rfl (hEN.2.2.2.1 _ (List.mem_cons_of_mem _ List.mem_cons_self))) (fun q9 => ?_)
  refine v_astore C0 (lv' := [(5, .ref q9), (0, .ref (ad 0)), (1, .int a), (2, .int b), (3, .int c), (4, .ref o)]) (pc' := 21) (by decide) rfl dL_untag_19 rfl ?_
  refine v_iconst C0 (pc' := 22) 2 (by decide) dL_untag_21 rfl ?_
  exact v_iret C0 hr hlk hK rfl dL_untag_22
theorem u_untag (l : Launch) (hst : l.stackTraces = false) (D : va_G) {cI cJ : ClassId} {ad bd : Nat → Nat} {wx wy : va_W} {t0 : Int32} (h : WP cI ad bd wx wy t0) (o : Nat) (g : Nat → Int64) (a b c : Int32) : ∃ (wx' wy' : va_W) (r TH : Int32) (g' : Nat → Int64), WP cI ad bd wx' wy' TH ∧ Ki l yX1_untag wsX1_untag 2 43 0 0 D (TI cI) [.ref (bd 0), .int a, .int b, .int c] wy wy' r ∧ KE l yL_untag wsL_untag 9 148 D (TL cI cJ) [.ref (ad 0), .int a, .int b, .int c, .ref o] (oC cJ o g :: wx) (oC cJ o g' :: wx') TH ∧ (TH = 0 → g' (0 : Int32).toNatClampNeg = r.toInt64) := by
  obtain ⟨wx', wy', r, TH, hw, hy, hx⟩ := q_untag l hst D h a b c
  rcases hx with ⟨rfl, k⟩ | ⟨rfl, rfl, k⟩ | ⟨rfl, rfl, k⟩
  · exact ⟨wx', wy', r, 0, _, hw, hy, w_untag_ok l o g a b c h.x0 k, fun _ => pk_uLs⟩
  · exact ⟨_, wy', r, 1, g, hw, hy, w_untag_IAE l (wx' := []) (r := 0) o g a b c h.x0 k, fun z => absurd z (by decide)⟩
  · exact ⟨_, wy', r, 2, g, hw, hy, w_untag_ISE l (wx' := []) (r := 0) o g a b c h.x0 k, fun z => absurd z (by decide)⟩
set_option maxHeartbeats 1000000 in
set_option maxRecDepth 100000 in
theorem w_tag_ok (l : Launch) {D : va_G} {cI cJ : ClassId} {ad : Nat → Nat} {wx wx' : va_W} {r : Int32} (o : Nat) (g : Nat → Int64) (a b c i : Int32) (hx : ∃ fs, wx[0]? = some (ad 0, .inr (0, fs))) (hM : Ki l yX0_tag wsX0_tag 2 43 0 0 D (TI cI) [.ref (ad 0), .int a, .int b, .int c, .int i] wx wx' r) : KE l yL_tag wsL_tag 9 150 D (TL cI cJ) [.ref (ad 0), .int a, .int b, .int c, .int i, .ref o] (oC cJ o g :: wx) (oC cJ o (vp_updL g (0 : Int32).toNatClampNeg (lb r)) :: wx') 0 := by
  obtain ⟨fs, hx⟩ := hx
  refine KE.of (cc := cL_tag) (maxL := 7) (lv0 := [(0, .ref (ad 0)), (1, .int a), (2, .int b), (3, .int c), (4, .int i), (5, .ref o)]) (by decide +kernel) rfl (Nat.le_of_ble_eq_true rfl) rfl ?_
  intro p e s m args below meth c9 A C0 hT0 hr hlk hK hA hEN
  have hK1 : va_K D vwCl (TI cI) s := hK.sub [0] rfl
  refine v_aload C0 (pc' := 2) 5 rfl dL_tag_0 rfl ?_
  refine v_iconst C0 (pc' := 3) 0 (by decide) dL_tag_2 rfl ?_
  refine v_aload_n C0 (pc' := 4) 0 rfl rfl dL_tag_3 rfl ?_
  refine v_iload_n C0 (pc' := 5) 1 rfl rfl dL_tag_4 rfl ?_
  refine v_iload_n C0 (pc' := 6) 2 rfl rfl dL_tag_5 rfl ?_
  refine v_iload_n C0 (pc' := 7) 3 rfl rfl dL_tag_6 rfl ?_
  refine v_iload C0 (pc' := 9) 4 rfl dL_tag_7 rfl ?_
  refine v_callVi0 C0 (av := [.int a, .int b, .int c, .int i]) (rest := [.int 0, .ref o]) (ws' := oC cJ o g :: wx') (pc' := 12) hK1 hA hM (cwV 4 C0.2.2.2.2 gL_tag_X0_tag rfl rfl rfl (by decide +kernel) ⟨Nat.le_of_ble_eq_true rfl, Nat.le_of_ble_eq_true rfl⟩) ⟨1, 0, _, _, _, rfl, gx1 hx⟩ (PLs.rt (P := [oC cJ o g])) rfl rfl (Nat.le_of_ble_eq_true rfl) ⟨Nat.zero_le _, Nat.zero_le _⟩ dL_tag_9 rfl ?_
  refine v_lz C0 19 20 dL_tag_12 (by decide) dL_tag_15 dL_tag_16 (by decide) dL_tag_19 rfl ?_
  refine v_last C0 hK (ws' := oC cJ o (vp_updL g (0 : Int32).toNatClampNeg (lb r)) :: wx') (pc' := 21) 0 1 rfl rfl rfl vin01 dL_tag_20 rfl ?_
  refine v_goto C0 32 dL_tag_21 (by decide) ?_
  refine v_iconst C0 (pc' := 33) 0 (by decide) dL_tag_32 rfl ?_
  refine v_widen (k2 := 1) (n2 := 6) (Nat.le_of_ble_eq_true rfl) (Nat.le_of_ble_eq_true rfl) ?_
  exact v_iret C0 hr hlk hK rfl dL_tag_33
set_option maxHeartbeats 1000000 in
set_option maxRecDepth 100000 in
theorem w_tag_IAE (l : Launch) {D : va_G} {cI cJ : ClassId} {ad : Nat → Nat} {wx wx' : va_W} {r : Int32} (o : Nat) (g : Nat → Int64) (a b c i : Int32) (hx : ∃ fs, wx[0]? = some (ad 0, .inr (0, fs))) (hM : Kx l yX0_tag wsX0_tag 8 123 D (TI cI) [.ref (ad 0), .int a, .int b, .int c, .int i] wx xIAE) : KE l yL_tag wsL_tag 9 150 D (TL cI cJ) [.ref (ad 0), .int a, .int b, .int c, .int i, .ref o] (oC cJ o g :: wx) (oC cJ o g :: wx) 1 := by
  obtain ⟨fs, hx⟩ := hx
  refine KE.of (cc := cL_tag) (maxL := 7) (lv0 := [(0, .ref (ad 0)), (1, .int a), (2, .int b), (3, .int c), (4, .int i), (5, .ref o)]) (by decide +kernel) rfl (Nat.le_of_ble_eq_true rfl) rfl ?_
  intro p e s m args below meth c9 A C0 hT0 hr hlk hK hA hEN
  have hK1 : va_K D vwCl (TI cI) s := hK.sub [0] rfl
  refine v_aload C0 (pc' := 2) 5 rfl dL_tag_0 rfl ?_
  refine v_iconst C0 (pc' := 3) 0 (by decide) dL_tag_2 rfl ?_
  refine v_aload_n C0 (pc' := 4) 0 rfl rfl dL_tag_3 rfl ?_
  refine v_iload_n C0 (pc' := 5) 1 rfl rfl dL_tag_4 rfl ?_
  refine v_iload_n C0 (pc' := 6) 2 rfl rfl dL_tag_5 rfl ?_
  refine v_iload_n C0 (pc' := 7) 3 rfl rfl dL_tag_6 rfl ?_
  refine v_iload C0 (pc' := 9) 4 rfl dL_tag_7 rfl ?_
  refine v_callVx_catch C0 (av := [.int a, .int b, .int c, .int i]) (rest := [.int 0, .ref o]) hK1 hA hEN hM (cwV 4 C0.2.2.2.2 gL_tag_X0_tag rfl rfl rfl (by decide +kernel) ⟨Nat.le_of_ble_eq_true rfl, Nat.le_of_ble_eq_true rfl⟩) ⟨1, 0, _, _, _, rfl, gx1 hx⟩ (PLs.rt (P := [oC cJ o g])) rfl rfl (Nat.le_of_ble_eq_true rfl) ⟨Nat.le_of_ble_eq_true rfl, Nat.le_of_ble_eq_true rfl⟩ dL_tag_9 xIAE [] ⟨0, 21, 24, 13⟩ [⟨0, 21, 28, 15⟩] hT0 (fun z hz => absurd hz List.not_mem_nil) (by decide) (by decide) (C0.2.2.2.2 _ (List.mem_of_getElem? (i := 1) rfl)) (va_Nw.use rfl (hEN.2.2.2.1 _ List.mem_cons_self)) (fun q9 => ?_)
  refine v_astore C0 (lv' := [(6, .ref q9), (0, .ref (ad 0)), (1, .int a), (2, .int b), (3, .int c), (4, .int i), (5, .ref o)]) (pc' := 26) (by decide) rfl dL_tag_24 rfl ?_
  refine v_iconst C0 (pc' := 27) 1 (by decide) dL_tag_26 rfl ?_
  exact v_iret C0 hr hlk hK rfl dL_tag_27
set_option maxHeartbeats 1000000 in
set_option maxRecDepth 100000 in
theorem w_tag_ISE (l : Launch) {D : va_G} {cI cJ : ClassId} {ad : Nat → Nat} {wx wx' : va_W} {r : Int32} (o : Nat) (g : Nat → Int64) (a b c i : Int32) (hx : ∃ fs, wx[0]? = some (ad 0, .inr (0, fs))) (hM : Kx l yX0_tag wsX0_tag 6 82 D (TI cI) [.ref (ad 0), .int a, .int b, .int c, .int i] wx xISE) : KE l yL_tag wsL_tag 9 150 D (TL cI cJ) [.ref (ad 0), .int a, .int b, .int c, .int i, .ref o] (oC cJ o g :: wx) (oC cJ o g :: wx) 2 := by
  obtain ⟨fs, hx⟩ := hx
  refine KE.of (cc := cL_tag) (maxL := 7) (lv0 := [(0, .ref (ad 0)), (1, .int a), (2, .int b), (3, .int c), (4, .int i), (5, .ref o)]) (by decide +kernel) rfl (Nat.le_of_ble_eq_true rfl) rfl ?_
  intro p e s m args below meth c9 A C0 hT0 hr hlk hK hA hEN
  have hK1 : va_K D vwCl (TI cI) s := hK.sub [0] rfl
  refine v_aload C0 (pc' := 2) 5 rfl dL_tag_0 rfl ?_
  refine v_iconst C0 (pc' := 3) 0 (by decide) dL_tag_2 rfl ?_
  refine v_aload_n C0 (pc' := 4) 0 rfl rfl dL_tag_3 rfl ?_
  refine v_iload_n C0 (pc' := 5) 1 rfl rfl dL_tag_4 rfl ?_
  refine v_iload_n C0 (pc' := 6) 2 rfl rfl dL_tag_5 rfl ?_
  refine v_iload_n C0 (pc' := 7) 3 rfl rfl dL_tag_6 rfl ?_
  refine v_iload C0 (pc' := 9) 4 rfl dL_tag_7 rfl ?_
  refine v_callVx_catch C0 (av := [.int a, .int b, .int c, .int i]) (rest := [.int 0, .ref o]) hK1 hA hEN hM (cwV 4 C0.2.2.2.2 gL_tag_X0_tag rfl rfl rfl (by decide +kernel) ⟨Nat.le_of_ble_eq_true rfl, Nat.le_of_ble_eq_true rfl⟩) ⟨1, 0, _, _, _, rfl, gx1 hx⟩ (PLs.rt (P := [oC cJ o g])) rfl rfl (Nat.le_of_ble_eq_true rfl) ⟨Nat.le_of_ble_eq_true rfl, Nat.le_of_ble_eq_true rfl⟩ dL_tag_9 xISE [⟨0, 21, 24, 13⟩] ⟨0, 21, 28, 15⟩ [] hT0 (fun z hz => Or.inr (by have hz := List.mem_singleton.mp hz; subst hz; exact ⟨by decide, xIAE, C0.2.2.2.2 _ (List.mem_of_getElem? (i := 1) rfl), hEN.2.2.2.2.1⟩)) (by decide) (by decide) (C0.2.2.2.2 _ (List.mem_of_getElem? (i := 2) rfl)) (va_Nw.use rfl (hEN.2.2.2.1 _ (List.mem_cons_of_mem _ List.mem_cons_self))) (fun q9 => ?_)
  refine v_astore C0 (lv' := [(6, .ref q9), (0, .ref (ad 0)), (1, .int a), (2, .int b), (3, .int c), (4, .int i), (5, .ref o)]) (pc' := 30) (by decide) rfl dL_tag_28 rfl ?_
  refine v_iconst C0 (pc' := 31) 2 (by decide) dL_tag_30 rfl ?_
  exact v_iret C0 hr hlk hK rfl dL_tag_31
theorem u_tag (l : Launch) (hst : l.stackTraces = false) (D : va_G) {cI cJ : ClassId} {ad bd : Nat → Nat} {wx wy : va_W} {t0 : Int32} (h : WP cI ad bd wx wy t0) (o : Nat) (g : Nat → Int64) (a b c i : Int32) (hb_i : i = 0 ∨ i = 1) : ∃ (wx' wy' : va_W) (r TH : Int32) (g' : Nat → Int64), WP cI ad bd wx' wy' TH ∧ Ki l yX1_tag wsX1_tag 2 43 0 0 D (TI cI) [.ref (bd 0), .int a, .int b, .int c, .int i] wy wy' r ∧ KE l yL_tag wsL_tag 9 150 D (TL cI cJ) [.ref (ad 0), .int a, .int b, .int c, .int i, .ref o] (oC cJ o g :: wx) (oC cJ o g' :: wx') TH ∧ (TH = 0 → g' (0 : Int32).toNatClampNeg = lb r) := by
  obtain ⟨wx', wy', r, TH, hw, hy, hx⟩ := q_tag l hst D h a b c i hb_i
  rcases hx with ⟨rfl, k⟩ | ⟨rfl, rfl, k⟩ | ⟨rfl, rfl, k⟩
  · exact ⟨wx', wy', r, 0, _, hw, hy, w_tag_ok l o g a b c i h.x0 k, fun _ => pk_uLs⟩
  · exact ⟨_, wy', r, 1, g, hw, hy, w_tag_IAE l (wx' := []) (r := 0) o g a b c i h.x0 k, fun z => absurd z (by decide)⟩
  · exact ⟨_, wy', r, 2, g, hw, hy, w_tag_ISE l (wx' := []) (r := 0) o g a b c i h.x0 k, fun z => absurd z (by decide)⟩
set_option maxHeartbeats 1000000 in
set_option maxRecDepth 100000 in
theorem w_cable_ok (l : Launch) {D : va_G} {cI cJ : ClassId} {ad : Nat → Nat} {wx wx' : va_W} {r : Int32} (o : Nat) (g : Nat → Int64) (a b c d w : Int32) (hx : ∃ fs, wx[0]? = some (ad 0, .inr (0, fs))) (hM : Ki l yX0_cable wsX0_cable 5 114 0 0 D (TI cI) [.ref (ad 0), .int a, .int b, .int c, .int d, .int w] wx wx' r) : KE l yL_cable wsL_cable 9 150 D (TL cI cJ) [.ref (ad 0), .int a, .int b, .int c, .int d, .int w, .ref o] (oC cJ o g :: wx) (oC cJ o (vp_updL g (0 : Int32).toNatClampNeg (r.toInt64)) :: wx') 0 := by
  obtain ⟨fs, hx⟩ := hx
  refine KE.of (cc := cL_cable) (maxL := 8) (lv0 := [(0, .ref (ad 0)), (1, .int a), (2, .int b), (3, .int c), (4, .int d), (5, .int w), (6, .ref o)]) (by decide +kernel) rfl (Nat.le_of_ble_eq_true rfl) rfl ?_
  intro p e s m args below meth c9 A C0 hT0 hr hlk hK hA hEN
  have hK1 : va_K D vwCl (TI cI) s := hK.sub [0] rfl
  refine v_aload C0 (pc' := 2) 6 rfl dL_cable_0 rfl ?_
  refine v_iconst C0 (pc' := 3) 0 (by decide) dL_cable_2 rfl ?_
  refine v_aload_n C0 (pc' := 4) 0 rfl rfl dL_cable_3 rfl ?_
  refine v_iload_n C0 (pc' := 5) 1 rfl rfl dL_cable_4 rfl ?_
  refine v_iload_n C0 (pc' := 6) 2 rfl rfl dL_cable_5 rfl ?_
  refine v_iload_n C0 (pc' := 7) 3 rfl rfl dL_cable_6 rfl ?_
  refine v_iload C0 (pc' := 9) 4 rfl dL_cable_7 rfl ?_
  refine v_iload C0 (pc' := 11) 5 rfl dL_cable_9 rfl ?_
  refine v_callVi0 C0 (av := [.int a, .int b, .int c, .int d, .int w]) (rest := [.int 0, .ref o]) (ws' := oC cJ o g :: wx') (pc' := 14) hK1 hA hM (cwV 5 C0.2.2.2.2 gL_cable_X0_cable rfl rfl rfl (by decide +kernel) ⟨Nat.le_of_ble_eq_true rfl, Nat.le_of_ble_eq_true rfl⟩) ⟨1, 0, _, _, _, rfl, gx1 hx⟩ (PLs.rt (P := [oC cJ o g])) rfl rfl (Nat.le_of_ble_eq_true rfl) ⟨Nat.zero_le _, Nat.zero_le _⟩ dL_cable_11 rfl ?_
  refine v_i2l C0 (pc' := 15) dL_cable_14 rfl ?_
  refine v_last C0 hK (ws' := oC cJ o (vp_updL g (0 : Int32).toNatClampNeg (r.toInt64)) :: wx') (pc' := 16) 0 1 rfl rfl rfl vin01 dL_cable_15 rfl ?_
  refine v_goto C0 27 dL_cable_16 (by decide) ?_
  refine v_iconst C0 (pc' := 28) 0 (by decide) dL_cable_27 rfl ?_
  refine v_widen (k2 := 1) (n2 := 6) (Nat.le_of_ble_eq_true rfl) (Nat.le_of_ble_eq_true rfl) ?_
  exact v_iret C0 hr hlk hK rfl dL_cable_28
set_option maxHeartbeats 1000000 in
set_option maxRecDepth 100000 in
theorem w_cable_IAE (l : Launch) {D : va_G} {cI cJ : ClassId} {ad : Nat → Nat} {wx wx' : va_W} {r : Int32} (o : Nat) (g : Nat → Int64) (a b c d w : Int32) (hx : ∃ fs, wx[0]? = some (ad 0, .inr (0, fs))) (hM : Kx l yX0_cable wsX0_cable 8 123 D (TI cI) [.ref (ad 0), .int a, .int b, .int c, .int d, .int w] wx xIAE) : KE l yL_cable wsL_cable 9 150 D (TL cI cJ) [.ref (ad 0), .int a, .int b, .int c, .int d, .int w, .ref o] (oC cJ o g :: wx) (oC cJ o g :: wx) 1 := by
  obtain ⟨fs, hx⟩ := hx
  refine KE.of (cc := cL_cable) (maxL := 8) (lv0 := [(0, .ref (ad 0)), (1, .int a), (2, .int b), (3, .int c), (4, .int d), (5, .int w), (6, .ref o)]) (by decide +kernel) rfl (Nat.le_of_ble_eq_true rfl) rfl ?_
  intro p e s m args below meth c9 A C0 hT0 hr hlk hK hA hEN
  have hK1 : va_K D vwCl (TI cI) s := hK.sub [0] rfl
  refine v_aload C0 (pc' := 2) 6 rfl dL_cable_0 rfl ?_
  refine v_iconst C0 (pc' := 3) 0 (by decide) dL_cable_2 rfl ?_
  refine v_aload_n C0 (pc' := 4) 0 rfl rfl dL_cable_3 rfl ?_
  refine v_iload_n C0 (pc' := 5) 1 rfl rfl dL_cable_4 rfl ?_
  refine v_iload_n C0 (pc' := 6) 2 rfl rfl dL_cable_5 rfl ?_
  refine v_iload_n C0 (pc' := 7) 3 rfl rfl dL_cable_6 rfl ?_
  refine v_iload C0 (pc' := 9) 4 rfl dL_cable_7 rfl ?_
  refine v_iload C0 (pc' := 11) 5 rfl dL_cable_9 rfl ?_
  refine v_callVx_catch C0 (av := [.int a, .int b, .int c, .int d, .int w]) (rest := [.int 0, .ref o]) hK1 hA hEN hM (cwV 5 C0.2.2.2.2 gL_cable_X0_cable rfl rfl rfl (by decide +kernel) ⟨Nat.le_of_ble_eq_true rfl, Nat.le_of_ble_eq_true rfl⟩) ⟨1, 0, _, _, _, rfl, gx1 hx⟩ (PLs.rt (P := [oC cJ o g])) rfl rfl (Nat.le_of_ble_eq_true rfl) ⟨Nat.le_of_ble_eq_true rfl, Nat.le_of_ble_eq_true rfl⟩ dL_cable_11 xIAE [] ⟨0, 16, 19, 13⟩ [⟨0, 16, 23, 15⟩] hT0 (fun z hz => absurd hz List.not_mem_nil) (by decide) (by decide) (C0.2.2.2.2 _ (List.mem_of_getElem? (i := 1) rfl)) (va_Nw.use rfl (hEN.2.2.2.1 _ List.mem_cons_self)) (fun q9 => ?_)
  refine v_astore C0 (lv' := [(7, .ref q9), (0, .ref (ad 0)), (1, .int a), (2, .int b), (3, .int c), (4, .int d), (5, .int w), (6, .ref o)]) (pc' := 21) (by decide) rfl dL_cable_19 rfl ?_
  refine v_iconst C0 (pc' := 22) 1 (by decide) dL_cable_21 rfl ?_
  exact v_iret C0 hr hlk hK rfl dL_cable_22
set_option maxHeartbeats 1000000 in
set_option maxRecDepth 100000 in
theorem w_cable_ISE (l : Launch) {D : va_G} {cI cJ : ClassId} {ad : Nat → Nat} {wx wx' : va_W} {r : Int32} (o : Nat) (g : Nat → Int64) (a b c d w : Int32) (hx : ∃ fs, wx[0]? = some (ad 0, .inr (0, fs))) (hM : Kx l yX0_cable wsX0_cable 6 82 D (TI cI) [.ref (ad 0), .int a, .int b, .int c, .int d, .int w] wx xISE) : KE l yL_cable wsL_cable 9 150 D (TL cI cJ) [.ref (ad 0), .int a, .int b, .int c, .int d, .int w, .ref o] (oC cJ o g :: wx) (oC cJ o g :: wx) 2 := by
  obtain ⟨fs, hx⟩ := hx
  refine KE.of (cc := cL_cable) (maxL := 8) (lv0 := [(0, .ref (ad 0)), (1, .int a), (2, .int b), (3, .int c), (4, .int d), (5, .int w), (6, .ref o)]) (by decide +kernel) rfl (Nat.le_of_ble_eq_true rfl) rfl ?_
  intro p e s m args below meth c9 A C0 hT0 hr hlk hK hA hEN
  have hK1 : va_K D vwCl (TI cI) s := hK.sub [0] rfl
  refine v_aload C0 (pc' := 2) 6 rfl dL_cable_0 rfl ?_
  refine v_iconst C0 (pc' := 3) 0 (by decide) dL_cable_2 rfl ?_
  refine v_aload_n C0 (pc' := 4) 0 rfl rfl dL_cable_3 rfl ?_
  refine v_iload_n C0 (pc' := 5) 1 rfl rfl dL_cable_4 rfl ?_
  refine v_iload_n C0 (pc' := 6) 2 rfl rfl dL_cable_5 rfl ?_
  refine v_iload_n C0 (pc' := 7) 3 rfl rfl dL_cable_6 rfl ?_
  refine v_iload C0 (pc' := 9) 4 rfl dL_cable_7 rfl ?_
  refine v_iload C0 (pc' := 11) 5 rfl dL_cable_9 rfl ?_
  refine v_callVx_catch C0 (av := [.int a, .int b, .int c, .int d, .int w]) (rest := [.int 0, .ref o]) hK1 hA hEN hM (cwV 5 C0.2.2.2.2 gL_cable_X0_cable rfl rfl rfl (by decide +kernel) ⟨Nat.le_of_ble_eq_true rfl, Nat.le_of_ble_eq_true rfl⟩) ⟨1, 0, _, _, _, rfl, gx1 hx⟩ (PLs.rt (P := [oC cJ o g])) rfl rfl (Nat.le_of_ble_eq_true rfl) ⟨Nat.le_of_ble_eq_true rfl, Nat.le_of_ble_eq_true rfl⟩ dL_cable_11 xISE [⟨0, 16, 19, 13⟩] ⟨0, 16, 23, 15⟩ [] hT0 (fun z hz => Or.inr (by have hz := List.mem_singleton.mp hz; subst hz; exact ⟨by decide, xIAE, C0.2.2.2.2 _ (List.mem_of_getElem? (i := 1) rfl), hEN.2.2.2.2.1⟩)) (by decide) (by decide) (C0.2.2.2.2 _ (List.mem_of_getElem? (i := 2) rfl)) (va_Nw.use rfl (hEN.2.2.2.1 _ (List.mem_cons_of_mem _ List.mem_cons_self))) (fun q9 => ?_)
  refine v_astore C0 (lv' := [(7, .ref q9), (0, .ref (ad 0)), (1, .int a), (2, .int b), (3, .int c), (4, .int d), (5, .int w), (6, .ref o)]) (pc' := 25) (by decide) rfl dL_cable_23 rfl ?_
  refine v_iconst C0 (pc' := 26) 2 (by decide) dL_cable_25 rfl ?_
  exact v_iret C0 hr hlk hK rfl dL_cable_26
theorem u_cable (l : Launch) (hst : l.stackTraces = false) (D : va_G) {cI cJ : ClassId} {ad bd : Nat → Nat} {wx wy : va_W} {t0 : Int32} (h : WP cI ad bd wx wy t0) (o : Nat) (g : Nat → Int64) (a b c d w : Int32) : ∃ (wx' wy' : va_W) (r TH : Int32) (g' : Nat → Int64), WP cI ad bd wx' wy' TH ∧ Ki l yX1_cable wsX1_cable 2 43 0 0 D (TI cI) [.ref (bd 0), .int a, .int b, .int c, .int d, .int w] wy wy' r ∧ KE l yL_cable wsL_cable 9 150 D (TL cI cJ) [.ref (ad 0), .int a, .int b, .int c, .int d, .int w, .ref o] (oC cJ o g :: wx) (oC cJ o g' :: wx') TH ∧ (TH = 0 → g' (0 : Int32).toNatClampNeg = r.toInt64) := by
  obtain ⟨wx', wy', r, TH, hw, hy, hx⟩ := q_cable l hst D h a b c d w
  rcases hx with ⟨rfl, k⟩ | ⟨rfl, rfl, k⟩ | ⟨rfl, rfl, k⟩
  · exact ⟨wx', wy', r, 0, _, hw, hy, w_cable_ok l o g a b c d w h.x0 k, fun _ => pk_uLs⟩
  · exact ⟨_, wy', r, 1, g, hw, hy, w_cable_IAE l (wx' := []) (r := 0) o g a b c d w h.x0 k, fun z => absurd z (by decide)⟩
  · exact ⟨_, wy', r, 2, g, hw, hy, w_cable_ISE l (wx' := []) (r := 0) o g a b c d w h.x0 k, fun z => absurd z (by decide)⟩
set_option maxHeartbeats 1000000 in
set_option maxRecDepth 100000 in
theorem w_pull_ok (l : Launch) {D : va_G} {cI cJ : ClassId} {ad : Nat → Nat} {wx wx' : va_W} {r : Int32} (o : Nat) (g : Nat → Int64) (a b : Int32) (hx : ∃ fs, wx[0]? = some (ad 0, .inr (0, fs))) (hM : Ki l yX0_pull wsX0_pull 5 114 0 0 D (TI cI) [.ref (ad 0), .int a, .int b] wx wx' r) : KE l yL_pull wsL_pull 10 170 D (TL cI cJ) [.ref (ad 0), .int a, .int b, .ref o] (oC cJ o g :: wx) (oC cJ o (vp_updL g (0 : Int32).toNatClampNeg (r.toInt64)) :: wx') 0 := by
  obtain ⟨fs, hx⟩ := hx
  refine KE.of (cc := cL_pull) (maxL := 5) (lv0 := [(0, .ref (ad 0)), (1, .int a), (2, .int b), (3, .ref o)]) (by decide +kernel) rfl (Nat.le_of_ble_eq_true rfl) rfl ?_
  intro p e s m args below meth c9 A C0 hT0 hr hlk hK hA hEN
  have hK1 : va_K D vwCl (TI cI) s := hK.sub [0] rfl
  refine v_aload_n C0 (pc' := 1) 3 rfl rfl dL_pull_0 rfl ?_
  refine v_iconst C0 (pc' := 2) 0 (by decide) dL_pull_1 rfl ?_
  refine v_aload_n C0 (pc' := 3) 0 rfl rfl dL_pull_2 rfl ?_
  refine v_iload_n C0 (pc' := 4) 1 rfl rfl dL_pull_3 rfl ?_
  refine v_iload_n C0 (pc' := 5) 2 rfl rfl dL_pull_4 rfl ?_
  refine v_callVi0 C0 (av := [.int a, .int b]) (rest := [.int 0, .ref o]) (ws' := oC cJ o g :: wx') (pc' := 8) hK1 hA hM (cwV 2 C0.2.2.2.2 gL_pull_X0_pull rfl rfl rfl (by decide +kernel) ⟨Nat.le_of_ble_eq_true rfl, Nat.le_of_ble_eq_true rfl⟩) ⟨1, 0, _, _, _, rfl, gx1 hx⟩ (PLs.rt (P := [oC cJ o g])) rfl rfl (Nat.le_of_ble_eq_true rfl) ⟨Nat.zero_le _, Nat.zero_le _⟩ dL_pull_5 rfl ?_
  refine v_i2l C0 (pc' := 9) dL_pull_8 rfl ?_
  refine v_last C0 hK (ws' := oC cJ o (vp_updL g (0 : Int32).toNatClampNeg (r.toInt64)) :: wx') (pc' := 10) 0 1 rfl rfl rfl vin01 dL_pull_9 rfl ?_
  refine v_goto C0 21 dL_pull_10 (by decide) ?_
  refine v_iconst C0 (pc' := 22) 0 (by decide) dL_pull_21 rfl ?_
  refine v_widen (k2 := 1) (n2 := 6) (Nat.le_of_ble_eq_true rfl) (Nat.le_of_ble_eq_true rfl) ?_
  exact v_iret C0 hr hlk hK rfl dL_pull_22
set_option maxHeartbeats 1000000 in
set_option maxRecDepth 100000 in
theorem w_pull_IAE (l : Launch) {D : va_G} {cI cJ : ClassId} {ad : Nat → Nat} {wx wx' : va_W} {r : Int32} (o : Nat) (g : Nat → Int64) (a b : Int32) (hx : ∃ fs, wx[0]? = some (ad 0, .inr (0, fs))) (hM : Kx l yX0_pull wsX0_pull 9 146 D (TI cI) [.ref (ad 0), .int a, .int b] wx xIAE) : KE l yL_pull wsL_pull 10 170 D (TL cI cJ) [.ref (ad 0), .int a, .int b, .ref o] (oC cJ o g :: wx) (oC cJ o g :: wx) 1 := by
  obtain ⟨fs, hx⟩ := hx
  refine KE.of (cc := cL_pull) (maxL := 5) (lv0 := [(0, .ref (ad 0)), (1, .int a), (2, .int b), (3, .ref o)]) (by decide +kernel) rfl (Nat.le_of_ble_eq_true rfl) rfl ?_
  intro p e s m args below meth c9 A C0 hT0 hr hlk hK hA hEN
  have hK1 : va_K D vwCl (TI cI) s := hK.sub [0] rfl
  refine v_aload_n C0 (pc' := 1) 3 rfl rfl dL_pull_0 rfl ?_
  refine v_iconst C0 (pc' := 2) 0 (by decide) dL_pull_1 rfl ?_
  refine v_aload_n C0 (pc' := 3) 0 rfl rfl dL_pull_2 rfl ?_
  refine v_iload_n C0 (pc' := 4) 1 rfl rfl dL_pull_3 rfl ?_
  refine v_iload_n C0 (pc' := 5) 2 rfl rfl dL_pull_4 rfl ?_
  refine v_callVx_catch C0 (av := [.int a, .int b]) (rest := [.int 0, .ref o]) hK1 hA hEN hM (cwV 2 C0.2.2.2.2 gL_pull_X0_pull rfl rfl rfl (by decide +kernel) ⟨Nat.le_of_ble_eq_true rfl, Nat.le_of_ble_eq_true rfl⟩) ⟨1, 0, _, _, _, rfl, gx1 hx⟩ (PLs.rt (P := [oC cJ o g])) rfl rfl (Nat.le_of_ble_eq_true rfl) ⟨Nat.le_of_ble_eq_true rfl, Nat.le_of_ble_eq_true rfl⟩ dL_pull_5 xIAE [] ⟨0, 10, 13, 13⟩ [⟨0, 10, 17, 29⟩] hT0 (fun z hz => absurd hz List.not_mem_nil) (by decide) (by decide) (C0.2.2.2.2 _ (List.mem_of_getElem? (i := 1) rfl)) (va_Nw.use rfl (hEN.2.2.2.1 _ List.mem_cons_self)) (fun q9 => ?_)
  refine v_astore C0 (lv' := [(4, .ref q9), (0, .ref (ad 0)), (1, .int a), (2, .int b), (3, .ref o)]) (pc' := 15) (by decide) rfl dL_pull_13 rfl ?_
  refine v_iconst C0 (pc' := 16) 1 (by decide) dL_pull_15 rfl ?_
  exact v_iret C0 hr hlk hK rfl dL_pull_16
set_option maxHeartbeats 1000000 in
set_option maxRecDepth 100000 in
theorem w_pull_NSE (l : Launch) {D : va_G} {cI cJ : ClassId} {ad : Nat → Nat} {wx wx' : va_W} {r : Int32} (o : Nat) (g : Nat → Int64) (a b : Int32) (hx : ∃ fs, wx[0]? = some (ad 0, .inr (0, fs))) (hM : Kx l yX0_pull wsX0_pull 7 105 D (TI cI) [.ref (ad 0), .int a, .int b] wx xNSE) : KE l yL_pull wsL_pull 10 170 D (TL cI cJ) [.ref (ad 0), .int a, .int b, .ref o] (oC cJ o g :: wx) (oC cJ o g :: wx) 2 := by
  obtain ⟨fs, hx⟩ := hx
  refine KE.of (cc := cL_pull) (maxL := 5) (lv0 := [(0, .ref (ad 0)), (1, .int a), (2, .int b), (3, .ref o)]) (by decide +kernel) rfl (Nat.le_of_ble_eq_true rfl) rfl ?_
  intro p e s m args below meth c9 A C0 hT0 hr hlk hK hA hEN
  have hK1 : va_K D vwCl (TI cI) s := hK.sub [0] rfl
  refine v_aload_n C0 (pc' := 1) 3 rfl rfl dL_pull_0 rfl ?_
  refine v_iconst C0 (pc' := 2) 0 (by decide) dL_pull_1 rfl ?_
  refine v_aload_n C0 (pc' := 3) 0 rfl rfl dL_pull_2 rfl ?_
  refine v_iload_n C0 (pc' := 4) 1 rfl rfl dL_pull_3 rfl ?_
  refine v_iload_n C0 (pc' := 5) 2 rfl rfl dL_pull_4 rfl ?_
  refine v_callVx_catch C0 (av := [.int a, .int b]) (rest := [.int 0, .ref o]) hK1 hA hEN hM (cwV 2 C0.2.2.2.2 gL_pull_X0_pull rfl rfl rfl (by decide +kernel) ⟨Nat.le_of_ble_eq_true rfl, Nat.le_of_ble_eq_true rfl⟩) ⟨1, 0, _, _, _, rfl, gx1 hx⟩ (PLs.rt (P := [oC cJ o g])) rfl rfl (Nat.le_of_ble_eq_true rfl) ⟨Nat.le_of_ble_eq_true rfl, Nat.le_of_ble_eq_true rfl⟩ dL_pull_5 xNSE [⟨0, 10, 13, 13⟩] ⟨0, 10, 17, 29⟩ [] hT0 (fun z hz => Or.inr (by have hz := List.mem_singleton.mp hz; subst hz; exact ⟨by decide, xIAE, C0.2.2.2.2 _ (List.mem_of_getElem? (i := 1) rfl), hEN.2.2.2.2.2.1⟩)) (by decide) (by decide) (C0.2.2.2.2 _ (List.mem_of_getElem? (i := 2) rfl)) (va_Nw.use rfl (hEN.2.2.2.1 _ (List.mem_cons_of_mem _ (List.mem_cons_of_mem _ List.mem_cons_self)))) (fun q9 => ?_)
  refine v_astore C0 (lv' := [(4, .ref q9), (0, .ref (ad 0)), (1, .int a), (2, .int b), (3, .ref o)]) (pc' := 19) (by decide) rfl dL_pull_17 rfl ?_
  refine v_iconst C0 (pc' := 20) 2 (by decide) dL_pull_19 rfl ?_
  exact v_iret C0 hr hlk hK rfl dL_pull_20
theorem u_pull (l : Launch) (hst : l.stackTraces = false) (D : va_G) {cI cJ : ClassId} {ad bd : Nat → Nat} {wx wy : va_W} {t0 : Int32} (h : WP cI ad bd wx wy t0) (o : Nat) (g : Nat → Int64) (a b : Int32) : ∃ (wx' wy' : va_W) (r TH : Int32) (g' : Nat → Int64), WP cI ad bd wx' wy' TH ∧ Ki l yX1_pull wsX1_pull 3 65 0 0 D (TI cI) [.ref (bd 0), .int a, .int b] wy wy' r ∧ KE l yL_pull wsL_pull 10 170 D (TL cI cJ) [.ref (ad 0), .int a, .int b, .ref o] (oC cJ o g :: wx) (oC cJ o g' :: wx') TH ∧ (TH = 0 → g' (0 : Int32).toNatClampNeg = r.toInt64) := by
  obtain ⟨wx', wy', r, TH, hw, hy, hx⟩ := q_pull l hst D h a b
  rcases hx with ⟨rfl, k⟩ | ⟨rfl, rfl, k⟩ | ⟨rfl, rfl, k⟩
  · exact ⟨wx', wy', r, 0, _, hw, hy, w_pull_ok l o g a b h.x0 k, fun _ => pk_uLs⟩
  · exact ⟨_, wy', r, 1, g, hw, hy, w_pull_IAE l (wx' := []) (r := 0) o g a b h.x0 k, fun z => absurd z (by decide)⟩
  · exact ⟨_, wy', r, 2, g, hw, hy, w_pull_NSE l (wx' := []) (r := 0) o g a b h.x0 k, fun z => absurd z (by decide)⟩
set_option maxHeartbeats 1000000 in
set_option maxRecDepth 100000 in
theorem w_note_ok (l : Launch) {D : va_G} {cI cJ : ClassId} {ad : Nat → Nat} {wx wx' : va_W} {r : Int32} (o : Nat) (g : Nat → Int64) (a b c d : Int32) (hx : ∃ fs, wx[0]? = some (ad 0, .inr (0, fs))) (hM : Ki l yX0_note wsX0_note 2 41 0 0 D (TI cI) [.ref (ad 0), .int a, .int b, .int c, .int d] wx wx' r) : KE l yL_note wsL_note 9 150 D (TL cI cJ) [.ref (ad 0), .int a, .int b, .int c, .int d, .ref o] (oC cJ o g :: wx) (oC cJ o (vp_updL g (0 : Int32).toNatClampNeg (lb r)) :: wx') 0 := by
  obtain ⟨fs, hx⟩ := hx
  refine KE.of (cc := cL_note) (maxL := 7) (lv0 := [(0, .ref (ad 0)), (1, .int a), (2, .int b), (3, .int c), (4, .int d), (5, .ref o)]) (by decide +kernel) rfl (Nat.le_of_ble_eq_true rfl) rfl ?_
  intro p e s m args below meth c9 A C0 hT0 hr hlk hK hA hEN
  have hK1 : va_K D vwCl (TI cI) s := hK.sub [0] rfl
  refine v_aload C0 (pc' := 2) 5 rfl dL_note_0 rfl ?_
  refine v_iconst C0 (pc' := 3) 0 (by decide) dL_note_2 rfl ?_
  refine v_aload_n C0 (pc' := 4) 0 rfl rfl dL_note_3 rfl ?_
  refine v_iload_n C0 (pc' := 5) 1 rfl rfl dL_note_4 rfl ?_
  refine v_iload_n C0 (pc' := 6) 2 rfl rfl dL_note_5 rfl ?_
  refine v_iload_n C0 (pc' := 7) 3 rfl rfl dL_note_6 rfl ?_
  refine v_iload C0 (pc' := 9) 4 rfl dL_note_7 rfl ?_
  refine v_callVi0 C0 (av := [.int a, .int b, .int c, .int d]) (rest := [.int 0, .ref o]) (ws' := oC cJ o g :: wx') (pc' := 12) hK1 hA hM (cwV 4 C0.2.2.2.2 gL_note_X0_note rfl rfl rfl (by decide +kernel) ⟨Nat.le_of_ble_eq_true rfl, Nat.le_of_ble_eq_true rfl⟩) ⟨1, 0, _, _, _, rfl, gx1 hx⟩ (PLs.rt (P := [oC cJ o g])) rfl rfl (Nat.le_of_ble_eq_true rfl) ⟨Nat.zero_le _, Nat.zero_le _⟩ dL_note_9 rfl ?_
  refine v_lz C0 19 20 dL_note_12 (by decide) dL_note_15 dL_note_16 (by decide) dL_note_19 rfl ?_
  refine v_last C0 hK (ws' := oC cJ o (vp_updL g (0 : Int32).toNatClampNeg (lb r)) :: wx') (pc' := 21) 0 1 rfl rfl rfl vin01 dL_note_20 rfl ?_
  refine v_goto C0 28 dL_note_21 (by decide) ?_
  refine v_iconst C0 (pc' := 29) 0 (by decide) dL_note_28 rfl ?_
  refine v_widen (k2 := 1) (n2 := 6) (Nat.le_of_ble_eq_true rfl) (Nat.le_of_ble_eq_true rfl) ?_
  exact v_iret C0 hr hlk hK rfl dL_note_29
set_option maxHeartbeats 1000000 in
set_option maxRecDepth 100000 in
theorem w_note_IAE (l : Launch) {D : va_G} {cI cJ : ClassId} {ad : Nat → Nat} {wx wx' : va_W} {r : Int32} (o : Nat) (g : Nat → Int64) (a b c d : Int32) (hx : ∃ fs, wx[0]? = some (ad 0, .inr (0, fs))) (hM : Kx l yX0_note wsX0_note 8 123 D (TI cI) [.ref (ad 0), .int a, .int b, .int c, .int d] wx xIAE) : KE l yL_note wsL_note 9 150 D (TL cI cJ) [.ref (ad 0), .int a, .int b, .int c, .int d, .ref o] (oC cJ o g :: wx) (oC cJ o g :: wx) 1 := by
  obtain ⟨fs, hx⟩ := hx
  refine KE.of (cc := cL_note) (maxL := 7) (lv0 := [(0, .ref (ad 0)), (1, .int a), (2, .int b), (3, .int c), (4, .int d), (5, .ref o)]) (by decide +kernel) rfl (Nat.le_of_ble_eq_true rfl) rfl ?_
  intro p e s m args below meth c9 A C0 hT0 hr hlk hK hA hEN
  have hK1 : va_K D vwCl (TI cI) s := hK.sub [0] rfl
  refine v_aload C0 (pc' := 2) 5 rfl dL_note_0 rfl ?_
  refine v_iconst C0 (pc' := 3) 0 (by decide) dL_note_2 rfl ?_
  refine v_aload_n C0 (pc' := 4) 0 rfl rfl dL_note_3 rfl ?_
  refine v_iload_n C0 (pc' := 5) 1 rfl rfl dL_note_4 rfl ?_
  refine v_iload_n C0 (pc' := 6) 2 rfl rfl dL_note_5 rfl ?_
  refine v_iload_n C0 (pc' := 7) 3 rfl rfl dL_note_6 rfl ?_
  refine v_iload C0 (pc' := 9) 4 rfl dL_note_7 rfl ?_
  refine v_callVx_catch C0 (av := [.int a, .int b, .int c, .int d]) (rest := [.int 0, .ref o]) hK1 hA hEN hM (cwV 4 C0.2.2.2.2 gL_note_X0_note rfl rfl rfl (by decide +kernel) ⟨Nat.le_of_ble_eq_true rfl, Nat.le_of_ble_eq_true rfl⟩) ⟨1, 0, _, _, _, rfl, gx1 hx⟩ (PLs.rt (P := [oC cJ o g])) rfl rfl (Nat.le_of_ble_eq_true rfl) ⟨Nat.le_of_ble_eq_true rfl, Nat.le_of_ble_eq_true rfl⟩ dL_note_9 xIAE [] ⟨0, 21, 24, 13⟩ [] hT0 (fun z hz => absurd hz List.not_mem_nil) (by decide) (by decide) (C0.2.2.2.2 _ (List.mem_of_getElem? (i := 1) rfl)) (va_Nw.use rfl (hEN.2.2.2.1 _ List.mem_cons_self)) (fun q9 => ?_)
  refine v_astore C0 (lv' := [(6, .ref q9), (0, .ref (ad 0)), (1, .int a), (2, .int b), (3, .int c), (4, .int d), (5, .ref o)]) (pc' := 26) (by decide) rfl dL_note_24 rfl ?_
  refine v_iconst C0 (pc' := 27) 1 (by decide) dL_note_26 rfl ?_
  exact v_iret C0 hr hlk hK rfl dL_note_27
theorem u_note (l : Launch) (hst : l.stackTraces = false) (D : va_G) {cI cJ : ClassId} {ad bd : Nat → Nat} {wx wy : va_W} {t0 : Int32} (h : WP cI ad bd wx wy t0) (o : Nat) (g : Nat → Int64) (a b c d : Int32) : ∃ (wx' wy' : va_W) (r TH : Int32) (g' : Nat → Int64), WP cI ad bd wx' wy' TH ∧ Ki l yX1_note wsX1_note 2 43 0 0 D (TI cI) [.ref (bd 0), .int a, .int b, .int c, .int d] wy wy' r ∧ KE l yL_note wsL_note 9 150 D (TL cI cJ) [.ref (ad 0), .int a, .int b, .int c, .int d, .ref o] (oC cJ o g :: wx) (oC cJ o g' :: wx') TH ∧ (TH = 0 → g' (0 : Int32).toNatClampNeg = lb r) := by
  obtain ⟨wx', wy', r, TH, hw, hy, hx⟩ := q_note l hst D h a b c d
  rcases hx with ⟨rfl, k⟩ | ⟨rfl, rfl, k⟩
  · exact ⟨wx', wy', r, 0, _, hw, hy, w_note_ok l o g a b c d h.x0 k, fun _ => pk_uLs⟩
  · exact ⟨_, wy', r, 1, g, hw, hy, w_note_IAE l (wx' := []) (r := 0) o g a b c d h.x0 k, fun z => absurd z (by decide)⟩
set_option maxHeartbeats 1000000 in
set_option maxRecDepth 100000 in
theorem w_far_ok (l : Launch) {D : va_G} {cI cJ : ClassId} {ad : Nat → Nat} {wx wx' : va_W} {r : Int32} (o : Nat) (g : Nat → Int64) (a b : Int32) (hx : ∃ fs, wx[0]? = some (ad 0, .inr (0, fs))) (hM : Ki l yX0_far wsX0_far 2 41 0 0 D (TI cI) [.ref (ad 0), .int a, .int b] wx wx' r) : KE l yL_far wsL_far 9 145 D (TL cI cJ) [.ref (ad 0), .int a, .int b, .ref o] (oC cJ o g :: wx) (oC cJ o (vp_updL g (0 : Int32).toNatClampNeg (r.toInt64)) :: wx') 0 := by
  obtain ⟨fs, hx⟩ := hx
  refine KE.of (cc := cL_far) (maxL := 5) (lv0 := [(0, .ref (ad 0)), (1, .int a), (2, .int b), (3, .ref o)]) (by decide +kernel) rfl (Nat.le_of_ble_eq_true rfl) rfl ?_
  intro p e s m args below meth c9 A C0 hT0 hr hlk hK hA hEN
  have hK1 : va_K D vwCl (TI cI) s := hK.sub [0] rfl
  refine v_aload_n C0 (pc' := 1) 3 rfl rfl dL_far_0 rfl ?_
  refine v_iconst C0 (pc' := 2) 0 (by decide) dL_far_1 rfl ?_
  refine v_aload_n C0 (pc' := 3) 0 rfl rfl dL_far_2 rfl ?_
  refine v_iload_n C0 (pc' := 4) 1 rfl rfl dL_far_3 rfl ?_
  refine v_iload_n C0 (pc' := 5) 2 rfl rfl dL_far_4 rfl ?_
  refine v_callVi0 C0 (av := [.int a, .int b]) (rest := [.int 0, .ref o]) (ws' := oC cJ o g :: wx') (pc' := 8) hK1 hA hM (cwV 2 C0.2.2.2.2 gL_far_X0_far rfl rfl rfl (by decide +kernel) ⟨Nat.le_of_ble_eq_true rfl, Nat.le_of_ble_eq_true rfl⟩) ⟨1, 0, _, _, _, rfl, gx1 hx⟩ (PLs.rt (P := [oC cJ o g])) rfl rfl (Nat.le_of_ble_eq_true rfl) ⟨Nat.zero_le _, Nat.zero_le _⟩ dL_far_5 rfl ?_
  refine v_i2l C0 (pc' := 9) dL_far_8 rfl ?_
  refine v_last C0 hK (ws' := oC cJ o (vp_updL g (0 : Int32).toNatClampNeg (r.toInt64)) :: wx') (pc' := 10) 0 1 rfl rfl rfl vin01 dL_far_9 rfl ?_
  refine v_goto C0 17 dL_far_10 (by decide) ?_
  refine v_iconst C0 (pc' := 18) 0 (by decide) dL_far_17 rfl ?_
  refine v_widen (k2 := 1) (n2 := 6) (Nat.le_of_ble_eq_true rfl) (Nat.le_of_ble_eq_true rfl) ?_
  exact v_iret C0 hr hlk hK rfl dL_far_18
set_option maxHeartbeats 1000000 in
set_option maxRecDepth 100000 in
theorem w_far_IAE (l : Launch) {D : va_G} {cI cJ : ClassId} {ad : Nat → Nat} {wx wx' : va_W} {r : Int32} (o : Nat) (g : Nat → Int64) (a b : Int32) (hx : ∃ fs, wx[0]? = some (ad 0, .inr (0, fs))) (hM : Kx l yX0_far wsX0_far 8 123 D (TI cI) [.ref (ad 0), .int a, .int b] wx xIAE) : KE l yL_far wsL_far 9 145 D (TL cI cJ) [.ref (ad 0), .int a, .int b, .ref o] (oC cJ o g :: wx) (oC cJ o g :: wx) 1 := by
  obtain ⟨fs, hx⟩ := hx
  refine KE.of (cc := cL_far) (maxL := 5) (lv0 := [(0, .ref (ad 0)), (1, .int a), (2, .int b), (3, .ref o)]) (by decide +kernel) rfl (Nat.le_of_ble_eq_true rfl) rfl ?_
  intro p e s m args below meth c9 A C0 hT0 hr hlk hK hA hEN
  have hK1 : va_K D vwCl (TI cI) s := hK.sub [0] rfl
  refine v_aload_n C0 (pc' := 1) 3 rfl rfl dL_far_0 rfl ?_
  refine v_iconst C0 (pc' := 2) 0 (by decide) dL_far_1 rfl ?_
  refine v_aload_n C0 (pc' := 3) 0 rfl rfl dL_far_2 rfl ?_
  refine v_iload_n C0 (pc' := 4) 1 rfl rfl dL_far_3 rfl ?_
  refine v_iload_n C0 (pc' := 5) 2 rfl rfl dL_far_4 rfl ?_
  refine v_callVx_catch C0 (av := [.int a, .int b]) (rest := [.int 0, .ref o]) hK1 hA hEN hM (cwV 2 C0.2.2.2.2 gL_far_X0_far rfl rfl rfl (by decide +kernel) ⟨Nat.le_of_ble_eq_true rfl, Nat.le_of_ble_eq_true rfl⟩) ⟨1, 0, _, _, _, rfl, gx1 hx⟩ (PLs.rt (P := [oC cJ o g])) rfl rfl (Nat.le_of_ble_eq_true rfl) ⟨Nat.le_of_ble_eq_true rfl, Nat.le_of_ble_eq_true rfl⟩ dL_far_5 xIAE [] ⟨0, 10, 13, 13⟩ [] hT0 (fun z hz => absurd hz List.not_mem_nil) (by decide) (by decide) (C0.2.2.2.2 _ (List.mem_of_getElem? (i := 1) rfl)) (va_Nw.use rfl (hEN.2.2.2.1 _ List.mem_cons_self)) (fun q9 => ?_)
  refine v_astore C0 (lv' := [(4, .ref q9), (0, .ref (ad 0)), (1, .int a), (2, .int b), (3, .ref o)]) (pc' := 15) (by decide) rfl dL_far_13 rfl ?_
  refine v_iconst C0 (pc' := 16) 1 (by decide) dL_far_15 rfl ?_
  exact v_iret C0 hr hlk hK rfl dL_far_16
theorem u_far (l : Launch) (hst : l.stackTraces = false) (D : va_G) {cI cJ : ClassId} {ad bd : Nat → Nat} {wx wy : va_W} {t0 : Int32} (h : WP cI ad bd wx wy t0) (o : Nat) (g : Nat → Int64) (a b : Int32) : ∃ (wx' wy' : va_W) (r TH : Int32) (g' : Nat → Int64), WP cI ad bd wx' wy' TH ∧ Ki l yX1_far wsX1_far 2 43 0 0 D (TI cI) [.ref (bd 0), .int a, .int b] wy wy' r ∧ KE l yL_far wsL_far 9 145 D (TL cI cJ) [.ref (ad 0), .int a, .int b, .ref o] (oC cJ o g :: wx) (oC cJ o g' :: wx') TH ∧ (TH = 0 → g' (0 : Int32).toNatClampNeg = r.toInt64) := by
  obtain ⟨wx', wy', r, TH, hw, hy, hx⟩ := q_far l hst D h a b
  rcases hx with ⟨rfl, k⟩ | ⟨rfl, rfl, k⟩
  · exact ⟨wx', wy', r, 0, _, hw, hy, w_far_ok l o g a b h.x0 k, fun _ => pk_uLs⟩
  · exact ⟨_, wy', r, 1, g, hw, hy, w_far_IAE l (wx' := []) (r := 0) o g a b h.x0 k, fun z => absurd z (by decide)⟩
set_option maxHeartbeats 1000000 in
set_option maxRecDepth 100000 in
theorem w_isOn_ok (l : Launch) {D : va_G} {cI cJ : ClassId} {ad : Nat → Nat} {wx wx' : va_W} {r : Int32} (o : Nat) (g : Nat → Int64) (a b : Int32) (hx : ∃ fs, wx[0]? = some (ad 0, .inr (0, fs))) (hM : Ki l yX0_isOn wsX0_isOn 3 65 0 0 D (TI cI) [.ref (ad 0), .int a, .int b] wx wx' r) : KE l yL_isOn wsL_isOn 10 168 D (TL cI cJ) [.ref (ad 0), .int a, .int b, .ref o] (oC cJ o g :: wx) (oC cJ o (vp_updL g (0 : Int32).toNatClampNeg (lb r)) :: wx') 0 := by
  obtain ⟨fs, hx⟩ := hx
  refine KE.of (cc := cL_isOn) (maxL := 5) (lv0 := [(0, .ref (ad 0)), (1, .int a), (2, .int b), (3, .ref o)]) (by decide +kernel) rfl (Nat.le_of_ble_eq_true rfl) rfl ?_
  intro p e s m args below meth c9 A C0 hT0 hr hlk hK hA hEN
  have hK1 : va_K D vwCl (TI cI) s := hK.sub [0] rfl
  refine v_aload_n C0 (pc' := 1) 3 rfl rfl dL_isOn_0 rfl ?_
  refine v_iconst C0 (pc' := 2) 0 (by decide) dL_isOn_1 rfl ?_
  refine v_aload_n C0 (pc' := 3) 0 rfl rfl dL_isOn_2 rfl ?_
  refine v_iload_n C0 (pc' := 4) 1 rfl rfl dL_isOn_3 rfl ?_
  refine v_iload_n C0 (pc' := 5) 2 rfl rfl dL_isOn_4 rfl ?_
  refine v_callVi0 C0 (av := [.int a, .int b]) (rest := [.int 0, .ref o]) (ws' := oC cJ o g :: wx') (pc' := 8) hK1 hA hM (cwV 2 C0.2.2.2.2 gL_isOn_X0_isOn rfl rfl rfl (by decide +kernel) ⟨Nat.le_of_ble_eq_true rfl, Nat.le_of_ble_eq_true rfl⟩) ⟨1, 0, _, _, _, rfl, gx1 hx⟩ (PLs.rt (P := [oC cJ o g])) rfl rfl (Nat.le_of_ble_eq_true rfl) ⟨Nat.zero_le _, Nat.zero_le _⟩ dL_isOn_5 rfl ?_
  refine v_lz C0 15 16 dL_isOn_8 (by decide) dL_isOn_11 dL_isOn_12 (by decide) dL_isOn_15 rfl ?_
  refine v_last C0 hK (ws' := oC cJ o (vp_updL g (0 : Int32).toNatClampNeg (lb r)) :: wx') (pc' := 17) 0 1 rfl rfl rfl vin01 dL_isOn_16 rfl ?_
  refine v_goto C0 28 dL_isOn_17 (by decide) ?_
  refine v_iconst C0 (pc' := 29) 0 (by decide) dL_isOn_28 rfl ?_
  refine v_widen (k2 := 1) (n2 := 6) (Nat.le_of_ble_eq_true rfl) (Nat.le_of_ble_eq_true rfl) ?_
  exact v_iret C0 hr hlk hK rfl dL_isOn_29
set_option maxHeartbeats 1000000 in
set_option maxRecDepth 100000 in
theorem w_isOn_IAE (l : Launch) {D : va_G} {cI cJ : ClassId} {ad : Nat → Nat} {wx wx' : va_W} {r : Int32} (o : Nat) (g : Nat → Int64) (a b : Int32) (hx : ∃ fs, wx[0]? = some (ad 0, .inr (0, fs))) (hM : Kx l yX0_isOn wsX0_isOn 9 146 D (TI cI) [.ref (ad 0), .int a, .int b] wx xIAE) : KE l yL_isOn wsL_isOn 10 168 D (TL cI cJ) [.ref (ad 0), .int a, .int b, .ref o] (oC cJ o g :: wx) (oC cJ o g :: wx) 1 := by
  obtain ⟨fs, hx⟩ := hx
  refine KE.of (cc := cL_isOn) (maxL := 5) (lv0 := [(0, .ref (ad 0)), (1, .int a), (2, .int b), (3, .ref o)]) (by decide +kernel) rfl (Nat.le_of_ble_eq_true rfl) rfl ?_
  intro p e s m args below meth c9 A C0 hT0 hr hlk hK hA hEN
  have hK1 : va_K D vwCl (TI cI) s := hK.sub [0] rfl
  refine v_aload_n C0 (pc' := 1) 3 rfl rfl dL_isOn_0 rfl ?_
  refine v_iconst C0 (pc' := 2) 0 (by decide) dL_isOn_1 rfl ?_
  refine v_aload_n C0 (pc' := 3) 0 rfl rfl dL_isOn_2 rfl ?_
  refine v_iload_n C0 (pc' := 4) 1 rfl rfl dL_isOn_3 rfl ?_
  refine v_iload_n C0 (pc' := 5) 2 rfl rfl dL_isOn_4 rfl ?_
  refine v_callVx_catch C0 (av := [.int a, .int b]) (rest := [.int 0, .ref o]) hK1 hA hEN hM (cwV 2 C0.2.2.2.2 gL_isOn_X0_isOn rfl rfl rfl (by decide +kernel) ⟨Nat.le_of_ble_eq_true rfl, Nat.le_of_ble_eq_true rfl⟩) ⟨1, 0, _, _, _, rfl, gx1 hx⟩ (PLs.rt (P := [oC cJ o g])) rfl rfl (Nat.le_of_ble_eq_true rfl) ⟨Nat.le_of_ble_eq_true rfl, Nat.le_of_ble_eq_true rfl⟩ dL_isOn_5 xIAE [] ⟨0, 17, 20, 13⟩ [⟨0, 17, 24, 29⟩] hT0 (fun z hz => absurd hz List.not_mem_nil) (by decide) (by decide) (C0.2.2.2.2 _ (List.mem_of_getElem? (i := 1) rfl)) (va_Nw.use rfl (hEN.2.2.2.1 _ List.mem_cons_self)) (fun q9 => ?_)
  refine v_astore C0 (lv' := [(4, .ref q9), (0, .ref (ad 0)), (1, .int a), (2, .int b), (3, .ref o)]) (pc' := 22) (by decide) rfl dL_isOn_20 rfl ?_
  refine v_iconst C0 (pc' := 23) 1 (by decide) dL_isOn_22 rfl ?_
  exact v_iret C0 hr hlk hK rfl dL_isOn_23
set_option maxHeartbeats 1000000 in
set_option maxRecDepth 100000 in
theorem w_isOn_NSE (l : Launch) {D : va_G} {cI cJ : ClassId} {ad : Nat → Nat} {wx wx' : va_W} {r : Int32} (o : Nat) (g : Nat → Int64) (a b : Int32) (hx : ∃ fs, wx[0]? = some (ad 0, .inr (0, fs))) (hM : Kx l yX0_isOn wsX0_isOn 7 105 D (TI cI) [.ref (ad 0), .int a, .int b] wx xNSE) : KE l yL_isOn wsL_isOn 10 168 D (TL cI cJ) [.ref (ad 0), .int a, .int b, .ref o] (oC cJ o g :: wx) (oC cJ o g :: wx) 2 := by
  obtain ⟨fs, hx⟩ := hx
  refine KE.of (cc := cL_isOn) (maxL := 5) (lv0 := [(0, .ref (ad 0)), (1, .int a), (2, .int b), (3, .ref o)]) (by decide +kernel) rfl (Nat.le_of_ble_eq_true rfl) rfl ?_
  intro p e s m args below meth c9 A C0 hT0 hr hlk hK hA hEN
  have hK1 : va_K D vwCl (TI cI) s := hK.sub [0] rfl
  refine v_aload_n C0 (pc' := 1) 3 rfl rfl dL_isOn_0 rfl ?_
  refine v_iconst C0 (pc' := 2) 0 (by decide) dL_isOn_1 rfl ?_
  refine v_aload_n C0 (pc' := 3) 0 rfl rfl dL_isOn_2 rfl ?_
  refine v_iload_n C0 (pc' := 4) 1 rfl rfl dL_isOn_3 rfl ?_
  refine v_iload_n C0 (pc' := 5) 2 rfl rfl dL_isOn_4 rfl ?_
  refine v_callVx_catch C0 (av := [.int a, .int b]) (rest := [.int 0, .ref o]) hK1 hA hEN hM (cwV 2 C0.2.2.2.2 gL_isOn_X0_isOn rfl rfl rfl (by decide +kernel) ⟨Nat.le_of_ble_eq_true rfl, Nat.le_of_ble_eq_true rfl⟩) ⟨1, 0, _, _, _, rfl, gx1 hx⟩ (PLs.rt (P := [oC cJ o g])) rfl rfl (Nat.le_of_ble_eq_true rfl) ⟨Nat.le_of_ble_eq_true rfl, Nat.le_of_ble_eq_true rfl⟩ dL_isOn_5 xNSE [⟨0, 17, 20, 13⟩] ⟨0, 17, 24, 29⟩ [] hT0 (fun z hz => Or.inr (by have hz := List.mem_singleton.mp hz; subst hz; exact ⟨by decide, xIAE, C0.2.2.2.2 _ (List.mem_of_getElem? (i := 1) rfl), hEN.2.2.2.2.2.1⟩)) (by decide) (by decide) (C0.2.2.2.2 _ (List.mem_of_getElem? (i := 2) rfl)) (va_Nw.use rfl (hEN.2.2.2.1 _ (List.mem_cons_of_mem _ (List.mem_cons_of_mem _ List.mem_cons_self)))) (fun q9 => ?_)
  refine v_astore C0 (lv' := [(4, .ref q9), (0, .ref (ad 0)), (1, .int a), (2, .int b), (3, .ref o)]) (pc' := 26) (by decide) rfl dL_isOn_24 rfl ?_
  refine v_iconst C0 (pc' := 27) 2 (by decide) dL_isOn_26 rfl ?_
  exact v_iret C0 hr hlk hK rfl dL_isOn_27
theorem u_isOn (l : Launch) (hst : l.stackTraces = false) (D : va_G) {cI cJ : ClassId} {ad bd : Nat → Nat} {wx wy : va_W} {t0 : Int32} (h : WP cI ad bd wx wy t0) (o : Nat) (g : Nat → Int64) (a b : Int32) : ∃ (wx' wy' : va_W) (r TH : Int32) (g' : Nat → Int64), WP cI ad bd wx' wy' TH ∧ Ki l yX1_isOn wsX1_isOn 3 65 0 0 D (TI cI) [.ref (bd 0), .int a, .int b] wy wy' r ∧ KE l yL_isOn wsL_isOn 10 168 D (TL cI cJ) [.ref (ad 0), .int a, .int b, .ref o] (oC cJ o g :: wx) (oC cJ o g' :: wx') TH ∧ (TH = 0 → g' (0 : Int32).toNatClampNeg = lb r) := by
  obtain ⟨wx', wy', r, TH, hw, hy, hx⟩ := q_isOn l hst D h a b
  rcases hx with ⟨rfl, k⟩ | ⟨rfl, rfl, k⟩ | ⟨rfl, rfl, k⟩
  · exact ⟨wx', wy', r, 0, _, hw, hy, w_isOn_ok l o g a b h.x0 k, fun _ => pk_uLs⟩
  · exact ⟨_, wy', r, 1, g, hw, hy, w_isOn_IAE l (wx' := []) (r := 0) o g a b h.x0 k, fun z => absurd z (by decide)⟩
  · exact ⟨_, wy', r, 2, g, hw, hy, w_isOn_NSE l (wx' := []) (r := 0) o g a b h.x0 k, fun z => absurd z (by decide)⟩
set_option maxHeartbeats 1000000 in
set_option maxRecDepth 100000 in
theorem w_comesAs_ok (l : Launch) {D : va_G} {cI cJ : ClassId} {ad : Nat → Nat} {wx wx' : va_W} {r : Int32} (o : Nat) (g : Nat → Int64) (a b c : Int32) (hx : ∃ fs, wx[0]? = some (ad 0, .inr (0, fs))) (hM : Ki l yX0_comesAs wsX0_comesAs 3 67 0 0 D (TI cI) [.ref (ad 0), .int a, .int b, .int c] wx wx' r) : KE l yL_comesAs wsL_comesAs 10 169 D (TL cI cJ) [.ref (ad 0), .int a, .int b, .int c, .ref o] (oC cJ o g :: wx) (oC cJ o (vp_updL g (0 : Int32).toNatClampNeg (r.toInt64)) :: wx') 0 := by
  obtain ⟨fs, hx⟩ := hx
  refine KE.of (cc := cL_comesAs) (maxL := 6) (lv0 := [(0, .ref (ad 0)), (1, .int a), (2, .int b), (3, .int c), (4, .ref o)]) (by decide +kernel) rfl (Nat.le_of_ble_eq_true rfl) rfl ?_
  intro p e s m args below meth c9 A C0 hT0 hr hlk hK hA hEN
  have hK1 : va_K D vwCl (TI cI) s := hK.sub [0] rfl
  refine v_aload C0 (pc' := 2) 4 rfl dL_comesAs_0 rfl ?_
  refine v_iconst C0 (pc' := 3) 0 (by decide) dL_comesAs_2 rfl ?_
  refine v_aload_n C0 (pc' := 4) 0 rfl rfl dL_comesAs_3 rfl ?_
  refine v_iload_n C0 (pc' := 5) 1 rfl rfl dL_comesAs_4 rfl ?_
  refine v_iload_n C0 (pc' := 6) 2 rfl rfl dL_comesAs_5 rfl ?_
  refine v_iload_n C0 (pc' := 7) 3 rfl rfl dL_comesAs_6 rfl ?_
  refine v_callVi0 C0 (av := [.int a, .int b, .int c]) (rest := [.int 0, .ref o]) (ws' := oC cJ o g :: wx') (pc' := 10) hK1 hA hM (cwV 3 C0.2.2.2.2 gL_comesAs_X0_comesAs rfl rfl rfl (by decide +kernel) ⟨Nat.le_of_ble_eq_true rfl, Nat.le_of_ble_eq_true rfl⟩) ⟨1, 0, _, _, _, rfl, gx1 hx⟩ (PLs.rt (P := [oC cJ o g])) rfl rfl (Nat.le_of_ble_eq_true rfl) ⟨Nat.zero_le _, Nat.zero_le _⟩ dL_comesAs_7 rfl ?_
  refine v_i2l C0 (pc' := 11) dL_comesAs_10 rfl ?_
  refine v_last C0 hK (ws' := oC cJ o (vp_updL g (0 : Int32).toNatClampNeg (r.toInt64)) :: wx') (pc' := 12) 0 1 rfl rfl rfl vin01 dL_comesAs_11 rfl ?_
  refine v_goto C0 23 dL_comesAs_12 (by decide) ?_
  refine v_iconst C0 (pc' := 24) 0 (by decide) dL_comesAs_23 rfl ?_
  refine v_widen (k2 := 1) (n2 := 6) (Nat.le_of_ble_eq_true rfl) (Nat.le_of_ble_eq_true rfl) ?_
  exact v_iret C0 hr hlk hK rfl dL_comesAs_24
set_option maxHeartbeats 1000000 in
set_option maxRecDepth 100000 in
theorem w_comesAs_IAE (l : Launch) {D : va_G} {cI cJ : ClassId} {ad : Nat → Nat} {wx wx' : va_W} {r : Int32} (o : Nat) (g : Nat → Int64) (a b c : Int32) (hx : ∃ fs, wx[0]? = some (ad 0, .inr (0, fs))) (hM : Kx l yX0_comesAs wsX0_comesAs 9 146 D (TI cI) [.ref (ad 0), .int a, .int b, .int c] wx xIAE) : KE l yL_comesAs wsL_comesAs 10 169 D (TL cI cJ) [.ref (ad 0), .int a, .int b, .int c, .ref o] (oC cJ o g :: wx) (oC cJ o g :: wx) 1 := by
  obtain ⟨fs, hx⟩ := hx
  refine KE.of (cc := cL_comesAs) (maxL := 6) (lv0 := [(0, .ref (ad 0)), (1, .int a), (2, .int b), (3, .int c), (4, .ref o)]) (by decide +kernel) rfl (Nat.le_of_ble_eq_true rfl) rfl ?_
  intro p e s m args below meth c9 A C0 hT0 hr hlk hK hA hEN
  have hK1 : va_K D vwCl (TI cI) s := hK.sub [0] rfl
  refine v_aload C0 (pc' := 2) 4 rfl dL_comesAs_0 rfl ?_
  refine v_iconst C0 (pc' := 3) 0 (by decide) dL_comesAs_2 rfl ?_
  refine v_aload_n C0 (pc' := 4) 0 rfl rfl dL_comesAs_3 rfl ?_
  refine v_iload_n C0 (pc' := 5) 1 rfl rfl dL_comesAs_4 rfl ?_
  refine v_iload_n C0 (pc' := 6) 2 rfl rfl dL_comesAs_5 rfl ?_
  refine v_iload_n C0 (pc' := 7) 3 rfl rfl dL_comesAs_6 rfl ?_
  refine v_callVx_catch C0 (av := [.int a, .int b, .int c]) (rest := [.int 0, .ref o]) hK1 hA hEN hM (cwV 3 C0.2.2.2.2 gL_comesAs_X0_comesAs rfl rfl rfl (by decide +kernel) ⟨Nat.le_of_ble_eq_true rfl, Nat.le_of_ble_eq_true rfl⟩) ⟨1, 0, _, _, _, rfl, gx1 hx⟩ (PLs.rt (P := [oC cJ o g])) rfl rfl (Nat.le_of_ble_eq_true rfl) ⟨Nat.le_of_ble_eq_true rfl, Nat.le_of_ble_eq_true rfl⟩ dL_comesAs_7 xIAE [] ⟨0, 12, 15, 13⟩ [⟨0, 12, 19, 29⟩] hT0 (fun z hz => absurd hz List.not_mem_nil) (by decide) (by decide) (C0.2.2.2.2 _ (List.mem_of_getElem? (i := 1) rfl)) (va_Nw.use rfl (hEN.2.2.2.1 _ List.mem_cons_self)) (fun q9 => ?_)
  refine v_astore C0 (lv' := [(5, .ref q9), (0, .ref (ad 0)), (1, .int a), (2, .int b), (3, .int c), (4, .ref o)]) (pc' := 17) (by decide) rfl dL_comesAs_15 rfl ?_
  refine v_iconst C0 (pc' := 18) 1 (by decide) dL_comesAs_17 rfl ?_
  exact v_iret C0 hr hlk hK rfl dL_comesAs_18
set_option maxHeartbeats 1000000 in
set_option maxRecDepth 100000 in
theorem w_comesAs_NSE (l : Launch) {D : va_G} {cI cJ : ClassId} {ad : Nat → Nat} {wx wx' : va_W} {r : Int32} (o : Nat) (g : Nat → Int64) (a b c : Int32) (hx : ∃ fs, wx[0]? = some (ad 0, .inr (0, fs))) (hM : Kx l yX0_comesAs wsX0_comesAs 7 105 D (TI cI) [.ref (ad 0), .int a, .int b, .int c] wx xNSE) : KE l yL_comesAs wsL_comesAs 10 169 D (TL cI cJ) [.ref (ad 0), .int a, .int b, .int c, .ref o] (oC cJ o g :: wx) (oC cJ o g :: wx) 2 := by
  obtain ⟨fs, hx⟩ := hx
  refine KE.of (cc := cL_comesAs) (maxL := 6) (lv0 := [(0, .ref (ad 0)), (1, .int a), (2, .int b), (3, .int c), (4, .ref o)]) (by decide +kernel) rfl (Nat.le_of_ble_eq_true rfl) rfl ?_
  intro p e s m args below meth c9 A C0 hT0 hr hlk hK hA hEN
  have hK1 : va_K D vwCl (TI cI) s := hK.sub [0] rfl
  refine v_aload C0 (pc' := 2) 4 rfl dL_comesAs_0 rfl ?_
  refine v_iconst C0 (pc' := 3) 0 (by decide) dL_comesAs_2 rfl ?_
  refine v_aload_n C0 (pc' := 4) 0 rfl rfl dL_comesAs_3 rfl ?_
  refine v_iload_n C0 (pc' := 5) 1 rfl rfl dL_comesAs_4 rfl ?_
  refine v_iload_n C0 (pc' := 6) 2 rfl rfl dL_comesAs_5 rfl ?_
  refine v_iload_n C0 (pc' := 7) 3 rfl rfl dL_comesAs_6 rfl ?_
  refine v_callVx_catch C0 (av := [.int a, .int b, .int c]) (rest := [.int 0, .ref o]) hK1 hA hEN hM (cwV 3 C0.2.2.2.2 gL_comesAs_X0_comesAs rfl rfl rfl (by decide +kernel) ⟨Nat.le_of_ble_eq_true rfl, Nat.le_of_ble_eq_true rfl⟩) ⟨1, 0, _, _, _, rfl, gx1 hx⟩ (PLs.rt (P := [oC cJ o g])) rfl rfl (Nat.le_of_ble_eq_true rfl) ⟨Nat.le_of_ble_eq_true rfl, Nat.le_of_ble_eq_true rfl⟩ dL_comesAs_7 xNSE [⟨0, 12, 15, 13⟩] ⟨0, 12, 19, 29⟩ [] hT0 (fun z hz => Or.inr (by have hz := List.mem_singleton.mp hz; subst hz; exact ⟨by decide, xIAE, C0.2.2.2.2 _ (List.mem_of_getElem? (i := 1) rfl), hEN.2.2.2.2.2.1⟩)) (by decide) (by decide) (C0.2.2.2.2 _ (List.mem_of_getElem? (i := 2) rfl)) (va_Nw.use rfl (hEN.2.2.2.1 _ (List.mem_cons_of_mem _ (List.mem_cons_of_mem _ List.mem_cons_self)))) (fun q9 => ?_)
  refine v_astore C0 (lv' := [(5, .ref q9), (0, .ref (ad 0)), (1, .int a), (2, .int b), (3, .int c), (4, .ref o)]) (pc' := 21) (by decide) rfl dL_comesAs_19 rfl ?_
  refine v_iconst C0 (pc' := 22) 2 (by decide) dL_comesAs_21 rfl ?_
  exact v_iret C0 hr hlk hK rfl dL_comesAs_22
theorem u_comesAs (l : Launch) (hst : l.stackTraces = false) (D : va_G) {cI cJ : ClassId} {ad bd : Nat → Nat} {wx wy : va_W} {t0 : Int32} (h : WP cI ad bd wx wy t0) (o : Nat) (g : Nat → Int64) (a b c : Int32) : ∃ (wx' wy' : va_W) (r TH : Int32) (g' : Nat → Int64), WP cI ad bd wx' wy' TH ∧ Ki l yX1_comesAs wsX1_comesAs 3 65 0 0 D (TI cI) [.ref (bd 0), .int a, .int b, .int c] wy wy' r ∧ KE l yL_comesAs wsL_comesAs 10 169 D (TL cI cJ) [.ref (ad 0), .int a, .int b, .int c, .ref o] (oC cJ o g :: wx) (oC cJ o g' :: wx') TH ∧ (TH = 0 → g' (0 : Int32).toNatClampNeg = r.toInt64) := by
  obtain ⟨wx', wy', r, TH, hw, hy, hx⟩ := q_comesAs l hst D h a b c
  rcases hx with ⟨rfl, k⟩ | ⟨rfl, rfl, k⟩ | ⟨rfl, rfl, k⟩
  · exact ⟨wx', wy', r, 0, _, hw, hy, w_comesAs_ok l o g a b c h.x0 k, fun _ => pk_uLs⟩
  · exact ⟨_, wy', r, 1, g, hw, hy, w_comesAs_IAE l (wx' := []) (r := 0) o g a b c h.x0 k, fun z => absurd z (by decide)⟩
  · exact ⟨_, wy', r, 2, g, hw, hy, w_comesAs_NSE l (wx' := []) (r := 0) o g a b c h.x0 k, fun z => absurd z (by decide)⟩
set_option maxHeartbeats 1000000 in
set_option maxRecDepth 100000 in
theorem w_oneSided_ok (l : Launch) {D : va_G} {cI cJ : ClassId} {ad : Nat → Nat} {wx wx' : va_W} {r : Int32} (o : Nat) (g : Nat → Int64) (a b : Int32) (hx : ∃ fs, wx[0]? = some (ad 0, .inr (0, fs))) (hM : Ki l yX0_oneSided wsX0_oneSided 3 65 0 0 D (TI cI) [.ref (ad 0), .int a, .int b] wx wx' r) : KE l yL_oneSided wsL_oneSided 10 169 D (TL cI cJ) [.ref (ad 0), .int a, .int b, .ref o] (oC cJ o g :: wx) (oC cJ o (vp_updL g (0 : Int32).toNatClampNeg (r.toInt64)) :: wx') 0 := by
  obtain ⟨fs, hx⟩ := hx
  refine KE.of (cc := cL_oneSided) (maxL := 5) (lv0 := [(0, .ref (ad 0)), (1, .int a), (2, .int b), (3, .ref o)]) (by decide +kernel) rfl (Nat.le_of_ble_eq_true rfl) rfl ?_
  intro p e s m args below meth c9 A C0 hT0 hr hlk hK hA hEN
  have hK1 : va_K D vwCl (TI cI) s := hK.sub [0] rfl
  refine v_aload_n C0 (pc' := 1) 3 rfl rfl dL_oneSided_0 rfl ?_
  refine v_iconst C0 (pc' := 2) 0 (by decide) dL_oneSided_1 rfl ?_
  refine v_aload_n C0 (pc' := 3) 0 rfl rfl dL_oneSided_2 rfl ?_
  refine v_iload_n C0 (pc' := 4) 1 rfl rfl dL_oneSided_3 rfl ?_
  refine v_iload_n C0 (pc' := 5) 2 rfl rfl dL_oneSided_4 rfl ?_
  refine v_callVi0 C0 (av := [.int a, .int b]) (rest := [.int 0, .ref o]) (ws' := oC cJ o g :: wx') (pc' := 8) hK1 hA hM (cwV 2 C0.2.2.2.2 gL_oneSided_X0_oneSided rfl rfl rfl (by decide +kernel) ⟨Nat.le_of_ble_eq_true rfl, Nat.le_of_ble_eq_true rfl⟩) ⟨1, 0, _, _, _, rfl, gx1 hx⟩ (PLs.rt (P := [oC cJ o g])) rfl rfl (Nat.le_of_ble_eq_true rfl) ⟨Nat.zero_le _, Nat.zero_le _⟩ dL_oneSided_5 rfl ?_
  refine v_i2l C0 (pc' := 9) dL_oneSided_8 rfl ?_
  refine v_last C0 hK (ws' := oC cJ o (vp_updL g (0 : Int32).toNatClampNeg (r.toInt64)) :: wx') (pc' := 10) 0 1 rfl rfl rfl vin01 dL_oneSided_9 rfl ?_
  refine v_goto C0 21 dL_oneSided_10 (by decide) ?_
  refine v_iconst C0 (pc' := 22) 0 (by decide) dL_oneSided_21 rfl ?_
  refine v_widen (k2 := 1) (n2 := 6) (Nat.le_of_ble_eq_true rfl) (Nat.le_of_ble_eq_true rfl) ?_
  exact v_iret C0 hr hlk hK rfl dL_oneSided_22
set_option maxHeartbeats 1000000 in
set_option maxRecDepth 100000 in
theorem w_oneSided_IAE (l : Launch) {D : va_G} {cI cJ : ClassId} {ad : Nat → Nat} {wx wx' : va_W} {r : Int32} (o : Nat) (g : Nat → Int64) (a b : Int32) (hx : ∃ fs, wx[0]? = some (ad 0, .inr (0, fs))) (hM : Kx l yX0_oneSided wsX0_oneSided 9 146 D (TI cI) [.ref (ad 0), .int a, .int b] wx xIAE) : KE l yL_oneSided wsL_oneSided 10 169 D (TL cI cJ) [.ref (ad 0), .int a, .int b, .ref o] (oC cJ o g :: wx) (oC cJ o g :: wx) 1 := by
  obtain ⟨fs, hx⟩ := hx
  refine KE.of (cc := cL_oneSided) (maxL := 5) (lv0 := [(0, .ref (ad 0)), (1, .int a), (2, .int b), (3, .ref o)]) (by decide +kernel) rfl (Nat.le_of_ble_eq_true rfl) rfl ?_
  intro p e s m args below meth c9 A C0 hT0 hr hlk hK hA hEN
  have hK1 : va_K D vwCl (TI cI) s := hK.sub [0] rfl
  refine v_aload_n C0 (pc' := 1) 3 rfl rfl dL_oneSided_0 rfl ?_
  refine v_iconst C0 (pc' := 2) 0 (by decide) dL_oneSided_1 rfl ?_
  refine v_aload_n C0 (pc' := 3) 0 rfl rfl dL_oneSided_2 rfl ?_
  refine v_iload_n C0 (pc' := 4) 1 rfl rfl dL_oneSided_3 rfl ?_
  refine v_iload_n C0 (pc' := 5) 2 rfl rfl dL_oneSided_4 rfl ?_
  refine v_callVx_catch C0 (av := [.int a, .int b]) (rest := [.int 0, .ref o]) hK1 hA hEN hM (cwV 2 C0.2.2.2.2 gL_oneSided_X0_oneSided rfl rfl rfl (by decide +kernel) ⟨Nat.le_of_ble_eq_true rfl, Nat.le_of_ble_eq_true rfl⟩) ⟨1, 0, _, _, _, rfl, gx1 hx⟩ (PLs.rt (P := [oC cJ o g])) rfl rfl (Nat.le_of_ble_eq_true rfl) ⟨Nat.le_of_ble_eq_true rfl, Nat.le_of_ble_eq_true rfl⟩ dL_oneSided_5 xIAE [] ⟨0, 10, 13, 13⟩ [⟨0, 10, 17, 29⟩] hT0 (fun z hz => absurd hz List.not_mem_nil) (by decide) (by decide) (C0.2.2.2.2 _ (List.mem_of_getElem? (i := 1) rfl)) (va_Nw.use rfl (hEN.2.2.2.1 _ List.mem_cons_self)) (fun q9 => ?_)
  refine v_astore C0 (lv' := [(4, .ref q9), (0, .ref (ad 0)), (1, .int a), (2, .int b), (3, .ref o)]) (pc' := 15) (by decide) rfl dL_oneSided_13 rfl ?_
  refine v_iconst C0 (pc' := 16) 1 (by decide) dL_oneSided_15 rfl ?_
  exact v_iret C0 hr hlk hK rfl dL_oneSided_16
set_option maxHeartbeats 1000000 in
set_option maxRecDepth 100000 in
theorem w_oneSided_NSE (l : Launch) {D : va_G} {cI cJ : ClassId} {ad : Nat → Nat} {wx wx' : va_W} {r : Int32} (o : Nat) (g : Nat → Int64) (a b : Int32) (hx : ∃ fs, wx[0]? = some (ad 0, .inr (0, fs))) (hM : Kx l yX0_oneSided wsX0_oneSided 7 105 D (TI cI) [.ref (ad 0), .int a, .int b] wx xNSE) : KE l yL_oneSided wsL_oneSided 10 169 D (TL cI cJ) [.ref (ad 0), .int a, .int b, .ref o] (oC cJ o g :: wx) (oC cJ o g :: wx) 2 := by
  obtain ⟨fs, hx⟩ := hx
  refine KE.of (cc := cL_oneSided) (maxL := 5) (lv0 := [(0, .ref (ad 0)), (1, .int a), (2, .int b), (3, .ref o)]) (by decide +kernel) rfl (Nat.le_of_ble_eq_true rfl) rfl ?_
  intro p e s m args below meth c9 A C0 hT0 hr hlk hK hA hEN
  have hK1 : va_K D vwCl (TI cI) s := hK.sub [0] rfl
  refine v_aload_n C0 (pc' := 1) 3 rfl rfl dL_oneSided_0 rfl ?_
  refine v_iconst C0 (pc' := 2) 0 (by decide) dL_oneSided_1 rfl ?_
  refine v_aload_n C0 (pc' := 3) 0 rfl rfl dL_oneSided_2 rfl ?_
  refine v_iload_n C0 (pc' := 4) 1 rfl rfl dL_oneSided_3 rfl ?_
  refine v_iload_n C0 (pc' := 5) 2 rfl rfl dL_oneSided_4 rfl ?_
  refine v_callVx_catch C0 (av := [.int a, .int b]) (rest := [.int 0, .ref o]) hK1 hA hEN hM (cwV 2 C0.2.2.2.2 gL_oneSided_X0_oneSided rfl rfl rfl (by decide +kernel) ⟨Nat.le_of_ble_eq_true rfl, Nat.le_of_ble_eq_true rfl⟩) ⟨1, 0, _, _, _, rfl, gx1 hx⟩ (PLs.rt (P := [oC cJ o g])) rfl rfl (Nat.le_of_ble_eq_true rfl) ⟨Nat.le_of_ble_eq_true rfl, Nat.le_of_ble_eq_true rfl⟩ dL_oneSided_5 xNSE [⟨0, 10, 13, 13⟩] ⟨0, 10, 17, 29⟩ [] hT0 (fun z hz => Or.inr (by have hz := List.mem_singleton.mp hz; subst hz; exact ⟨by decide, xIAE, C0.2.2.2.2 _ (List.mem_of_getElem? (i := 1) rfl), hEN.2.2.2.2.2.1⟩)) (by decide) (by decide) (C0.2.2.2.2 _ (List.mem_of_getElem? (i := 2) rfl)) (va_Nw.use rfl (hEN.2.2.2.1 _ (List.mem_cons_of_mem _ (List.mem_cons_of_mem _ List.mem_cons_self)))) (fun q9 => ?_)
  refine v_astore C0 (lv' := [(4, .ref q9), (0, .ref (ad 0)), (1, .int a), (2, .int b), (3, .ref o)]) (pc' := 19) (by decide) rfl dL_oneSided_17 rfl ?_
  refine v_iconst C0 (pc' := 20) 2 (by decide) dL_oneSided_19 rfl ?_
  exact v_iret C0 hr hlk hK rfl dL_oneSided_20
theorem u_oneSided (l : Launch) (hst : l.stackTraces = false) (D : va_G) {cI cJ : ClassId} {ad bd : Nat → Nat} {wx wy : va_W} {t0 : Int32} (h : WP cI ad bd wx wy t0) (o : Nat) (g : Nat → Int64) (a b : Int32) : ∃ (wx' wy' : va_W) (r TH : Int32) (g' : Nat → Int64), WP cI ad bd wx' wy' TH ∧ Ki l yX1_oneSided wsX1_oneSided 3 65 0 0 D (TI cI) [.ref (bd 0), .int a, .int b] wy wy' r ∧ KE l yL_oneSided wsL_oneSided 10 169 D (TL cI cJ) [.ref (ad 0), .int a, .int b, .ref o] (oC cJ o g :: wx) (oC cJ o g' :: wx') TH ∧ (TH = 0 → g' (0 : Int32).toNatClampNeg = r.toInt64) := by
  obtain ⟨wx', wy', r, TH, hw, hy, hx⟩ := q_oneSided l hst D h a b
  rcases hx with ⟨rfl, k⟩ | ⟨rfl, rfl, k⟩ | ⟨rfl, rfl, k⟩
  · exact ⟨wx', wy', r, 0, _, hw, hy, w_oneSided_ok l o g a b h.x0 k, fun _ => pk_uLs⟩
  · exact ⟨_, wy', r, 1, g, hw, hy, w_oneSided_IAE l (wx' := []) (r := 0) o g a b h.x0 k, fun z => absurd z (by decide)⟩
  · exact ⟨_, wy', r, 2, g, hw, hy, w_oneSided_NSE l (wx' := []) (r := 0) o g a b h.x0 k, fun z => absurd z (by decide)⟩
set_option maxHeartbeats 1000000 in
set_option maxRecDepth 100000 in
theorem w_root_ok (l : Launch) {D : va_G} {cI cJ : ClassId} {ad : Nat → Nat} {wx wx' : va_W} {r : Int32} (o : Nat) (g : Nat → Int64) (a : Int32) (hx : ∃ fs, wx[0]? = some (ad 0, .inr (0, fs))) (hM : Ki l yX0_root wsX0_root 1 21 0 0 D (TI cI) [.ref (ad 0), .int a] wx wx' r) : KE l yL_root wsL_root 8 123 D (TL cI cJ) [.ref (ad 0), .int a, .ref o] (oC cJ o g :: wx) (oC cJ o (vp_updL g (0 : Int32).toNatClampNeg (r.toInt64)) :: wx') 0 := by
  obtain ⟨fs, hx⟩ := hx
  refine KE.of (cc := cL_root) (maxL := 4) (lv0 := [(0, .ref (ad 0)), (1, .int a), (2, .ref o)]) (by decide +kernel) rfl (Nat.le_of_ble_eq_true rfl) rfl ?_
  intro p e s m args below meth c9 A C0 hT0 hr hlk hK hA hEN
  have hK1 : va_K D vwCl (TI cI) s := hK.sub [0] rfl
  refine v_aload_n C0 (pc' := 1) 2 rfl rfl dL_root_0 rfl ?_
  refine v_iconst C0 (pc' := 2) 0 (by decide) dL_root_1 rfl ?_
  refine v_aload_n C0 (pc' := 3) 0 rfl rfl dL_root_2 rfl ?_
  refine v_iload_n C0 (pc' := 4) 1 rfl rfl dL_root_3 rfl ?_
  refine v_callVi0 C0 (av := [.int a]) (rest := [.int 0, .ref o]) (ws' := oC cJ o g :: wx') (pc' := 7) hK1 hA hM (cwV 1 C0.2.2.2.2 gL_root_X0_root rfl rfl rfl (by decide +kernel) ⟨Nat.le_of_ble_eq_true rfl, Nat.le_of_ble_eq_true rfl⟩) ⟨1, 0, _, _, _, rfl, gx1 hx⟩ (PLs.rt (P := [oC cJ o g])) rfl rfl (Nat.le_of_ble_eq_true rfl) ⟨Nat.zero_le _, Nat.zero_le _⟩ dL_root_4 rfl ?_
  refine v_i2l C0 (pc' := 8) dL_root_7 rfl ?_
  refine v_last C0 hK (ws' := oC cJ o (vp_updL g (0 : Int32).toNatClampNeg (r.toInt64)) :: wx') (pc' := 9) 0 1 rfl rfl rfl vin01 dL_root_8 rfl ?_
  refine v_goto C0 15 dL_root_9 (by decide) ?_
  refine v_iconst C0 (pc' := 16) 0 (by decide) dL_root_15 rfl ?_
  refine v_widen (k2 := 1) (n2 := 6) (Nat.le_of_ble_eq_true rfl) (Nat.le_of_ble_eq_true rfl) ?_
  exact v_iret C0 hr hlk hK rfl dL_root_16
set_option maxHeartbeats 1000000 in
set_option maxRecDepth 100000 in
theorem w_root_IAE (l : Launch) {D : va_G} {cI cJ : ClassId} {ad : Nat → Nat} {wx wx' : va_W} {r : Int32} (o : Nat) (g : Nat → Int64) (a : Int32) (hx : ∃ fs, wx[0]? = some (ad 0, .inr (0, fs))) (hM : Kx l yX0_root wsX0_root 7 102 D (TI cI) [.ref (ad 0), .int a] wx xIAE) : KE l yL_root wsL_root 8 123 D (TL cI cJ) [.ref (ad 0), .int a, .ref o] (oC cJ o g :: wx) (oC cJ o g :: wx) 1 := by
  obtain ⟨fs, hx⟩ := hx
  refine KE.of (cc := cL_root) (maxL := 4) (lv0 := [(0, .ref (ad 0)), (1, .int a), (2, .ref o)]) (by decide +kernel) rfl (Nat.le_of_ble_eq_true rfl) rfl ?_
  intro p e s m args below meth c9 A C0 hT0 hr hlk hK hA hEN
  have hK1 : va_K D vwCl (TI cI) s := hK.sub [0] rfl
  refine v_aload_n C0 (pc' := 1) 2 rfl rfl dL_root_0 rfl ?_
  refine v_iconst C0 (pc' := 2) 0 (by decide) dL_root_1 rfl ?_
  refine v_aload_n C0 (pc' := 3) 0 rfl rfl dL_root_2 rfl ?_
  refine v_iload_n C0 (pc' := 4) 1 rfl rfl dL_root_3 rfl ?_
  refine v_callVx_catch C0 (av := [.int a]) (rest := [.int 0, .ref o]) hK1 hA hEN hM (cwV 1 C0.2.2.2.2 gL_root_X0_root rfl rfl rfl (by decide +kernel) ⟨Nat.le_of_ble_eq_true rfl, Nat.le_of_ble_eq_true rfl⟩) ⟨1, 0, _, _, _, rfl, gx1 hx⟩ (PLs.rt (P := [oC cJ o g])) rfl rfl (Nat.le_of_ble_eq_true rfl) ⟨Nat.le_of_ble_eq_true rfl, Nat.le_of_ble_eq_true rfl⟩ dL_root_4 xIAE [] ⟨0, 9, 12, 13⟩ [] hT0 (fun z hz => absurd hz List.not_mem_nil) (by decide) (by decide) (C0.2.2.2.2 _ (List.mem_of_getElem? (i := 1) rfl)) (va_Nw.use rfl (hEN.2.2.2.1 _ List.mem_cons_self)) (fun q9 => ?_)
  refine v_astore_n C0 (lv' := [(3, .ref q9), (0, .ref (ad 0)), (1, .int a), (2, .ref o)]) (pc' := 13) rfl (by decide) rfl dL_root_12 rfl ?_
  refine v_iconst C0 (pc' := 14) 1 (by decide) dL_root_13 rfl ?_
  exact v_iret C0 hr hlk hK rfl dL_root_14
theorem u_root (l : Launch) (hst : l.stackTraces = false) (D : va_G) {cI cJ : ClassId} {ad bd : Nat → Nat} {wx wy : va_W} {t0 : Int32} (h : WP cI ad bd wx wy t0) (o : Nat) (g : Nat → Int64) (a : Int32) : ∃ (wx' wy' : va_W) (r TH : Int32) (g' : Nat → Int64), WP cI ad bd wx' wy' TH ∧ Ki l yX1_root wsX1_root 2 45 0 0 D (TI cI) [.ref (bd 0), .int a] wy wy' r ∧ KE l yL_root wsL_root 8 123 D (TL cI cJ) [.ref (ad 0), .int a, .ref o] (oC cJ o g :: wx) (oC cJ o g' :: wx') TH ∧ (TH = 0 → g' (0 : Int32).toNatClampNeg = r.toInt64) := by
  obtain ⟨wx', wy', r, TH, hw, hy, hx⟩ := q_root l hst D h a
  rcases hx with ⟨rfl, k⟩ | ⟨rfl, rfl, k⟩
  · exact ⟨wx', wy', r, 0, _, hw, hy, w_root_ok l o g a h.x0 k, fun _ => pk_uLs⟩
  · exact ⟨_, wy', r, 1, g, hw, hy, w_root_IAE l (wx' := []) (r := 0) o g a h.x0 k, fun z => absurd z (by decide)⟩
set_option maxHeartbeats 1000000 in
set_option maxRecDepth 100000 in
theorem w_costOf_ok (l : Launch) {D : va_G} {cI cJ : ClassId} {ad : Nat → Nat} {wx wx' : va_W} {r : Int32} (o : Nat) (g : Nat → Int64) (a : Int32) (hx : ∃ fs, wx[0]? = some (ad 0, .inr (0, fs))) (hM : Ki l yX0_costOf wsX0_costOf 1 21 0 0 D (TI cI) [.ref (ad 0), .int a] wx wx' r) : KE l yL_costOf wsL_costOf 8 123 D (TL cI cJ) [.ref (ad 0), .int a, .ref o] (oC cJ o g :: wx) (oC cJ o (vp_updL g (0 : Int32).toNatClampNeg (r.toInt64)) :: wx') 0 := by
  obtain ⟨fs, hx⟩ := hx
  refine KE.of (cc := cL_costOf) (maxL := 4) (lv0 := [(0, .ref (ad 0)), (1, .int a), (2, .ref o)]) (by decide +kernel) rfl (Nat.le_of_ble_eq_true rfl) rfl ?_
  intro p e s m args below meth c9 A C0 hT0 hr hlk hK hA hEN
  have hK1 : va_K D vwCl (TI cI) s := hK.sub [0] rfl
  refine v_aload_n C0 (pc' := 1) 2 rfl rfl dL_costOf_0 rfl ?_
  refine v_iconst C0 (pc' := 2) 0 (by decide) dL_costOf_1 rfl ?_
  refine v_aload_n C0 (pc' := 3) 0 rfl rfl dL_costOf_2 rfl ?_
  refine v_iload_n C0 (pc' := 4) 1 rfl rfl dL_costOf_3 rfl ?_
  refine v_callVi0 C0 (av := [.int a]) (rest := [.int 0, .ref o]) (ws' := oC cJ o g :: wx') (pc' := 7) hK1 hA hM (cwV 1 C0.2.2.2.2 gL_costOf_X0_costOf rfl rfl rfl (by decide +kernel) ⟨Nat.le_of_ble_eq_true rfl, Nat.le_of_ble_eq_true rfl⟩) ⟨1, 0, _, _, _, rfl, gx1 hx⟩ (PLs.rt (P := [oC cJ o g])) rfl rfl (Nat.le_of_ble_eq_true rfl) ⟨Nat.zero_le _, Nat.zero_le _⟩ dL_costOf_4 rfl ?_
  refine v_i2l C0 (pc' := 8) dL_costOf_7 rfl ?_
  refine v_last C0 hK (ws' := oC cJ o (vp_updL g (0 : Int32).toNatClampNeg (r.toInt64)) :: wx') (pc' := 9) 0 1 rfl rfl rfl vin01 dL_costOf_8 rfl ?_
  refine v_goto C0 15 dL_costOf_9 (by decide) ?_
  refine v_iconst C0 (pc' := 16) 0 (by decide) dL_costOf_15 rfl ?_
  refine v_widen (k2 := 1) (n2 := 6) (Nat.le_of_ble_eq_true rfl) (Nat.le_of_ble_eq_true rfl) ?_
  exact v_iret C0 hr hlk hK rfl dL_costOf_16
set_option maxHeartbeats 1000000 in
set_option maxRecDepth 100000 in
theorem w_costOf_IAE (l : Launch) {D : va_G} {cI cJ : ClassId} {ad : Nat → Nat} {wx wx' : va_W} {r : Int32} (o : Nat) (g : Nat → Int64) (a : Int32) (hx : ∃ fs, wx[0]? = some (ad 0, .inr (0, fs))) (hM : Kx l yX0_costOf wsX0_costOf 7 102 D (TI cI) [.ref (ad 0), .int a] wx xIAE) : KE l yL_costOf wsL_costOf 8 123 D (TL cI cJ) [.ref (ad 0), .int a, .ref o] (oC cJ o g :: wx) (oC cJ o g :: wx) 1 := by
  obtain ⟨fs, hx⟩ := hx
  refine KE.of (cc := cL_costOf) (maxL := 4) (lv0 := [(0, .ref (ad 0)), (1, .int a), (2, .ref o)]) (by decide +kernel) rfl (Nat.le_of_ble_eq_true rfl) rfl ?_
  intro p e s m args below meth c9 A C0 hT0 hr hlk hK hA hEN
  have hK1 : va_K D vwCl (TI cI) s := hK.sub [0] rfl
  refine v_aload_n C0 (pc' := 1) 2 rfl rfl dL_costOf_0 rfl ?_
  refine v_iconst C0 (pc' := 2) 0 (by decide) dL_costOf_1 rfl ?_
  refine v_aload_n C0 (pc' := 3) 0 rfl rfl dL_costOf_2 rfl ?_
  refine v_iload_n C0 (pc' := 4) 1 rfl rfl dL_costOf_3 rfl ?_
  refine v_callVx_catch C0 (av := [.int a]) (rest := [.int 0, .ref o]) hK1 hA hEN hM (cwV 1 C0.2.2.2.2 gL_costOf_X0_costOf rfl rfl rfl (by decide +kernel) ⟨Nat.le_of_ble_eq_true rfl, Nat.le_of_ble_eq_true rfl⟩) ⟨1, 0, _, _, _, rfl, gx1 hx⟩ (PLs.rt (P := [oC cJ o g])) rfl rfl (Nat.le_of_ble_eq_true rfl) ⟨Nat.le_of_ble_eq_true rfl, Nat.le_of_ble_eq_true rfl⟩ dL_costOf_4 xIAE [] ⟨0, 9, 12, 13⟩ [] hT0 (fun z hz => absurd hz List.not_mem_nil) (by decide) (by decide) (C0.2.2.2.2 _ (List.mem_of_getElem? (i := 1) rfl)) (va_Nw.use rfl (hEN.2.2.2.1 _ List.mem_cons_self)) (fun q9 => ?_)
  refine v_astore_n C0 (lv' := [(3, .ref q9), (0, .ref (ad 0)), (1, .int a), (2, .ref o)]) (pc' := 13) rfl (by decide) rfl dL_costOf_12 rfl ?_
  refine v_iconst C0 (pc' := 14) 1 (by decide) dL_costOf_13 rfl ?_
  exact v_iret C0 hr hlk hK rfl dL_costOf_14
theorem u_costOf (l : Launch) (hst : l.stackTraces = false) (D : va_G) {cI cJ : ClassId} {ad bd : Nat → Nat} {wx wy : va_W} {t0 : Int32} (h : WP cI ad bd wx wy t0) (o : Nat) (g : Nat → Int64) (a : Int32) : ∃ (wx' wy' : va_W) (r TH : Int32) (g' : Nat → Int64), WP cI ad bd wx' wy' TH ∧ Ki l yX1_costOf wsX1_costOf 2 45 0 0 D (TI cI) [.ref (bd 0), .int a] wy wy' r ∧ KE l yL_costOf wsL_costOf 8 123 D (TL cI cJ) [.ref (ad 0), .int a, .ref o] (oC cJ o g :: wx) (oC cJ o g' :: wx') TH ∧ (TH = 0 → g' (0 : Int32).toNatClampNeg = r.toInt64) := by
  obtain ⟨wx', wy', r, TH, hw, hy, hx⟩ := q_costOf l hst D h a
  rcases hx with ⟨rfl, k⟩ | ⟨rfl, rfl, k⟩
  · exact ⟨wx', wy', r, 0, _, hw, hy, w_costOf_ok l o g a h.x0 k, fun _ => pk_uLs⟩
  · exact ⟨_, wy', r, 1, g, hw, hy, w_costOf_IAE l (wx' := []) (r := 0) o g a h.x0 k, fun z => absurd z (by decide)⟩
set_option maxHeartbeats 1000000 in
set_option maxRecDepth 100000 in
theorem w_wayUp_ok (l : Launch) {D : va_G} {cI cJ : ClassId} {ad : Nat → Nat} {wx wx' : va_W} {r : Int32} (o : Nat) (g : Nat → Int64) (a : Int32) (hx : ∃ fs, wx[0]? = some (ad 0, .inr (0, fs))) (hM : Ki l yX0_wayUp wsX0_wayUp 1 21 0 0 D (TI cI) [.ref (ad 0), .int a] wx wx' r) : KE l yL_wayUp wsL_wayUp 8 124 D (TL cI cJ) [.ref (ad 0), .int a, .ref o] (oC cJ o g :: wx) (oC cJ o (vp_updL g (0 : Int32).toNatClampNeg (r.toInt64)) :: wx') 0 := by
  obtain ⟨fs, hx⟩ := hx
  refine KE.of (cc := cL_wayUp) (maxL := 4) (lv0 := [(0, .ref (ad 0)), (1, .int a), (2, .ref o)]) (by decide +kernel) rfl (Nat.le_of_ble_eq_true rfl) rfl ?_
  intro p e s m args below meth c9 A C0 hT0 hr hlk hK hA hEN
  have hK1 : va_K D vwCl (TI cI) s := hK.sub [0] rfl
  refine v_aload_n C0 (pc' := 1) 2 rfl rfl dL_wayUp_0 rfl ?_
  refine v_iconst C0 (pc' := 2) 0 (by decide) dL_wayUp_1 rfl ?_
  refine v_aload_n C0 (pc' := 3) 0 rfl rfl dL_wayUp_2 rfl ?_
  refine v_iload_n C0 (pc' := 4) 1 rfl rfl dL_wayUp_3 rfl ?_
  refine v_callVi0 C0 (av := [.int a]) (rest := [.int 0, .ref o]) (ws' := oC cJ o g :: wx') (pc' := 7) hK1 hA hM (cwV 1 C0.2.2.2.2 gL_wayUp_X0_wayUp rfl rfl rfl (by decide +kernel) ⟨Nat.le_of_ble_eq_true rfl, Nat.le_of_ble_eq_true rfl⟩) ⟨1, 0, _, _, _, rfl, gx1 hx⟩ (PLs.rt (P := [oC cJ o g])) rfl rfl (Nat.le_of_ble_eq_true rfl) ⟨Nat.zero_le _, Nat.zero_le _⟩ dL_wayUp_4 rfl ?_
  refine v_i2l C0 (pc' := 8) dL_wayUp_7 rfl ?_
  refine v_last C0 hK (ws' := oC cJ o (vp_updL g (0 : Int32).toNatClampNeg (r.toInt64)) :: wx') (pc' := 9) 0 1 rfl rfl rfl vin01 dL_wayUp_8 rfl ?_
  refine v_goto C0 15 dL_wayUp_9 (by decide) ?_
  refine v_iconst C0 (pc' := 16) 0 (by decide) dL_wayUp_15 rfl ?_
  refine v_widen (k2 := 1) (n2 := 6) (Nat.le_of_ble_eq_true rfl) (Nat.le_of_ble_eq_true rfl) ?_
  exact v_iret C0 hr hlk hK rfl dL_wayUp_16
set_option maxHeartbeats 1000000 in
set_option maxRecDepth 100000 in
theorem w_wayUp_IAE (l : Launch) {D : va_G} {cI cJ : ClassId} {ad : Nat → Nat} {wx wx' : va_W} {r : Int32} (o : Nat) (g : Nat → Int64) (a : Int32) (hx : ∃ fs, wx[0]? = some (ad 0, .inr (0, fs))) (hM : Kx l yX0_wayUp wsX0_wayUp 7 102 D (TI cI) [.ref (ad 0), .int a] wx xIAE) : KE l yL_wayUp wsL_wayUp 8 124 D (TL cI cJ) [.ref (ad 0), .int a, .ref o] (oC cJ o g :: wx) (oC cJ o g :: wx) 1 := by
  obtain ⟨fs, hx⟩ := hx
  refine KE.of (cc := cL_wayUp) (maxL := 4) (lv0 := [(0, .ref (ad 0)), (1, .int a), (2, .ref o)]) (by decide +kernel) rfl (Nat.le_of_ble_eq_true rfl) rfl ?_
  intro p e s m args below meth c9 A C0 hT0 hr hlk hK hA hEN
  have hK1 : va_K D vwCl (TI cI) s := hK.sub [0] rfl
  refine v_aload_n C0 (pc' := 1) 2 rfl rfl dL_wayUp_0 rfl ?_
  refine v_iconst C0 (pc' := 2) 0 (by decide) dL_wayUp_1 rfl ?_
  refine v_aload_n C0 (pc' := 3) 0 rfl rfl dL_wayUp_2 rfl ?_
  refine v_iload_n C0 (pc' := 4) 1 rfl rfl dL_wayUp_3 rfl ?_
  refine v_callVx_catch C0 (av := [.int a]) (rest := [.int 0, .ref o]) hK1 hA hEN hM (cwV 1 C0.2.2.2.2 gL_wayUp_X0_wayUp rfl rfl rfl (by decide +kernel) ⟨Nat.le_of_ble_eq_true rfl, Nat.le_of_ble_eq_true rfl⟩) ⟨1, 0, _, _, _, rfl, gx1 hx⟩ (PLs.rt (P := [oC cJ o g])) rfl rfl (Nat.le_of_ble_eq_true rfl) ⟨Nat.le_of_ble_eq_true rfl, Nat.le_of_ble_eq_true rfl⟩ dL_wayUp_4 xIAE [] ⟨0, 9, 12, 13⟩ [] hT0 (fun z hz => absurd hz List.not_mem_nil) (by decide) (by decide) (C0.2.2.2.2 _ (List.mem_of_getElem? (i := 1) rfl)) (va_Nw.use rfl (hEN.2.2.2.1 _ List.mem_cons_self)) (fun q9 => ?_)
  refine v_astore_n C0 (lv' := [(3, .ref q9), (0, .ref (ad 0)), (1, .int a), (2, .ref o)]) (pc' := 13) rfl (by decide) rfl dL_wayUp_12 rfl ?_
  refine v_iconst C0 (pc' := 14) 1 (by decide) dL_wayUp_13 rfl ?_
  exact v_iret C0 hr hlk hK rfl dL_wayUp_14
theorem u_wayUp (l : Launch) (hst : l.stackTraces = false) (D : va_G) {cI cJ : ClassId} {ad bd : Nat → Nat} {wx wy : va_W} {t0 : Int32} (h : WP cI ad bd wx wy t0) (o : Nat) (g : Nat → Int64) (a : Int32) : ∃ (wx' wy' : va_W) (r TH : Int32) (g' : Nat → Int64), WP cI ad bd wx' wy' TH ∧ Ki l yX1_wayUp wsX1_wayUp 2 45 0 0 D (TI cI) [.ref (bd 0), .int a] wy wy' r ∧ KE l yL_wayUp wsL_wayUp 8 124 D (TL cI cJ) [.ref (ad 0), .int a, .ref o] (oC cJ o g :: wx) (oC cJ o g' :: wx') TH ∧ (TH = 0 → g' (0 : Int32).toNatClampNeg = r.toInt64) := by
  obtain ⟨wx', wy', r, TH, hw, hy, hx⟩ := q_wayUp l hst D h a
  rcases hx with ⟨rfl, k⟩ | ⟨rfl, rfl, k⟩
  · exact ⟨wx', wy', r, 0, _, hw, hy, w_wayUp_ok l o g a h.x0 k, fun _ => pk_uLs⟩
  · exact ⟨_, wy', r, 1, g, hw, hy, w_wayUp_IAE l (wx' := []) (r := 0) o g a h.x0 k, fun z => absurd z (by decide)⟩
set_option maxHeartbeats 1000000 in
set_option maxRecDepth 100000 in
theorem w_hops_ok (l : Launch) {D : va_G} {cI cJ : ClassId} {ad : Nat → Nat} {wx wx' : va_W} {r : Int32} (o : Nat) (g : Nat → Int64) (a b c d : Int32) (hx : ∃ fs, wx[0]? = some (ad 0, .inr (0, fs))) (hM : Ki l yX0_hops wsX0_hops 6 137 0 0 D (TI cI) [.ref (ad 0), .int a, .int b, .int c, .int d] wx wx' r) : KE l yL_hops wsL_hops 9 163 D (TL cI cJ) [.ref (ad 0), .int a, .int b, .int c, .int d, .ref o] (oC cJ o g :: wx) (oC cJ o (vp_updL g (0 : Int32).toNatClampNeg (r.toInt64)) :: wx') 0 := by
  obtain ⟨fs, hx⟩ := hx
  refine KE.of (cc := cL_hops) (maxL := 7) (lv0 := [(0, .ref (ad 0)), (1, .int a), (2, .int b), (3, .int c), (4, .int d), (5, .ref o)]) (by decide +kernel) rfl (Nat.le_of_ble_eq_true rfl) rfl ?_
  intro p e s m args below meth c9 A C0 hT0 hr hlk hK hA hEN
  have hK1 : va_K D vwCl (TI cI) s := hK.sub [0] rfl
  refine v_aload C0 (pc' := 2) 5 rfl dL_hops_0 rfl ?_
  refine v_iconst C0 (pc' := 3) 0 (by decide) dL_hops_2 rfl ?_
  refine v_aload_n C0 (pc' := 4) 0 rfl rfl dL_hops_3 rfl ?_
  refine v_iload_n C0 (pc' := 5) 1 rfl rfl dL_hops_4 rfl ?_
  refine v_iload_n C0 (pc' := 6) 2 rfl rfl dL_hops_5 rfl ?_
  refine v_iload_n C0 (pc' := 7) 3 rfl rfl dL_hops_6 rfl ?_
  refine v_iload C0 (pc' := 9) 4 rfl dL_hops_7 rfl ?_
  refine v_callVi0 C0 (av := [.int a, .int b, .int c, .int d]) (rest := [.int 0, .ref o]) (ws' := oC cJ o g :: wx') (pc' := 12) hK1 hA hM (cwV 4 C0.2.2.2.2 gL_hops_X0_hops rfl rfl rfl (by decide +kernel) ⟨Nat.le_of_ble_eq_true rfl, Nat.le_of_ble_eq_true rfl⟩) ⟨1, 0, _, _, _, rfl, gx1 hx⟩ (PLs.rt (P := [oC cJ o g])) rfl rfl (Nat.le_of_ble_eq_true rfl) ⟨Nat.zero_le _, Nat.zero_le _⟩ dL_hops_9 rfl ?_
  refine v_i2l C0 (pc' := 13) dL_hops_12 rfl ?_
  refine v_last C0 hK (ws' := oC cJ o (vp_updL g (0 : Int32).toNatClampNeg (r.toInt64)) :: wx') (pc' := 14) 0 1 rfl rfl rfl vin01 dL_hops_13 rfl ?_
  refine v_goto C0 21 dL_hops_14 (by decide) ?_
  refine v_iconst C0 (pc' := 22) 0 (by decide) dL_hops_21 rfl ?_
  refine v_widen (k2 := 1) (n2 := 6) (Nat.le_of_ble_eq_true rfl) (Nat.le_of_ble_eq_true rfl) ?_
  exact v_iret C0 hr hlk hK rfl dL_hops_22
set_option maxHeartbeats 1000000 in
set_option maxRecDepth 100000 in
theorem w_hops_IAE (l : Launch) {D : va_G} {cI cJ : ClassId} {ad : Nat → Nat} {wx wx' : va_W} {r : Int32} (o : Nat) (g : Nat → Int64) (a b c d : Int32) (hx : ∃ fs, wx[0]? = some (ad 0, .inr (0, fs))) (hM : Kx l yX0_hops wsX0_hops 8 123 D (TI cI) [.ref (ad 0), .int a, .int b, .int c, .int d] wx xIAE) : KE l yL_hops wsL_hops 9 163 D (TL cI cJ) [.ref (ad 0), .int a, .int b, .int c, .int d, .ref o] (oC cJ o g :: wx) (oC cJ o g :: wx) 1 := by
  obtain ⟨fs, hx⟩ := hx
  refine KE.of (cc := cL_hops) (maxL := 7) (lv0 := [(0, .ref (ad 0)), (1, .int a), (2, .int b), (3, .int c), (4, .int d), (5, .ref o)]) (by decide +kernel) rfl (Nat.le_of_ble_eq_true rfl) rfl ?_
  intro p e s m args below meth c9 A C0 hT0 hr hlk hK hA hEN
  have hK1 : va_K D vwCl (TI cI) s := hK.sub [0] rfl
  refine v_aload C0 (pc' := 2) 5 rfl dL_hops_0 rfl ?_
  refine v_iconst C0 (pc' := 3) 0 (by decide) dL_hops_2 rfl ?_
  refine v_aload_n C0 (pc' := 4) 0 rfl rfl dL_hops_3 rfl ?_
  refine v_iload_n C0 (pc' := 5) 1 rfl rfl dL_hops_4 rfl ?_
  refine v_iload_n C0 (pc' := 6) 2 rfl rfl dL_hops_5 rfl ?_
  refine v_iload_n C0 (pc' := 7) 3 rfl rfl dL_hops_6 rfl ?_
  refine v_iload C0 (pc' := 9) 4 rfl dL_hops_7 rfl ?_
  refine v_callVx_catch C0 (av := [.int a, .int b, .int c, .int d]) (rest := [.int 0, .ref o]) hK1 hA hEN hM (cwV 4 C0.2.2.2.2 gL_hops_X0_hops rfl rfl rfl (by decide +kernel) ⟨Nat.le_of_ble_eq_true rfl, Nat.le_of_ble_eq_true rfl⟩) ⟨1, 0, _, _, _, rfl, gx1 hx⟩ (PLs.rt (P := [oC cJ o g])) rfl rfl (Nat.le_of_ble_eq_true rfl) ⟨Nat.le_of_ble_eq_true rfl, Nat.le_of_ble_eq_true rfl⟩ dL_hops_9 xIAE [] ⟨0, 14, 17, 13⟩ [] hT0 (fun z hz => absurd hz List.not_mem_nil) (by decide) (by decide) (C0.2.2.2.2 _ (List.mem_of_getElem? (i := 1) rfl)) (va_Nw.use rfl (hEN.2.2.2.1 _ List.mem_cons_self)) (fun q9 => ?_)
  refine v_astore C0 (lv' := [(6, .ref q9), (0, .ref (ad 0)), (1, .int a), (2, .int b), (3, .int c), (4, .int d), (5, .ref o)]) (pc' := 19) (by decide) rfl dL_hops_17 rfl ?_
  refine v_iconst C0 (pc' := 20) 1 (by decide) dL_hops_19 rfl ?_
  exact v_iret C0 hr hlk hK rfl dL_hops_20
theorem u_hops (l : Launch) (hst : l.stackTraces = false) (D : va_G) {cI cJ : ClassId} {ad bd : Nat → Nat} {wx wy : va_W} {t0 : Int32} (h : WP cI ad bd wx wy t0) (o : Nat) (g : Nat → Int64) (a b c d : Int32) : ∃ (wx' wy' : va_W) (r TH : Int32) (g' : Nat → Int64), WP cI ad bd wx' wy' TH ∧ Ki l yX1_hops wsX1_hops 3 71 0 0 D (TI cI) [.ref (bd 0), .int a, .int b, .int c, .int d] wy wy' r ∧ KE l yL_hops wsL_hops 9 163 D (TL cI cJ) [.ref (ad 0), .int a, .int b, .int c, .int d, .ref o] (oC cJ o g :: wx) (oC cJ o g' :: wx') TH ∧ (TH = 0 → g' (0 : Int32).toNatClampNeg = r.toInt64) := by
  obtain ⟨wx', wy', r, TH, hw, hy, hx⟩ := q_hops l hst D h a b c d
  rcases hx with ⟨rfl, k⟩ | ⟨rfl, rfl, k⟩
  · exact ⟨wx', wy', r, 0, _, hw, hy, w_hops_ok l o g a b c d h.x0 k, fun _ => pk_uLs⟩
  · exact ⟨_, wy', r, 1, g, hw, hy, w_hops_IAE l (wx' := []) (r := 0) o g a b c d h.x0 k, fun z => absurd z (by decide)⟩
set_option maxHeartbeats 1000000 in
set_option maxRecDepth 100000 in
theorem w_meet_ok (l : Launch) {D : va_G} {cI cJ : ClassId} {ad : Nat → Nat} {wx wx' : va_W} {r : Int32} (o : Nat) (g : Nat → Int64) (a b c d : Int32) (hx : ∃ fs, wx[0]? = some (ad 0, .inr (0, fs))) (hM : Ki l yX0_meet wsX0_meet 7 163 0 0 D (TI cI) [.ref (ad 0), .int a, .int b, .int c, .int d] wx wx' r) : KE l yL_meet wsL_meet 9 189 D (TL cI cJ) [.ref (ad 0), .int a, .int b, .int c, .int d, .ref o] (oC cJ o g :: wx) (oC cJ o (vp_updL g (0 : Int32).toNatClampNeg (lb r)) :: wx') 0 := by
  obtain ⟨fs, hx⟩ := hx
  refine KE.of (cc := cL_meet) (maxL := 7) (lv0 := [(0, .ref (ad 0)), (1, .int a), (2, .int b), (3, .int c), (4, .int d), (5, .ref o)]) (by decide +kernel) rfl (Nat.le_of_ble_eq_true rfl) rfl ?_
  intro p e s m args below meth c9 A C0 hT0 hr hlk hK hA hEN
  have hK1 : va_K D vwCl (TI cI) s := hK.sub [0] rfl
  refine v_aload C0 (pc' := 2) 5 rfl dL_meet_0 rfl ?_
  refine v_iconst C0 (pc' := 3) 0 (by decide) dL_meet_2 rfl ?_
  refine v_aload_n C0 (pc' := 4) 0 rfl rfl dL_meet_3 rfl ?_
  refine v_iload_n C0 (pc' := 5) 1 rfl rfl dL_meet_4 rfl ?_
  refine v_iload_n C0 (pc' := 6) 2 rfl rfl dL_meet_5 rfl ?_
  refine v_iload_n C0 (pc' := 7) 3 rfl rfl dL_meet_6 rfl ?_
  refine v_iload C0 (pc' := 9) 4 rfl dL_meet_7 rfl ?_
  refine v_callVi0 C0 (av := [.int a, .int b, .int c, .int d]) (rest := [.int 0, .ref o]) (ws' := oC cJ o g :: wx') (pc' := 12) hK1 hA hM (cwV 4 C0.2.2.2.2 gL_meet_X0_meet rfl rfl rfl (by decide +kernel) ⟨Nat.le_of_ble_eq_true rfl, Nat.le_of_ble_eq_true rfl⟩) ⟨1, 0, _, _, _, rfl, gx1 hx⟩ (PLs.rt (P := [oC cJ o g])) rfl rfl (Nat.le_of_ble_eq_true rfl) ⟨Nat.zero_le _, Nat.zero_le _⟩ dL_meet_9 rfl ?_
  refine v_lz C0 19 20 dL_meet_12 (by decide) dL_meet_15 dL_meet_16 (by decide) dL_meet_19 rfl ?_
  refine v_last C0 hK (ws' := oC cJ o (vp_updL g (0 : Int32).toNatClampNeg (lb r)) :: wx') (pc' := 21) 0 1 rfl rfl rfl vin01 dL_meet_20 rfl ?_
  refine v_goto C0 28 dL_meet_21 (by decide) ?_
  refine v_iconst C0 (pc' := 29) 0 (by decide) dL_meet_28 rfl ?_
  refine v_widen (k2 := 1) (n2 := 6) (Nat.le_of_ble_eq_true rfl) (Nat.le_of_ble_eq_true rfl) ?_
  exact v_iret C0 hr hlk hK rfl dL_meet_29
set_option maxHeartbeats 1000000 in
set_option maxRecDepth 100000 in
theorem w_meet_IAE (l : Launch) {D : va_G} {cI cJ : ClassId} {ad : Nat → Nat} {wx wx' : va_W} {r : Int32} (o : Nat) (g : Nat → Int64) (a b c d : Int32) (hx : ∃ fs, wx[0]? = some (ad 0, .inr (0, fs))) (hM : Kx l yX0_meet wsX0_meet 8 123 D (TI cI) [.ref (ad 0), .int a, .int b, .int c, .int d] wx xIAE) : KE l yL_meet wsL_meet 9 189 D (TL cI cJ) [.ref (ad 0), .int a, .int b, .int c, .int d, .ref o] (oC cJ o g :: wx) (oC cJ o g :: wx) 1 := by
  obtain ⟨fs, hx⟩ := hx
  refine KE.of (cc := cL_meet) (maxL := 7) (lv0 := [(0, .ref (ad 0)), (1, .int a), (2, .int b), (3, .int c), (4, .int d), (5, .ref o)]) (by decide +kernel) rfl (Nat.le_of_ble_eq_true rfl) rfl ?_
  intro p e s m args below meth c9 A C0 hT0 hr hlk hK hA hEN
  have hK1 : va_K D vwCl (TI cI) s := hK.sub [0] rfl
  refine v_aload C0 (pc' := 2) 5 rfl dL_meet_0 rfl ?_
  refine v_iconst C0 (pc' := 3) 0 (by decide) dL_meet_2 rfl ?_
  refine v_aload_n C0 (pc' := 4) 0 rfl rfl dL_meet_3 rfl ?_
  refine v_iload_n C0 (pc' := 5) 1 rfl rfl dL_meet_4 rfl ?_
  refine v_iload_n C0 (pc' := 6) 2 rfl rfl dL_meet_5 rfl ?_
  refine v_iload_n C0 (pc' := 7) 3 rfl rfl dL_meet_6 rfl ?_
  refine v_iload C0 (pc' := 9) 4 rfl dL_meet_7 rfl ?_
  refine v_callVx_catch C0 (av := [.int a, .int b, .int c, .int d]) (rest := [.int 0, .ref o]) hK1 hA hEN hM (cwV 4 C0.2.2.2.2 gL_meet_X0_meet rfl rfl rfl (by decide +kernel) ⟨Nat.le_of_ble_eq_true rfl, Nat.le_of_ble_eq_true rfl⟩) ⟨1, 0, _, _, _, rfl, gx1 hx⟩ (PLs.rt (P := [oC cJ o g])) rfl rfl (Nat.le_of_ble_eq_true rfl) ⟨Nat.le_of_ble_eq_true rfl, Nat.le_of_ble_eq_true rfl⟩ dL_meet_9 xIAE [] ⟨0, 21, 24, 13⟩ [] hT0 (fun z hz => absurd hz List.not_mem_nil) (by decide) (by decide) (C0.2.2.2.2 _ (List.mem_of_getElem? (i := 1) rfl)) (va_Nw.use rfl (hEN.2.2.2.1 _ List.mem_cons_self)) (fun q9 => ?_)
  refine v_astore C0 (lv' := [(6, .ref q9), (0, .ref (ad 0)), (1, .int a), (2, .int b), (3, .int c), (4, .int d), (5, .ref o)]) (pc' := 26) (by decide) rfl dL_meet_24 rfl ?_
  refine v_iconst C0 (pc' := 27) 1 (by decide) dL_meet_26 rfl ?_
  exact v_iret C0 hr hlk hK rfl dL_meet_27
theorem u_meet (l : Launch) (hst : l.stackTraces = false) (D : va_G) {cI cJ : ClassId} {ad bd : Nat → Nat} {wx wy : va_W} {t0 : Int32} (h : WP cI ad bd wx wy t0) (o : Nat) (g : Nat → Int64) (a b c d : Int32) : ∃ (wx' wy' : va_W) (r TH : Int32) (g' : Nat → Int64), WP cI ad bd wx' wy' TH ∧ Ki l yX1_meet wsX1_meet 3 71 0 0 D (TI cI) [.ref (bd 0), .int a, .int b, .int c, .int d] wy wy' r ∧ KE l yL_meet wsL_meet 9 189 D (TL cI cJ) [.ref (ad 0), .int a, .int b, .int c, .int d, .ref o] (oC cJ o g :: wx) (oC cJ o g' :: wx') TH ∧ (TH = 0 → g' (0 : Int32).toNatClampNeg = lb r) := by
  obtain ⟨wx', wy', r, TH, hw, hy, hx⟩ := q_meet l hst D h a b c d
  rcases hx with ⟨rfl, k⟩ | ⟨rfl, rfl, k⟩
  · exact ⟨wx', wy', r, 0, _, hw, hy, w_meet_ok l o g a b c d h.x0 k, fun _ => pk_uLs⟩
  · exact ⟨_, wy', r, 1, g, hw, hy, w_meet_IAE l (wx' := []) (r := 0) o g a b c d h.x0 k, fun z => absurd z (by decide)⟩
set_option maxHeartbeats 1000000 in
set_option maxRecDepth 100000 in
theorem w_joined_ok (l : Launch) {D : va_G} {cI cJ : ClassId} {ad : Nat → Nat} {wx wx' : va_W} {r : Int32} (o : Nat) (g : Nat → Int64) (a b : Int32) (hx : ∃ fs, wx[0]? = some (ad 0, .inr (0, fs))) (hM : Ki l yX0_joined wsX0_joined 6 137 0 0 D (TI cI) [.ref (ad 0), .int a, .int b] wx wx' r) : KE l yL_joined wsL_joined 9 160 D (TL cI cJ) [.ref (ad 0), .int a, .int b, .ref o] (oC cJ o g :: wx) (oC cJ o (vp_updL g (0 : Int32).toNatClampNeg (r.toInt64)) :: wx') 0 := by
  obtain ⟨fs, hx⟩ := hx
  refine KE.of (cc := cL_joined) (maxL := 5) (lv0 := [(0, .ref (ad 0)), (1, .int a), (2, .int b), (3, .ref o)]) (by decide +kernel) rfl (Nat.le_of_ble_eq_true rfl) rfl ?_
  intro p e s m args below meth c9 A C0 hT0 hr hlk hK hA hEN
  have hK1 : va_K D vwCl (TI cI) s := hK.sub [0] rfl
  refine v_aload_n C0 (pc' := 1) 3 rfl rfl dL_joined_0 rfl ?_
  refine v_iconst C0 (pc' := 2) 0 (by decide) dL_joined_1 rfl ?_
  refine v_aload_n C0 (pc' := 3) 0 rfl rfl dL_joined_2 rfl ?_
  refine v_iload_n C0 (pc' := 4) 1 rfl rfl dL_joined_3 rfl ?_
  refine v_iload_n C0 (pc' := 5) 2 rfl rfl dL_joined_4 rfl ?_
  refine v_callVi0 C0 (av := [.int a, .int b]) (rest := [.int 0, .ref o]) (ws' := oC cJ o g :: wx') (pc' := 8) hK1 hA hM (cwV 2 C0.2.2.2.2 gL_joined_X0_joined rfl rfl rfl (by decide +kernel) ⟨Nat.le_of_ble_eq_true rfl, Nat.le_of_ble_eq_true rfl⟩) ⟨1, 0, _, _, _, rfl, gx1 hx⟩ (PLs.rt (P := [oC cJ o g])) rfl rfl (Nat.le_of_ble_eq_true rfl) ⟨Nat.zero_le _, Nat.zero_le _⟩ dL_joined_5 rfl ?_
  refine v_i2l C0 (pc' := 9) dL_joined_8 rfl ?_
  refine v_last C0 hK (ws' := oC cJ o (vp_updL g (0 : Int32).toNatClampNeg (r.toInt64)) :: wx') (pc' := 10) 0 1 rfl rfl rfl vin01 dL_joined_9 rfl ?_
  refine v_goto C0 17 dL_joined_10 (by decide) ?_
  refine v_iconst C0 (pc' := 18) 0 (by decide) dL_joined_17 rfl ?_
  refine v_widen (k2 := 1) (n2 := 6) (Nat.le_of_ble_eq_true rfl) (Nat.le_of_ble_eq_true rfl) ?_
  exact v_iret C0 hr hlk hK rfl dL_joined_18
set_option maxHeartbeats 1000000 in
set_option maxRecDepth 100000 in
theorem w_joined_IAE (l : Launch) {D : va_G} {cI cJ : ClassId} {ad : Nat → Nat} {wx wx' : va_W} {r : Int32} (o : Nat) (g : Nat → Int64) (a b : Int32) (hx : ∃ fs, wx[0]? = some (ad 0, .inr (0, fs))) (hM : Kx l yX0_joined wsX0_joined 8 123 D (TI cI) [.ref (ad 0), .int a, .int b] wx xIAE) : KE l yL_joined wsL_joined 9 160 D (TL cI cJ) [.ref (ad 0), .int a, .int b, .ref o] (oC cJ o g :: wx) (oC cJ o g :: wx) 1 := by
  obtain ⟨fs, hx⟩ := hx
  refine KE.of (cc := cL_joined) (maxL := 5) (lv0 := [(0, .ref (ad 0)), (1, .int a), (2, .int b), (3, .ref o)]) (by decide +kernel) rfl (Nat.le_of_ble_eq_true rfl) rfl ?_
  intro p e s m args below meth c9 A C0 hT0 hr hlk hK hA hEN
  have hK1 : va_K D vwCl (TI cI) s := hK.sub [0] rfl
  refine v_aload_n C0 (pc' := 1) 3 rfl rfl dL_joined_0 rfl ?_
  refine v_iconst C0 (pc' := 2) 0 (by decide) dL_joined_1 rfl ?_
  refine v_aload_n C0 (pc' := 3) 0 rfl rfl dL_joined_2 rfl ?_
  refine v_iload_n C0 (pc' := 4) 1 rfl rfl dL_joined_3 rfl ?_
  refine v_iload_n C0 (pc' := 5) 2 rfl rfl dL_joined_4 rfl ?_
  refine v_callVx_catch C0 (av := [.int a, .int b]) (rest := [.int 0, .ref o]) hK1 hA hEN hM (cwV 2 C0.2.2.2.2 gL_joined_X0_joined rfl rfl rfl (by decide +kernel) ⟨Nat.le_of_ble_eq_true rfl, Nat.le_of_ble_eq_true rfl⟩) ⟨1, 0, _, _, _, rfl, gx1 hx⟩ (PLs.rt (P := [oC cJ o g])) rfl rfl (Nat.le_of_ble_eq_true rfl) ⟨Nat.le_of_ble_eq_true rfl, Nat.le_of_ble_eq_true rfl⟩ dL_joined_5 xIAE [] ⟨0, 10, 13, 13⟩ [] hT0 (fun z hz => absurd hz List.not_mem_nil) (by decide) (by decide) (C0.2.2.2.2 _ (List.mem_of_getElem? (i := 1) rfl)) (va_Nw.use rfl (hEN.2.2.2.1 _ List.mem_cons_self)) (fun q9 => ?_)
  refine v_astore C0 (lv' := [(4, .ref q9), (0, .ref (ad 0)), (1, .int a), (2, .int b), (3, .ref o)]) (pc' := 15) (by decide) rfl dL_joined_13 rfl ?_
  refine v_iconst C0 (pc' := 16) 1 (by decide) dL_joined_15 rfl ?_
  exact v_iret C0 hr hlk hK rfl dL_joined_16
theorem u_joined (l : Launch) (hst : l.stackTraces = false) (D : va_G) {cI cJ : ClassId} {ad bd : Nat → Nat} {wx wy : va_W} {t0 : Int32} (h : WP cI ad bd wx wy t0) (o : Nat) (g : Nat → Int64) (a b : Int32) : ∃ (wx' wy' : va_W) (r TH : Int32) (g' : Nat → Int64), WP cI ad bd wx' wy' TH ∧ Ki l yX1_joined wsX1_joined 3 71 0 0 D (TI cI) [.ref (bd 0), .int a, .int b] wy wy' r ∧ KE l yL_joined wsL_joined 9 160 D (TL cI cJ) [.ref (ad 0), .int a, .int b, .ref o] (oC cJ o g :: wx) (oC cJ o g' :: wx') TH ∧ (TH = 0 → g' (0 : Int32).toNatClampNeg = r.toInt64) := by
  obtain ⟨wx', wy', r, TH, hw, hy, hx⟩ := q_joined l hst D h a b
  rcases hx with ⟨rfl, k⟩ | ⟨rfl, rfl, k⟩
  · exact ⟨wx', wy', r, 0, _, hw, hy, w_joined_ok l o g a b h.x0 k, fun _ => pk_uLs⟩
  · exact ⟨_, wy', r, 1, g, hw, hy, w_joined_IAE l (wx' := []) (r := 0) o g a b h.x0 k, fun z => absurd z (by decide)⟩
set_option maxHeartbeats 1000000 in
set_option maxRecDepth 100000 in
theorem w_changes_ok (l : Launch) {D : va_G} {cI cJ : ClassId} {ad : Nat → Nat} {wx wx' : va_W} {r : Int32} (o : Nat) (g : Nat → Int64) (a b c d : Int32) (hx : ∃ fs, wx[0]? = some (ad 0, .inr (0, fs))) (hM : Ki l yX0_changes wsX0_changes 3 72 0 0 D (TI cI) [.ref (ad 0), .int a, .int b, .int c, .int d] wx wx' r) : KE l yL_changes wsL_changes 9 150 D (TL cI cJ) [.ref (ad 0), .int a, .int b, .int c, .int d, .ref o] (oC cJ o g :: wx) (oC cJ o (vp_updL g (0 : Int32).toNatClampNeg (r.toInt64)) :: wx') 0 := by
  obtain ⟨fs, hx⟩ := hx
  refine KE.of (cc := cL_changes) (maxL := 7) (lv0 := [(0, .ref (ad 0)), (1, .int a), (2, .int b), (3, .int c), (4, .int d), (5, .ref o)]) (by decide +kernel) rfl (Nat.le_of_ble_eq_true rfl) rfl ?_
  intro p e s m args below meth c9 A C0 hT0 hr hlk hK hA hEN
  have hK1 : va_K D vwCl (TI cI) s := hK.sub [0] rfl
  refine v_aload C0 (pc' := 2) 5 rfl dL_changes_0 rfl ?_
  refine v_iconst C0 (pc' := 3) 0 (by decide) dL_changes_2 rfl ?_
  refine v_aload_n C0 (pc' := 4) 0 rfl rfl dL_changes_3 rfl ?_
  refine v_iload_n C0 (pc' := 5) 1 rfl rfl dL_changes_4 rfl ?_
  refine v_iload_n C0 (pc' := 6) 2 rfl rfl dL_changes_5 rfl ?_
  refine v_iload_n C0 (pc' := 7) 3 rfl rfl dL_changes_6 rfl ?_
  refine v_iload C0 (pc' := 9) 4 rfl dL_changes_7 rfl ?_
  refine v_callVi0 C0 (av := [.int a, .int b, .int c, .int d]) (rest := [.int 0, .ref o]) (ws' := oC cJ o g :: wx') (pc' := 12) hK1 hA hM (cwV 4 C0.2.2.2.2 gL_changes_X0_changes rfl rfl rfl (by decide +kernel) ⟨Nat.le_of_ble_eq_true rfl, Nat.le_of_ble_eq_true rfl⟩) ⟨1, 0, _, _, _, rfl, gx1 hx⟩ (PLs.rt (P := [oC cJ o g])) rfl rfl (Nat.le_of_ble_eq_true rfl) ⟨Nat.zero_le _, Nat.zero_le _⟩ dL_changes_9 rfl ?_
  refine v_i2l C0 (pc' := 13) dL_changes_12 rfl ?_
  refine v_last C0 hK (ws' := oC cJ o (vp_updL g (0 : Int32).toNatClampNeg (r.toInt64)) :: wx') (pc' := 14) 0 1 rfl rfl rfl vin01 dL_changes_13 rfl ?_
  refine v_goto C0 21 dL_changes_14 (by decide) ?_
  refine v_iconst C0 (pc' := 22) 0 (by decide) dL_changes_21 rfl ?_
  refine v_widen (k2 := 1) (n2 := 6) (Nat.le_of_ble_eq_true rfl) (Nat.le_of_ble_eq_true rfl) ?_
  exact v_iret C0 hr hlk hK rfl dL_changes_22
set_option maxHeartbeats 1000000 in
set_option maxRecDepth 100000 in
theorem w_changes_IAE (l : Launch) {D : va_G} {cI cJ : ClassId} {ad : Nat → Nat} {wx wx' : va_W} {r : Int32} (o : Nat) (g : Nat → Int64) (a b c d : Int32) (hx : ∃ fs, wx[0]? = some (ad 0, .inr (0, fs))) (hM : Kx l yX0_changes wsX0_changes 8 123 D (TI cI) [.ref (ad 0), .int a, .int b, .int c, .int d] wx xIAE) : KE l yL_changes wsL_changes 9 150 D (TL cI cJ) [.ref (ad 0), .int a, .int b, .int c, .int d, .ref o] (oC cJ o g :: wx) (oC cJ o g :: wx) 1 := by
  obtain ⟨fs, hx⟩ := hx
  refine KE.of (cc := cL_changes) (maxL := 7) (lv0 := [(0, .ref (ad 0)), (1, .int a), (2, .int b), (3, .int c), (4, .int d), (5, .ref o)]) (by decide +kernel) rfl (Nat.le_of_ble_eq_true rfl) rfl ?_
  intro p e s m args below meth c9 A C0 hT0 hr hlk hK hA hEN
  have hK1 : va_K D vwCl (TI cI) s := hK.sub [0] rfl
  refine v_aload C0 (pc' := 2) 5 rfl dL_changes_0 rfl ?_
  refine v_iconst C0 (pc' := 3) 0 (by decide) dL_changes_2 rfl ?_
  refine v_aload_n C0 (pc' := 4) 0 rfl rfl dL_changes_3 rfl ?_
  refine v_iload_n C0 (pc' := 5) 1 rfl rfl dL_changes_4 rfl ?_
  refine v_iload_n C0 (pc' := 6) 2 rfl rfl dL_changes_5 rfl ?_
  refine v_iload_n C0 (pc' := 7) 3 rfl rfl dL_changes_6 rfl ?_
  refine v_iload C0 (pc' := 9) 4 rfl dL_changes_7 rfl ?_
  refine v_callVx_catch C0 (av := [.int a, .int b, .int c, .int d]) (rest := [.int 0, .ref o]) hK1 hA hEN hM (cwV 4 C0.2.2.2.2 gL_changes_X0_changes rfl rfl rfl (by decide +kernel) ⟨Nat.le_of_ble_eq_true rfl, Nat.le_of_ble_eq_true rfl⟩) ⟨1, 0, _, _, _, rfl, gx1 hx⟩ (PLs.rt (P := [oC cJ o g])) rfl rfl (Nat.le_of_ble_eq_true rfl) ⟨Nat.le_of_ble_eq_true rfl, Nat.le_of_ble_eq_true rfl⟩ dL_changes_9 xIAE [] ⟨0, 14, 17, 13⟩ [] hT0 (fun z hz => absurd hz List.not_mem_nil) (by decide) (by decide) (C0.2.2.2.2 _ (List.mem_of_getElem? (i := 1) rfl)) (va_Nw.use rfl (hEN.2.2.2.1 _ List.mem_cons_self)) (fun q9 => ?_)
  refine v_astore C0 (lv' := [(6, .ref q9), (0, .ref (ad 0)), (1, .int a), (2, .int b), (3, .int c), (4, .int d), (5, .ref o)]) (pc' := 19) (by decide) rfl dL_changes_17 rfl ?_
  refine v_iconst C0 (pc' := 20) 1 (by decide) dL_changes_19 rfl ?_
  exact v_iret C0 hr hlk hK rfl dL_changes_20
theorem u_changes (l : Launch) (hst : l.stackTraces = false) (D : va_G) {cI cJ : ClassId} {ad bd : Nat → Nat} {wx wy : va_W} {t0 : Int32} (h : WP cI ad bd wx wy t0) (o : Nat) (g : Nat → Int64) (a b c d : Int32) : ∃ (wx' wy' : va_W) (r TH : Int32) (g' : Nat → Int64), WP cI ad bd wx' wy' TH ∧ Ki l yX1_changes wsX1_changes 2 45 0 0 D (TI cI) [.ref (bd 0), .int a, .int b, .int c, .int d] wy wy' r ∧ KE l yL_changes wsL_changes 9 150 D (TL cI cJ) [.ref (ad 0), .int a, .int b, .int c, .int d, .ref o] (oC cJ o g :: wx) (oC cJ o g' :: wx') TH ∧ (TH = 0 → g' (0 : Int32).toNatClampNeg = r.toInt64) := by
  obtain ⟨wx', wy', r, TH, hw, hy, hx⟩ := q_changes l hst D h a b c d
  rcases hx with ⟨rfl, k⟩ | ⟨rfl, rfl, k⟩
  · exact ⟨wx', wy', r, 0, _, hw, hy, w_changes_ok l o g a b c d h.x0 k, fun _ => pk_uLs⟩
  · exact ⟨_, wy', r, 1, g, hw, hy, w_changes_IAE l (wx' := []) (r := 0) o g a b c d h.x0 k, fun z => absurd z (by decide)⟩
