/-! the law's loop: a call a round -/
theorem lim6 {L i : Nat} (hL : L ≤ 3072) (hi : i ≤ 6000) : nI L - 6 < nI i ↔ L < i + 6 := by
  rw [Int32.lt_iff_toInt_lt, show (6 : Int32) = nI 6 from rfl, pk_sub_toInt (by omega) (by decide), nI_toInt (by omega)]
  omega
set_option maxHeartbeats 2000000 in
set_option maxRecDepth 100000 in
theorem law_step {p : Program} {l : Launch} {e : Env} {s : State} {m : MethodId} {args : Array Value} {below : List Frame} {meth : Method} {c : Code} {D : va_G} {A : Nat → Prop} {k n : Nat} {Q : State → Prop} {cI cJ : ClassId} {ad bd : Nat → Nat} {b L o i : Nat} {xs : Nat → Int32} {wx wy : va_W} {t0 : Int32} {g : Nat → Int64} (h0 : LH p l m c s args D A cI cJ b L xs) (h : WP cI ad bd wx wy t0) (hi : i + 5 < L) (hk : k + 1 ≤ 1059) (hn : n + 6 ≤ 9105) (kk : ∀ (wx' wy' : va_W) (t' : Int32) (g' : Nat → Int64), WP cI ad bd wx' wy' t' → V p l e room_1 s m args below meth c D A 7 (k + 1) (n + 6) Q (oC cJ o g' :: (wx' ++ wy')) [(4, .int (nI i)), (3, .ref o), (2, .ref (bd 0)), (1, .ref (ad 0)), (0, .ref b)] 1492 []) : V p l e room_1 s m args below meth c D A 7 k n Q (oC cJ o g :: (wx ++ wy)) [(4, .int (nI i)), (3, .ref o), (2, .ref (bd 0)), (1, .ref (ad 0)), (0, .ref b)] 33 [] := by
  obtain ⟨C0, hst, hK, hA, hEN, hX, hbl, hbA, hL⟩ := id h0
  refine v_aload_n C0 (pc' := 34) 4 rfl rfl dL_law_33 rfl ?_
  refine v_iload C0 (pc' := 36) 0 rfl dL_law_34 rfl ?_
  refine v_sld C0 hX hbl hbA (pc' := 37) (vp_in_nI (by omega) (by omega)) dL_law_36 rfl ?_
  refine v_bipush C0 (pc' := 39) 31 (by decide) dL_law_37 rfl ?_
  refine v_iand C0 (pc' := 40) dL_law_39 rfl ?_
  obtain ⟨t, ht, et⟩ := pk_andE (xs (nI i).toNatClampNeg) (m := 31) 5 (by decide)
  refine v_eqi et ?_
  rcases (show t = 0 ∨ t = 1 ∨ t = 2 ∨ t = 3 ∨ t = 4 ∨ t = 5 ∨ t = 6 ∨ t = 7 ∨ t = 8 ∨ t = 9 ∨ t = 10 ∨ t = 11 ∨ t = 12 ∨ t = 13 ∨ t = 14 ∨ t = 15 ∨ t = 16 ∨ t = 17 ∨ t = 18 ∨ t = 19 ∨ 20 ≤ t by omega) with rfl | rfl | rfl | rfl | rfl | rfl | rfl | rfl | rfl | rfl | rfl | rfl | rfl | rfl | rfl | rfl | rfl | rfl | rfl | rfl | hd
  · exact v_tableIn C0 (off := 96) 136 dL_law_40 (by decide) (by decide) (by decide +kernel) (by decide) (law_untag h0 h hi hk hn kk)
  · exact v_tableIn C0 (off := 176) 216 dL_law_40 (by decide) (by decide) (by decide +kernel) (by decide) (law_tag h0 h hi hk hn kk)
  · exact v_tableIn C0 (off := 291) 331 dL_law_40 (by decide) (by decide) (by decide +kernel) (by decide) (law_cable h0 h hi hk hn kk)
  · exact v_tableIn C0 (off := 395) 435 dL_law_40 (by decide) (by decide) (by decide +kernel) (by decide) (law_pull h0 h hi hk hn kk)
  · exact v_tableIn C0 (off := 463) 503 dL_law_40 (by decide) (by decide) (by decide +kernel) (by decide) (law_tree h0 h hi hk hn kk)
  · exact v_tableIn C0 (off := 504) 544 dL_law_40 (by decide) (by decide) (by decide +kernel) (by decide) (law_note h0 h hi hk hn kk)
  · exact v_tableIn C0 (off := 603) 643 dL_law_40 (by decide) (by decide) (by decide +kernel) (by decide) (law_far h0 h hi hk hn kk)
  · exact v_tableIn C0 (off := 671) 711 dL_law_40 (by decide) (by decide) (by decide +kernel) (by decide) (law_isOn h0 h hi hk hn kk)
  · exact v_tableIn C0 (off := 746) 786 dL_law_40 (by decide) (by decide) (by decide +kernel) (by decide) (law_comesAs h0 h hi hk hn kk)
  · exact v_tableIn C0 (off := 826) 866 dL_law_40 (by decide) (by decide) (by decide +kernel) (by decide) (law_oneSided h0 h hi hk hn kk)
  · exact v_tableIn C0 (off := 894) 934 dL_law_40 (by decide) (by decide) (by decide +kernel) (by decide) (law_wrong h0 h hi hk hn kk)
  · exact v_tableIn C0 (off := 907) 947 dL_law_40 (by decide) (by decide) (by decide +kernel) (by decide) (law_root h0 h hi hk hn kk)
  · exact v_tableIn C0 (off := 963) 1003 dL_law_40 (by decide) (by decide) (by decide +kernel) (by decide) (law_costOf h0 h hi hk hn kk)
  · exact v_tableIn C0 (off := 1019) 1059 dL_law_40 (by decide) (by decide) (by decide +kernel) (by decide) (law_wayUp h0 h hi hk hn kk)
  · exact v_tableIn C0 (off := 1075) 1115 dL_law_40 (by decide) (by decide) (by decide +kernel) (by decide) (law_hops h0 h hi hk hn kk)
  · exact v_tableIn C0 (off := 1167) 1207 dL_law_40 (by decide) (by decide) (by decide +kernel) (by decide) (law_meet h0 h hi hk hn kk)
  · exact v_tableIn C0 (off := 1266) 1306 dL_law_40 (by decide) (by decide) (by decide +kernel) (by decide) (law_joined h0 h hi hk hn kk)
  · exact v_tableIn C0 (off := 1334) 1374 dL_law_40 (by decide) (by decide) (by decide +kernel) (by decide) (law_islands h0 h hi hk hn kk)
  · exact v_tableIn C0 (off := 1347) 1387 dL_law_40 (by decide) (by decide) (by decide +kernel) (by decide) (law_loops h0 h hi hk hn kk)
  · exact v_tableIn C0 (off := 1360) 1400 dL_law_40 (by decide) (by decide) (by decide +kernel) (by decide) (law_changes h0 h hi hk hn kk)
  · refine v_tableOut C0 1492 dL_law_40 (Or.inr ?_) (by decide) ?_
    · rw [nI_toInt (by omega)]; omega
    · refine v_widen (k2 := k + 1) (n2 := n + 6) (Nat.le_succ _) (Nat.le_add_right _ 6) ?_
      exact kk wx wy t0 g h
set_option maxHeartbeats 2000000 in
set_option maxRecDepth 100000 in
theorem law_loop {p : Program} {l : Launch} {e : Env} {s : State} {m : MethodId} {args : Array Value} {below : List Frame} {meth : Method} {c : Code} {D : va_G} {A : Nat → Prop} {Q : State → Prop} {cI cJ : ClassId} {ad bd : Nat → Nat} {b L o : Nat} {xs : Nat → Int32} (h0 : LH p l m c s args D A cI cJ b L xs) (hend : ∀ (k n : Nat) (ws : va_W) (lw : List (Nat × Value)), k ≤ 1059 → n ≤ 9105 → V p l e room_1 s m args below meth c D A 7 k n Q ws lw 1498 []) : ∀ (f i k n : Nat) (wx wy : va_W) (t0 : Int32) (g : Nat → Int64), WP cI ad bd wx wy t0 → L < i + 6 * f + 6 → k + f ≤ 1059 → n + 6 * f ≤ 9105 → i ≤ 3072 → V p l e room_1 s m args below meth c D A 7 k n Q (oC cJ o g :: (wx ++ wy)) [(4, .int (nI i)), (3, .ref o), (2, .ref (bd 0)), (1, .ref (ad 0)), (0, .ref b)] 23 [] := by
  obtain ⟨C0, hst, hK, hA, hEN, hX, hbl, hbA, hL⟩ := id h0
  intro f
  induction f with
  | zero =>
    intro i k n wx wy t0 g h hl hk hn hi
    refine v_iload C0 (pc' := 25) 0 rfl dL_law_23 rfl ?_
    refine v_aload_n C0 (pc' := 26) 4 rfl rfl dL_law_25 rfl ?_
    refine v_slen C0 hX hbl hbA (pc' := 27) dL_law_26 rfl ?_
    refine v_bipush C0 (pc' := 29) 6 (by decide) dL_law_27 rfl ?_
    refine v_isub C0 (pc' := 30) dL_law_29 rfl ?_
    exact v_icmp_gt C0 1498 (pc' := 33) dL_law_30 (by decide) rfl (fun _ => hend _ _ _ _ (by omega) (by omega)) (fun z => absurd ((lim6 hL (by omega)).mpr (by omega)) z)
  | succ f ih =>
    intro i k n wx wy t0 g h hl hk hn hi
    refine v_iload C0 (pc' := 25) 0 rfl dL_law_23 rfl ?_
    refine v_aload_n C0 (pc' := 26) 4 rfl rfl dL_law_25 rfl ?_
    refine v_slen C0 hX hbl hbA (pc' := 27) dL_law_26 rfl ?_
    refine v_bipush C0 (pc' := 29) 6 (by decide) dL_law_27 rfl ?_
    refine v_isub C0 (pc' := 30) dL_law_29 rfl ?_
    by_cases hq : i + 5 < L
    · refine v_icmp_gt C0 1498 (pc' := 33) dL_law_30 (by decide) rfl (fun z => absurd ((lim6 hL (by omega)).mp z) (by omega)) (fun _ => ?_)
      refine law_step h0 h hq (by omega) (by omega) (fun wx' wy' t' g' h' => ?_)
      refine v_iinc C0 (lv' := [(4, .int (nI (i + 6))), (3, .ref o), (2, .ref (bd 0)), (1, .ref (ad 0)), (0, .ref b)]) (pc' := 1495) 0 rfl (nI (i + 6)) (show nI i + Int32.ofInt 6 = nI (i + 6) from nI_add i 6) (by decide) rfl dL_law_1492 rfl ?_
      refine v_goto C0 23 dL_law_1495 (by decide) ?_
      exact ih (i + 6) (k + 1) (n + 6) wx' wy' t' g' h' (by omega) (by omega) (by omega) (by omega)
    · exact v_icmp_gt C0 1498 (pc' := 33) dL_law_30 (by decide) rfl (fun _ => hend _ _ _ _ (by omega) (by omega)) (fun z => absurd ((lim6 hL (by omega)).mpr (by omega)) z)
theorem start_WP (cI : ClassId) (ad bd : Nat → Nat) : WP cI ad bd (wX cI ad (fun _ => 0) (fun _ => 0) (xFill (fun _ => 0) (-1) 36) (fun _ => 0) (xFill (fun _ => 0) (-1) 36) (s_X0_growTree_RU (xFill (fun _ => 0) (-1) 36) (fun _ => 0) (fun _ => 0)) (s_X0_growTree_RC (xFill (fun _ => 0) (-1) 36) (fun _ => 0) (fun _ => 0) (fun _ => 0) (fun _ => 0)) (s_X0_growTree_WU (xFill (fun _ => 0) (-1) 36) (fun _ => 0) (fun _ => 0) (fun _ => 0) (fun _ => 0) (fun _ => 0)) (fun _ => 0) (fun _ => 0) 0 (s_X0_growTree_WT (fun _ => 0)) (fun _ => 0) 0 0) (wY cI bd (fun _ => 0) (fun _ => 0) ((lp s_X1_init_L1 36 ((fun _ => 0), (fun _ => 0))).1) (fun _ => 0) ((lp s_X1_init_L1 36 ((fun _ => 0), (fun _ => 0))).2) 0 0 (fun _ => 0) (fun _ => 0) (fun _ => 0) 0 (fun _ => 0) (fun _ => 0) 0 (fun _ => 0)) 0 := by
  rw [start_rows 36 (Nat.le_refl 36)]
  exact WP.mk (start_IV (fun _ => 0) (fun _ => 0) (fun _ => 0) (fun _ => 0))
set_option maxHeartbeats 4000000 in
set_option maxRecDepth 100000 in
theorem law_start {p : Program} {l : Launch} {e : Env} {s : State} {m : MethodId} {args : Array Value} {below : List Frame} {meth : Method} {c : Code} {D : va_G} {A : Nat → Prop} {Q : State → Prop} {cI cJ : ClassId} {b L : Nat} {xs : Nat → Int32} (h0 : LH p l m c s args D A cI cJ b L xs) (hend : ∀ (k n : Nat) (ws : va_W) (lw : List (Nat × Value)), k ≤ 1059 → n ≤ 9105 → V p l e room_1 s m args below meth c D A 7 k n Q ws lw 1498 []) : V p l e room_1 s m args below meth c D A 7 0 0 Q [] [(0, .ref b)] 0 [] := by
  obtain ⟨C0, hst, hK, hA, hEN, hX, hbl, hbA, hL⟩ := id h0
  have hK1 : va_K D vwCl (TI cI) s := hK.sub [0] rfl
  refine v_new C0 hK hA (C := RX0) (T := TX0) (N := 15) (ci := 0) (fs := [.null, .null, .null, .null, .null, .null, .null, .null, .null, .null, .int 0, .null, .null, .int 0, .int 0]) (pc' := 3) inlX0 tyX0 tyX0_ok (List.mem_of_getElem? (i := 0) rfl) (List.mem_of_getElem? (i := 1) rfl) (List.mem_of_getElem? (i := 2) rfl) rfl (fun j hj => by rcases (show j = 0 ∨ j = 1 ∨ j = 2 ∨ j = 3 ∨ j = 4 ∨ j = 5 ∨ j = 6 ∨ j = 7 ∨ j = 8 ∨ j = 9 ∨ j = 10 ∨ j = 11 ∨ j = 12 ∨ j = 13 ∨ j = 14 by omega) with rfl | rfl | rfl | rfl | rfl | rfl | rfl | rfl | rfl | rfl | rfl | rfl | rfl | rfl | rfl <;> rfl) (Nat.le_of_ble_eq_true rfl) (Nat.le_of_ble_eq_true rfl) dL_law_0 rfl (fun q0 => ?_)
  refine v_dup C0 (pc' := 4) rfl dL_law_3 rfl ?_
  refine v_callC C0 (av := []) (rest := [.ref q0]) (W0 := [(q0, .inr (0, [.null, .null, .null, .null, .null, .null, .null, .null, .null, .null, .int 0, .null, .null, .int 0, .int 0]))]) (ws' := fun ad => wX cI ad (fun _ => 0) (fun _ => 0) (xFill (fun _ => 0) (-1) 36) (fun _ => 0) (xFill (fun _ => 0) (-1) 36) (s_X0_growTree_RU (xFill (fun _ => 0) (-1) 36) (fun _ => 0) (fun _ => 0)) (s_X0_growTree_RC (xFill (fun _ => 0) (-1) 36) (fun _ => 0) (fun _ => 0) (fun _ => 0) (fun _ => 0)) (s_X0_growTree_WU (xFill (fun _ => 0) (-1) 36) (fun _ => 0) (fun _ => 0) (fun _ => 0) (fun _ => 0) (fun _ => 0)) (fun _ => 0) (fun _ => 0) 0 (s_X0_growTree_WT (fun _ => 0)) (fun _ => 0) 0 0) (pc' := 7) hK1 hA (k_X0_init l D cI q0) (cwI 0 C0.2.2.2.2 gL_law_X0_init rfl rfl rfl (C0.2.2.2.2 _ (List.mem_of_getElem? (i := 2) rfl)) (C0.2.2.2.2 _ (List.mem_of_getElem? (i := 7) rfl)) (C0.2.2.2.2 _ (List.mem_of_getElem? (i := 8) rfl)) rfl (by decide +kernel) ⟨Nat.le_of_ble_eq_true rfl, Nat.le_of_ble_eq_true rfl⟩) (fun ad => PLs.all) rfl rfl (Nat.le_of_ble_eq_true rfl) ⟨Nat.le_of_ble_eq_true rfl, Nat.le_of_ble_eq_true rfl⟩ dL_law_4 rfl (fun ad had => ?_)
  have had : ad 0 = q0 := had
  subst had
  refine v_astore_n C0 (lv' := [(1, .ref (ad 0)), (0, .ref b)]) (pc' := 8) rfl (by decide) rfl dL_law_7 rfl ?_
  refine v_new C0 hK hA (C := RX1) (T := TX1) (N := 15) (ci := 1) (fs := [.null, .null, .null, .null, .null, .int 0, .int 0, .null, .null, .null, .int 0, .null, .null, .int 0, .null]) (pc' := 11) inlX1 tyX1 tyX1_ok (List.mem_of_getElem? (i := 3) rfl) (List.mem_of_getElem? (i := 4) rfl) (List.mem_of_getElem? (i := 5) rfl) rfl (fun j hj => by rcases (show j = 0 ∨ j = 1 ∨ j = 2 ∨ j = 3 ∨ j = 4 ∨ j = 5 ∨ j = 6 ∨ j = 7 ∨ j = 8 ∨ j = 9 ∨ j = 10 ∨ j = 11 ∨ j = 12 ∨ j = 13 ∨ j = 14 by omega) with rfl | rfl | rfl | rfl | rfl | rfl | rfl | rfl | rfl | rfl | rfl | rfl | rfl | rfl | rfl <;> rfl) (Nat.le_of_ble_eq_true rfl) (Nat.le_of_ble_eq_true rfl) dL_law_8 rfl (fun q1 => ?_)
  refine v_dup C0 (pc' := 12) rfl dL_law_11 rfl ?_
  refine v_callC C0 (av := []) (rest := [.ref q1]) (W0 := [(q1, .inr (1, [.null, .null, .null, .null, .null, .int 0, .int 0, .null, .null, .null, .int 0, .null, .null, .int 0, .null]))]) (ws' := fun bd => (wX cI ad (fun _ => 0) (fun _ => 0) (xFill (fun _ => 0) (-1) 36) (fun _ => 0) (xFill (fun _ => 0) (-1) 36) (s_X0_growTree_RU (xFill (fun _ => 0) (-1) 36) (fun _ => 0) (fun _ => 0)) (s_X0_growTree_RC (xFill (fun _ => 0) (-1) 36) (fun _ => 0) (fun _ => 0) (fun _ => 0) (fun _ => 0)) (s_X0_growTree_WU (xFill (fun _ => 0) (-1) 36) (fun _ => 0) (fun _ => 0) (fun _ => 0) (fun _ => 0) (fun _ => 0)) (fun _ => 0) (fun _ => 0) 0 (s_X0_growTree_WT (fun _ => 0)) (fun _ => 0) 0 0) ++ (wY cI bd (fun _ => 0) (fun _ => 0) ((lp s_X1_init_L1 36 ((fun _ => 0), (fun _ => 0))).1) (fun _ => 0) ((lp s_X1_init_L1 36 ((fun _ => 0), (fun _ => 0))).2) 0 0 (fun _ => 0) (fun _ => 0) (fun _ => 0) 0 (fun _ => 0) (fun _ => 0) 0 (fun _ => 0))) (pc' := 15) hK1 hA (k_X1_init l D cI q1) (cwI 0 C0.2.2.2.2 gL_law_X1_init rfl rfl rfl (C0.2.2.2.2 _ (List.mem_of_getElem? (i := 5) rfl)) (C0.2.2.2.2 _ (List.mem_of_getElem? (i := 60) rfl)) (C0.2.2.2.2 _ (List.mem_of_getElem? (i := 61) rfl)) rfl (by decide +kernel) ⟨Nat.le_of_ble_eq_true rfl, Nat.le_of_ble_eq_true rfl⟩) (fun bd => PLs.rt) rfl rfl (Nat.le_of_ble_eq_true rfl) ⟨Nat.le_of_ble_eq_true rfl, Nat.le_of_ble_eq_true rfl⟩ dL_law_12 rfl (fun bd hbd => ?_)
  have hbd : bd 0 = q1 := hbd
  subst hbd
  refine v_astore_n C0 (lv' := [(2, .ref (bd 0)), (1, .ref (ad 0)), (0, .ref b)]) (pc' := 16) rfl (by decide) rfl dL_law_15 rfl ?_
  refine v_iconst C0 (pc' := 17) 1 (by decide) dL_law_16 rfl ?_
  refine v_newaL C0 hK hA 1 rfl (N := 1) (pc' := 19) (by decide) (by decide +kernel) (Nat.le_of_ble_eq_true rfl) (Nat.le_of_ble_eq_true rfl) (Nat.le_of_ble_eq_true rfl) (List.mem_of_getElem? (i := 6) rfl) dL_law_17 rfl (fun o => ?_)
  refine v_astore_n C0 (lv' := [(3, .ref o), (2, .ref (bd 0)), (1, .ref (ad 0)), (0, .ref b)]) (pc' := 20) rfl (by decide) rfl dL_law_19 rfl ?_
  refine v_iconst C0 (pc' := 21) (nI 0) (by decide) dL_law_20 rfl ?_
  refine v_istore C0 (lv' := [(4, .int (nI 0)), (3, .ref o), (2, .ref (bd 0)), (1, .ref (ad 0)), (0, .ref b)]) (pc' := 23) (by decide) rfl dL_law_21 rfl ?_
  refine v_front ?_
  exact law_loop h0 hend 512 0 _ _ _ _ 0 _ (start_WP cI ad bd) (by omega) (Nat.le_of_ble_eq_true rfl) (Nat.le_of_ble_eq_true rfl) (Nat.zero_le _)
