/-! the law's cases, 2 -/
set_option maxHeartbeats 2000000 in
set_option maxRecDepth 100000 in
theorem law_wrong {p : Program} {l : Launch} {e : Env} {s : State} {m : MethodId} {args : Array Value} {below : List Frame} {meth : Method} {c : Code} {D : va_G} {A : Nat → Prop} {k n : Nat} {Q : State → Prop} {cI cJ : ClassId} {ad bd : Nat → Nat} {b L o i : Nat} {xs : Nat → Int32} {wx wy : va_W} {t0 : Int32} {g : Nat → Int64} (h0 : LH p l m c s args D A cI cJ b L xs) (h : WP cI ad bd wx wy t0) (hi : i + 5 < L) (hk : k + 1 ≤ 1059) (hn : n + 6 ≤ 9105) (kk : ∀ (wx' wy' : va_W) (t' : Int32) (g' : Nat → Int64), WP cI ad bd wx' wy' t' → V p l e room_1 s m args below meth c D A 7 (k + 1) (n + 6) Q (oC cJ o g' :: (wx' ++ wy')) [(4, .int (nI i)), (3, .ref o), (2, .ref (bd 0)), (1, .ref (ad 0)), (0, .ref b)] 1492 []) : V p l e room_1 s m args below meth c D A 7 k n Q (oC cJ o g :: (wx ++ wy)) [(4, .int (nI i)), (3, .ref o), (2, .ref (bd 0)), (1, .ref (ad 0)), (0, .ref b)] 934 [] := by
  obtain ⟨C0, hst, hK, hA, hEN, hX, hbl, hbA, hL⟩ := h0
  have hK1 : va_K D vwCl (TI cI) s := hK.sub [0] rfl
  obtain ⟨fy, hy0⟩ := h.y0
  obtain ⟨wx', wy', r, hw, hy, hx⟩ := q_wrong l D h
  obtain ⟨fy1, hy1⟩ := hw.y0
  refine v_aload_n C0 (pc' := 935) 3 rfl rfl dL_law_934 rfl ?_
  obtain ⟨fx, hx0⟩ := h.x0
  refine v_callVi0 C0 (av := []) (rest := []) (ws' := oC cJ o g :: (wx' ++ wy)) (pc' := 938) hK1 hA hx (cwV 0 C0.2.2.2.2 gL_law_X0_wrong rfl rfl rfl (by decide +kernel) ⟨Nat.le_of_ble_eq_true rfl, Nat.le_of_ble_eq_true rfl⟩) ⟨1, 0, _, _, _, rfl, gx1 (ap_l hx0)⟩ (PLs.mid (P := [oC cJ o g])) rfl rfl (Nat.le_of_ble_eq_true rfl) ⟨Nat.le_trans (Nat.le_succ _) hk, Nat.le_trans (Nat.le_add_right _ 6) hn⟩ dL_law_935 rfl ?_
  refine v_aload_n C0 (pc' := 939) 2 rfl rfl dL_law_938 rfl ?_
  refine v_callVi0 C0 (av := []) (rest := [.int r]) (ws' := oC cJ o g :: (wx' ++ wy')) (pc' := 942) hK1 hA hy (cwV 0 C0.2.2.2.2 gL_law_X1_wrong rfl rfl rfl (by decide +kernel) ⟨Nat.le_of_ble_eq_true rfl, Nat.le_of_ble_eq_true rfl⟩) ⟨_, 1, _, _, _, rfl, ap_r (A := oC cJ o g :: wx') hy0⟩ (PLs.rt (P := oC cJ o g :: wx')) rfl rfl (Nat.le_of_ble_eq_true rfl) ⟨Nat.le_trans (Nat.le_succ _) hk, Nat.le_trans (Nat.le_add_right _ 6) hn⟩ dL_law_939 rfl ?_
  refine v_icmp_eq C0 1492 (pc' := 945) dL_law_942 (by decide) rfl (fun _ => ?_) (fun z => absurd rfl z)
  refine v_widen (k2 := k + 1) (n2 := n + 6) (Nat.le_succ _) (Nat.le_add_right _ 6) ?_
  exact kk wx' wy' 0 g hw
set_option maxHeartbeats 2000000 in
set_option maxRecDepth 100000 in
theorem law_root {p : Program} {l : Launch} {e : Env} {s : State} {m : MethodId} {args : Array Value} {below : List Frame} {meth : Method} {c : Code} {D : va_G} {A : Nat → Prop} {k n : Nat} {Q : State → Prop} {cI cJ : ClassId} {ad bd : Nat → Nat} {b L o i : Nat} {xs : Nat → Int32} {wx wy : va_W} {t0 : Int32} {g : Nat → Int64} (h0 : LH p l m c s args D A cI cJ b L xs) (h : WP cI ad bd wx wy t0) (hi : i + 5 < L) (hk : k + 1 ≤ 1059) (hn : n + 6 ≤ 9105) (kk : ∀ (wx' wy' : va_W) (t' : Int32) (g' : Nat → Int64), WP cI ad bd wx' wy' t' → V p l e room_1 s m args below meth c D A 7 (k + 1) (n + 6) Q (oC cJ o g' :: (wx' ++ wy')) [(4, .int (nI i)), (3, .ref o), (2, .ref (bd 0)), (1, .ref (ad 0)), (0, .ref b)] 1492 []) : V p l e room_1 s m args below meth c D A 7 k n Q (oC cJ o g :: (wx ++ wy)) [(4, .int (nI i)), (3, .ref o), (2, .ref (bd 0)), (1, .ref (ad 0)), (0, .ref b)] 947 [] := by
  obtain ⟨C0, hst, hK, hA, hEN, hX, hbl, hbA, hL⟩ := h0
  have hK1 : va_K D vwCl (TI cI) s := hK.sub [0] rfl
  obtain ⟨fy, hy0⟩ := h.y0
  obtain ⟨wx', wy', r, TH, g', hw, hy, hE, hg⟩ := u_root (cJ := cJ) l hst D h o g (xs (i + 1))
  obtain ⟨fy1, hy1⟩ := hw.y0
  refine v_aload_n C0 (pc' := 948) 3 rfl rfl dL_law_947 rfl ?_
  refine v_scr C0 hX hbl hbA (i := i) (a := 1) (pc' := 954) (by omega) hL (by decide) 4 0 rfl rfl dL_law_948 dL_law_949 dL_law_951 dL_law_952 dL_law_953 rfl ?_
  refine v_aload_n C0 (pc' := 955) 1 rfl rfl dL_law_954 rfl ?_
  refine v_callSE C0 (av := [.ref (ad 0), .int (xs (i + 1)), .ref o]) (rest := []) (ws' := oC cJ o g' :: (wx' ++ wy)) (pc' := 958) hK hA hEN hE (vx_cwSW 3 C0.2.2.2.2 gL_law_L_root rfl rfl rfl (by decide +kernel) ⟨Nat.le_of_ble_eq_true rfl, Nat.le_of_ble_eq_true rfl⟩) (PLs.lf (W0 := oC cJ o g :: wx) (W1 := oC cJ o g' :: wx') (R := wy)) rfl rfl (Nat.le_of_ble_eq_true rfl) ⟨hk, hn⟩ dL_law_955 rfl ?_
  refine v_istore C0 (lv' := [(5, .int TH), (4, .int (nI i)), (3, .ref o), (2, .ref (bd 0)), (1, .ref (ad 0)), (0, .ref b)]) (pc' := 960) (by decide) rfl dL_law_958 rfl ?_
  refine v_aload_n C0 (pc' := 961) 3 rfl rfl dL_law_960 rfl ?_
  refine v_scr C0 hX hbl hbA (i := i) (a := 1) (pc' := 967) (by omega) hL (by decide) 5 1 rfl rfl dL_law_961 dL_law_962 dL_law_964 dL_law_965 dL_law_966 rfl ?_
  refine v_callVi0 C0 (av := [.int (xs (i + 1))]) (rest := []) (ws' := oC cJ o g' :: (wx' ++ wy')) (pc' := 970) hK1 hA hy (cwV 1 C0.2.2.2.2 gL_law_X1_root rfl rfl rfl (by decide +kernel) ⟨Nat.le_of_ble_eq_true rfl, Nat.le_of_ble_eq_true rfl⟩) ⟨_, 1, _, _, _, rfl, ap_r (A := oC cJ o g' :: wx') hy0⟩ (PLs.rt (P := oC cJ o g' :: wx')) rfl rfl (Nat.le_of_ble_eq_true rfl) ⟨hk, hn⟩ dL_law_967 rfl ?_
  refine v_istore C0 (lv' := [(6, .int r), (5, .int TH), (4, .int (nI i)), (3, .ref o), (2, .ref (bd 0)), (1, .ref (ad 0)), (0, .ref b)]) (pc' := 972) (by decide) rfl dL_law_970 rfl ?_
  refine v_aload_n C0 (pc' := 973) 4 rfl rfl dL_law_972 rfl ?_
  refine v_callVi0 C0 (av := []) (rest := []) (ws' := oC cJ o g' :: (wx' ++ wy')) (pc' := 976) hK1 hA (hw.th l D) (cwV 0 C0.2.2.2.2 gL_law_X1_thrown rfl rfl rfl (by decide +kernel) ⟨Nat.le_of_ble_eq_true rfl, Nat.le_of_ble_eq_true rfl⟩) ⟨_, 1, _, _, _, rfl, ap_r (A := oC cJ o g' :: wx') hy1⟩ (PLs.rt (P := oC cJ o g' :: wx')) rfl rfl (Nat.le_of_ble_eq_true rfl) ⟨hk, hn⟩ dL_law_973 rfl ?_
  refine v_iload C0 (pc' := 978) 1 rfl dL_law_976 rfl ?_
  refine v_icmp_eq C0 983 (pc' := 981) dL_law_978 (by decide) rfl (fun _ => ?_) (fun z => absurd rfl z)
  refine v_iload C0 (pc' := 985) 1 rfl dL_law_983 rfl ?_
  refine v_if_ne C0 1000 (pc' := 988) dL_law_985 (by decide) rfl (fun z => ?_) (fun z => ?_)
  · refine v_goto C0 1492 dL_law_1000 (by decide) ?_
    exact v_sub (lv' := [(4, .int (nI i)), (3, .ref o), (2, .ref (bd 0)), (1, .ref (ad 0)), (0, .ref b)]) [2, 3, 4, 5, 6] rfl (kk wx' wy' TH g' hw)
  · have eg := hg z
    refine v_aload_n C0 (pc' := 989) 3 rfl rfl dL_law_988 rfl ?_
    refine v_iconst C0 (pc' := 990) 0 (by decide) dL_law_989 rfl ?_
    refine v_lald C0 hK (pc' := 991) 0 1 rfl rfl vin01 dL_law_990 rfl ?_
    refine v_iload C0 (pc' := 993) 0 rfl dL_law_991 rfl ?_
    refine v_i2l C0 (pc' := 994) dL_law_993 rfl ?_
    refine v_lcmp C0 (pc' := 995) dL_law_994 rfl ?_
    refine v_if_eq C0 1000 (pc' := 998) dL_law_995 (by decide) rfl (fun _ => ?_) (fun z2 => absurd (by rw [eg]; exact lg_self _) z2)
    refine v_goto C0 1492 dL_law_1000 (by decide) ?_
    exact v_sub (lv' := [(4, .int (nI i)), (3, .ref o), (2, .ref (bd 0)), (1, .ref (ad 0)), (0, .ref b)]) [2, 3, 4, 5, 6] rfl (kk wx' wy' TH g' hw)
set_option maxHeartbeats 2000000 in
set_option maxRecDepth 100000 in
theorem law_costOf {p : Program} {l : Launch} {e : Env} {s : State} {m : MethodId} {args : Array Value} {below : List Frame} {meth : Method} {c : Code} {D : va_G} {A : Nat → Prop} {k n : Nat} {Q : State → Prop} {cI cJ : ClassId} {ad bd : Nat → Nat} {b L o i : Nat} {xs : Nat → Int32} {wx wy : va_W} {t0 : Int32} {g : Nat → Int64} (h0 : LH p l m c s args D A cI cJ b L xs) (h : WP cI ad bd wx wy t0) (hi : i + 5 < L) (hk : k + 1 ≤ 1059) (hn : n + 6 ≤ 9105) (kk : ∀ (wx' wy' : va_W) (t' : Int32) (g' : Nat → Int64), WP cI ad bd wx' wy' t' → V p l e room_1 s m args below meth c D A 7 (k + 1) (n + 6) Q (oC cJ o g' :: (wx' ++ wy')) [(4, .int (nI i)), (3, .ref o), (2, .ref (bd 0)), (1, .ref (ad 0)), (0, .ref b)] 1492 []) : V p l e room_1 s m args below meth c D A 7 k n Q (oC cJ o g :: (wx ++ wy)) [(4, .int (nI i)), (3, .ref o), (2, .ref (bd 0)), (1, .ref (ad 0)), (0, .ref b)] 1003 [] := by
  obtain ⟨C0, hst, hK, hA, hEN, hX, hbl, hbA, hL⟩ := h0
  have hK1 : va_K D vwCl (TI cI) s := hK.sub [0] rfl
  obtain ⟨fy, hy0⟩ := h.y0
  obtain ⟨wx', wy', r, TH, g', hw, hy, hE, hg⟩ := u_costOf (cJ := cJ) l hst D h o g (xs (i + 1))
  obtain ⟨fy1, hy1⟩ := hw.y0
  refine v_aload_n C0 (pc' := 1004) 3 rfl rfl dL_law_1003 rfl ?_
  refine v_scr C0 hX hbl hbA (i := i) (a := 1) (pc' := 1010) (by omega) hL (by decide) 4 0 rfl rfl dL_law_1004 dL_law_1005 dL_law_1007 dL_law_1008 dL_law_1009 rfl ?_
  refine v_aload_n C0 (pc' := 1011) 1 rfl rfl dL_law_1010 rfl ?_
  refine v_callSE C0 (av := [.ref (ad 0), .int (xs (i + 1)), .ref o]) (rest := []) (ws' := oC cJ o g' :: (wx' ++ wy)) (pc' := 1014) hK hA hEN hE (vx_cwSW 3 C0.2.2.2.2 gL_law_L_costOf rfl rfl rfl (by decide +kernel) ⟨Nat.le_of_ble_eq_true rfl, Nat.le_of_ble_eq_true rfl⟩) (PLs.lf (W0 := oC cJ o g :: wx) (W1 := oC cJ o g' :: wx') (R := wy)) rfl rfl (Nat.le_of_ble_eq_true rfl) ⟨hk, hn⟩ dL_law_1011 rfl ?_
  refine v_istore C0 (lv' := [(5, .int TH), (4, .int (nI i)), (3, .ref o), (2, .ref (bd 0)), (1, .ref (ad 0)), (0, .ref b)]) (pc' := 1016) (by decide) rfl dL_law_1014 rfl ?_
  refine v_aload_n C0 (pc' := 1017) 3 rfl rfl dL_law_1016 rfl ?_
  refine v_scr C0 hX hbl hbA (i := i) (a := 1) (pc' := 1023) (by omega) hL (by decide) 5 1 rfl rfl dL_law_1017 dL_law_1018 dL_law_1020 dL_law_1021 dL_law_1022 rfl ?_
  refine v_callVi0 C0 (av := [.int (xs (i + 1))]) (rest := []) (ws' := oC cJ o g' :: (wx' ++ wy')) (pc' := 1026) hK1 hA hy (cwV 1 C0.2.2.2.2 gL_law_X1_costOf rfl rfl rfl (by decide +kernel) ⟨Nat.le_of_ble_eq_true rfl, Nat.le_of_ble_eq_true rfl⟩) ⟨_, 1, _, _, _, rfl, ap_r (A := oC cJ o g' :: wx') hy0⟩ (PLs.rt (P := oC cJ o g' :: wx')) rfl rfl (Nat.le_of_ble_eq_true rfl) ⟨hk, hn⟩ dL_law_1023 rfl ?_
  refine v_istore C0 (lv' := [(6, .int r), (5, .int TH), (4, .int (nI i)), (3, .ref o), (2, .ref (bd 0)), (1, .ref (ad 0)), (0, .ref b)]) (pc' := 1028) (by decide) rfl dL_law_1026 rfl ?_
  refine v_aload_n C0 (pc' := 1029) 4 rfl rfl dL_law_1028 rfl ?_
  refine v_callVi0 C0 (av := []) (rest := []) (ws' := oC cJ o g' :: (wx' ++ wy')) (pc' := 1032) hK1 hA (hw.th l D) (cwV 0 C0.2.2.2.2 gL_law_X1_thrown rfl rfl rfl (by decide +kernel) ⟨Nat.le_of_ble_eq_true rfl, Nat.le_of_ble_eq_true rfl⟩) ⟨_, 1, _, _, _, rfl, ap_r (A := oC cJ o g' :: wx') hy1⟩ (PLs.rt (P := oC cJ o g' :: wx')) rfl rfl (Nat.le_of_ble_eq_true rfl) ⟨hk, hn⟩ dL_law_1029 rfl ?_
  refine v_iload C0 (pc' := 1034) 1 rfl dL_law_1032 rfl ?_
  refine v_icmp_eq C0 1039 (pc' := 1037) dL_law_1034 (by decide) rfl (fun _ => ?_) (fun z => absurd rfl z)
  refine v_iload C0 (pc' := 1041) 1 rfl dL_law_1039 rfl ?_
  refine v_if_ne C0 1056 (pc' := 1044) dL_law_1041 (by decide) rfl (fun z => ?_) (fun z => ?_)
  · refine v_goto C0 1492 dL_law_1056 (by decide) ?_
    exact v_sub (lv' := [(4, .int (nI i)), (3, .ref o), (2, .ref (bd 0)), (1, .ref (ad 0)), (0, .ref b)]) [2, 3, 4, 5, 6] rfl (kk wx' wy' TH g' hw)
  · have eg := hg z
    refine v_aload_n C0 (pc' := 1045) 3 rfl rfl dL_law_1044 rfl ?_
    refine v_iconst C0 (pc' := 1046) 0 (by decide) dL_law_1045 rfl ?_
    refine v_lald C0 hK (pc' := 1047) 0 1 rfl rfl vin01 dL_law_1046 rfl ?_
    refine v_iload C0 (pc' := 1049) 0 rfl dL_law_1047 rfl ?_
    refine v_i2l C0 (pc' := 1050) dL_law_1049 rfl ?_
    refine v_lcmp C0 (pc' := 1051) dL_law_1050 rfl ?_
    refine v_if_eq C0 1056 (pc' := 1054) dL_law_1051 (by decide) rfl (fun _ => ?_) (fun z2 => absurd (by rw [eg]; exact lg_self _) z2)
    refine v_goto C0 1492 dL_law_1056 (by decide) ?_
    exact v_sub (lv' := [(4, .int (nI i)), (3, .ref o), (2, .ref (bd 0)), (1, .ref (ad 0)), (0, .ref b)]) [2, 3, 4, 5, 6] rfl (kk wx' wy' TH g' hw)
set_option maxHeartbeats 2000000 in
set_option maxRecDepth 100000 in
theorem law_wayUp {p : Program} {l : Launch} {e : Env} {s : State} {m : MethodId} {args : Array Value} {below : List Frame} {meth : Method} {c : Code} {D : va_G} {A : Nat → Prop} {k n : Nat} {Q : State → Prop} {cI cJ : ClassId} {ad bd : Nat → Nat} {b L o i : Nat} {xs : Nat → Int32} {wx wy : va_W} {t0 : Int32} {g : Nat → Int64} (h0 : LH p l m c s args D A cI cJ b L xs) (h : WP cI ad bd wx wy t0) (hi : i + 5 < L) (hk : k + 1 ≤ 1059) (hn : n + 6 ≤ 9105) (kk : ∀ (wx' wy' : va_W) (t' : Int32) (g' : Nat → Int64), WP cI ad bd wx' wy' t' → V p l e room_1 s m args below meth c D A 7 (k + 1) (n + 6) Q (oC cJ o g' :: (wx' ++ wy')) [(4, .int (nI i)), (3, .ref o), (2, .ref (bd 0)), (1, .ref (ad 0)), (0, .ref b)] 1492 []) : V p l e room_1 s m args below meth c D A 7 k n Q (oC cJ o g :: (wx ++ wy)) [(4, .int (nI i)), (3, .ref o), (2, .ref (bd 0)), (1, .ref (ad 0)), (0, .ref b)] 1059 [] := by
  obtain ⟨C0, hst, hK, hA, hEN, hX, hbl, hbA, hL⟩ := h0
  have hK1 : va_K D vwCl (TI cI) s := hK.sub [0] rfl
  obtain ⟨fy, hy0⟩ := h.y0
  obtain ⟨wx', wy', r, TH, g', hw, hy, hE, hg⟩ := u_wayUp (cJ := cJ) l hst D h o g (xs (i + 1))
  obtain ⟨fy1, hy1⟩ := hw.y0
  refine v_aload_n C0 (pc' := 1060) 3 rfl rfl dL_law_1059 rfl ?_
  refine v_scr C0 hX hbl hbA (i := i) (a := 1) (pc' := 1066) (by omega) hL (by decide) 4 0 rfl rfl dL_law_1060 dL_law_1061 dL_law_1063 dL_law_1064 dL_law_1065 rfl ?_
  refine v_aload_n C0 (pc' := 1067) 1 rfl rfl dL_law_1066 rfl ?_
  refine v_callSE C0 (av := [.ref (ad 0), .int (xs (i + 1)), .ref o]) (rest := []) (ws' := oC cJ o g' :: (wx' ++ wy)) (pc' := 1070) hK hA hEN hE (vx_cwSW 3 C0.2.2.2.2 gL_law_L_wayUp rfl rfl rfl (by decide +kernel) ⟨Nat.le_of_ble_eq_true rfl, Nat.le_of_ble_eq_true rfl⟩) (PLs.lf (W0 := oC cJ o g :: wx) (W1 := oC cJ o g' :: wx') (R := wy)) rfl rfl (Nat.le_of_ble_eq_true rfl) ⟨hk, hn⟩ dL_law_1067 rfl ?_
  refine v_istore C0 (lv' := [(5, .int TH), (4, .int (nI i)), (3, .ref o), (2, .ref (bd 0)), (1, .ref (ad 0)), (0, .ref b)]) (pc' := 1072) (by decide) rfl dL_law_1070 rfl ?_
  refine v_aload_n C0 (pc' := 1073) 3 rfl rfl dL_law_1072 rfl ?_
  refine v_scr C0 hX hbl hbA (i := i) (a := 1) (pc' := 1079) (by omega) hL (by decide) 5 1 rfl rfl dL_law_1073 dL_law_1074 dL_law_1076 dL_law_1077 dL_law_1078 rfl ?_
  refine v_callVi0 C0 (av := [.int (xs (i + 1))]) (rest := []) (ws' := oC cJ o g' :: (wx' ++ wy')) (pc' := 1082) hK1 hA hy (cwV 1 C0.2.2.2.2 gL_law_X1_wayUp rfl rfl rfl (by decide +kernel) ⟨Nat.le_of_ble_eq_true rfl, Nat.le_of_ble_eq_true rfl⟩) ⟨_, 1, _, _, _, rfl, ap_r (A := oC cJ o g' :: wx') hy0⟩ (PLs.rt (P := oC cJ o g' :: wx')) rfl rfl (Nat.le_of_ble_eq_true rfl) ⟨hk, hn⟩ dL_law_1079 rfl ?_
  refine v_istore C0 (lv' := [(6, .int r), (5, .int TH), (4, .int (nI i)), (3, .ref o), (2, .ref (bd 0)), (1, .ref (ad 0)), (0, .ref b)]) (pc' := 1084) (by decide) rfl dL_law_1082 rfl ?_
  refine v_aload_n C0 (pc' := 1085) 4 rfl rfl dL_law_1084 rfl ?_
  refine v_callVi0 C0 (av := []) (rest := []) (ws' := oC cJ o g' :: (wx' ++ wy')) (pc' := 1088) hK1 hA (hw.th l D) (cwV 0 C0.2.2.2.2 gL_law_X1_thrown rfl rfl rfl (by decide +kernel) ⟨Nat.le_of_ble_eq_true rfl, Nat.le_of_ble_eq_true rfl⟩) ⟨_, 1, _, _, _, rfl, ap_r (A := oC cJ o g' :: wx') hy1⟩ (PLs.rt (P := oC cJ o g' :: wx')) rfl rfl (Nat.le_of_ble_eq_true rfl) ⟨hk, hn⟩ dL_law_1085 rfl ?_
  refine v_iload C0 (pc' := 1090) 1 rfl dL_law_1088 rfl ?_
  refine v_icmp_eq C0 1095 (pc' := 1093) dL_law_1090 (by decide) rfl (fun _ => ?_) (fun z => absurd rfl z)
  refine v_iload C0 (pc' := 1097) 1 rfl dL_law_1095 rfl ?_
  refine v_if_ne C0 1112 (pc' := 1100) dL_law_1097 (by decide) rfl (fun z => ?_) (fun z => ?_)
  · refine v_goto C0 1492 dL_law_1112 (by decide) ?_
    exact v_sub (lv' := [(4, .int (nI i)), (3, .ref o), (2, .ref (bd 0)), (1, .ref (ad 0)), (0, .ref b)]) [2, 3, 4, 5, 6] rfl (kk wx' wy' TH g' hw)
  · have eg := hg z
    refine v_aload_n C0 (pc' := 1101) 3 rfl rfl dL_law_1100 rfl ?_
    refine v_iconst C0 (pc' := 1102) 0 (by decide) dL_law_1101 rfl ?_
    refine v_lald C0 hK (pc' := 1103) 0 1 rfl rfl vin01 dL_law_1102 rfl ?_
    refine v_iload C0 (pc' := 1105) 0 rfl dL_law_1103 rfl ?_
    refine v_i2l C0 (pc' := 1106) dL_law_1105 rfl ?_
    refine v_lcmp C0 (pc' := 1107) dL_law_1106 rfl ?_
    refine v_if_eq C0 1112 (pc' := 1110) dL_law_1107 (by decide) rfl (fun _ => ?_) (fun z2 => absurd (by rw [eg]; exact lg_self _) z2)
    refine v_goto C0 1492 dL_law_1112 (by decide) ?_
    exact v_sub (lv' := [(4, .int (nI i)), (3, .ref o), (2, .ref (bd 0)), (1, .ref (ad 0)), (0, .ref b)]) [2, 3, 4, 5, 6] rfl (kk wx' wy' TH g' hw)
set_option maxHeartbeats 2000000 in
set_option maxRecDepth 100000 in
theorem law_hops {p : Program} {l : Launch} {e : Env} {s : State} {m : MethodId} {args : Array Value} {below : List Frame} {meth : Method} {c : Code} {D : va_G} {A : Nat → Prop} {k n : Nat} {Q : State → Prop} {cI cJ : ClassId} {ad bd : Nat → Nat} {b L o i : Nat} {xs : Nat → Int32} {wx wy : va_W} {t0 : Int32} {g : Nat → Int64} (h0 : LH p l m c s args D A cI cJ b L xs) (h : WP cI ad bd wx wy t0) (hi : i + 5 < L) (hk : k + 1 ≤ 1059) (hn : n + 6 ≤ 9105) (kk : ∀ (wx' wy' : va_W) (t' : Int32) (g' : Nat → Int64), WP cI ad bd wx' wy' t' → V p l e room_1 s m args below meth c D A 7 (k + 1) (n + 6) Q (oC cJ o g' :: (wx' ++ wy')) [(4, .int (nI i)), (3, .ref o), (2, .ref (bd 0)), (1, .ref (ad 0)), (0, .ref b)] 1492 []) : V p l e room_1 s m args below meth c D A 7 k n Q (oC cJ o g :: (wx ++ wy)) [(4, .int (nI i)), (3, .ref o), (2, .ref (bd 0)), (1, .ref (ad 0)), (0, .ref b)] 1115 [] := by
  obtain ⟨C0, hst, hK, hA, hEN, hX, hbl, hbA, hL⟩ := h0
  have hK1 : va_K D vwCl (TI cI) s := hK.sub [0] rfl
  obtain ⟨fy, hy0⟩ := h.y0
  obtain ⟨wx', wy', r, TH, g', hw, hy, hE, hg⟩ := u_hops (cJ := cJ) l hst D h o g (xs (i + 1)) (xs (i + 2)) (xs (i + 3)) (xs (i + 4))
  obtain ⟨fy1, hy1⟩ := hw.y0
  refine v_aload_n C0 (pc' := 1116) 3 rfl rfl dL_law_1115 rfl ?_
  refine v_scr C0 hX hbl hbA (i := i) (a := 1) (pc' := 1122) (by omega) hL (by decide) 4 0 rfl rfl dL_law_1116 dL_law_1117 dL_law_1119 dL_law_1120 dL_law_1121 rfl ?_
  refine v_scr C0 hX hbl hbA (i := i) (a := 2) (pc' := 1128) (by omega) hL (by decide) 4 0 rfl rfl dL_law_1122 dL_law_1123 dL_law_1125 dL_law_1126 dL_law_1127 rfl ?_
  refine v_scr C0 hX hbl hbA (i := i) (a := 3) (pc' := 1134) (by omega) hL (by decide) 4 0 rfl rfl dL_law_1128 dL_law_1129 dL_law_1131 dL_law_1132 dL_law_1133 rfl ?_
  refine v_scr C0 hX hbl hbA (i := i) (a := 4) (pc' := 1140) (by omega) hL (by decide) 4 0 rfl rfl dL_law_1134 dL_law_1135 dL_law_1137 dL_law_1138 dL_law_1139 rfl ?_
  refine v_aload_n C0 (pc' := 1141) 1 rfl rfl dL_law_1140 rfl ?_
  refine v_callSE C0 (av := [.ref (ad 0), .int (xs (i + 1)), .int (xs (i + 2)), .int (xs (i + 3)), .int (xs (i + 4)), .ref o]) (rest := []) (ws' := oC cJ o g' :: (wx' ++ wy)) (pc' := 1144) hK hA hEN hE (vx_cwSW 6 C0.2.2.2.2 gL_law_L_hops rfl rfl rfl (by decide +kernel) ⟨Nat.le_of_ble_eq_true rfl, Nat.le_of_ble_eq_true rfl⟩) (PLs.lf (W0 := oC cJ o g :: wx) (W1 := oC cJ o g' :: wx') (R := wy)) rfl rfl (Nat.le_of_ble_eq_true rfl) ⟨hk, hn⟩ dL_law_1141 rfl ?_
  refine v_istore C0 (lv' := [(5, .int TH), (4, .int (nI i)), (3, .ref o), (2, .ref (bd 0)), (1, .ref (ad 0)), (0, .ref b)]) (pc' := 1146) (by decide) rfl dL_law_1144 rfl ?_
  refine v_aload_n C0 (pc' := 1147) 3 rfl rfl dL_law_1146 rfl ?_
  refine v_scr C0 hX hbl hbA (i := i) (a := 1) (pc' := 1153) (by omega) hL (by decide) 5 1 rfl rfl dL_law_1147 dL_law_1148 dL_law_1150 dL_law_1151 dL_law_1152 rfl ?_
  refine v_scr C0 hX hbl hbA (i := i) (a := 2) (pc' := 1159) (by omega) hL (by decide) 5 1 rfl rfl dL_law_1153 dL_law_1154 dL_law_1156 dL_law_1157 dL_law_1158 rfl ?_
  refine v_scr C0 hX hbl hbA (i := i) (a := 3) (pc' := 1165) (by omega) hL (by decide) 5 1 rfl rfl dL_law_1159 dL_law_1160 dL_law_1162 dL_law_1163 dL_law_1164 rfl ?_
  refine v_scr C0 hX hbl hbA (i := i) (a := 4) (pc' := 1171) (by omega) hL (by decide) 5 1 rfl rfl dL_law_1165 dL_law_1166 dL_law_1168 dL_law_1169 dL_law_1170 rfl ?_
  refine v_callVi0 C0 (av := [.int (xs (i + 1)), .int (xs (i + 2)), .int (xs (i + 3)), .int (xs (i + 4))]) (rest := []) (ws' := oC cJ o g' :: (wx' ++ wy')) (pc' := 1174) hK1 hA hy (cwV 4 C0.2.2.2.2 gL_law_X1_hops rfl rfl rfl (by decide +kernel) ⟨Nat.le_of_ble_eq_true rfl, Nat.le_of_ble_eq_true rfl⟩) ⟨_, 1, _, _, _, rfl, ap_r (A := oC cJ o g' :: wx') hy0⟩ (PLs.rt (P := oC cJ o g' :: wx')) rfl rfl (Nat.le_of_ble_eq_true rfl) ⟨hk, hn⟩ dL_law_1171 rfl ?_
  refine v_istore C0 (lv' := [(6, .int r), (5, .int TH), (4, .int (nI i)), (3, .ref o), (2, .ref (bd 0)), (1, .ref (ad 0)), (0, .ref b)]) (pc' := 1176) (by decide) rfl dL_law_1174 rfl ?_
  refine v_aload_n C0 (pc' := 1177) 4 rfl rfl dL_law_1176 rfl ?_
  refine v_callVi0 C0 (av := []) (rest := []) (ws' := oC cJ o g' :: (wx' ++ wy')) (pc' := 1180) hK1 hA (hw.th l D) (cwV 0 C0.2.2.2.2 gL_law_X1_thrown rfl rfl rfl (by decide +kernel) ⟨Nat.le_of_ble_eq_true rfl, Nat.le_of_ble_eq_true rfl⟩) ⟨_, 1, _, _, _, rfl, ap_r (A := oC cJ o g' :: wx') hy1⟩ (PLs.rt (P := oC cJ o g' :: wx')) rfl rfl (Nat.le_of_ble_eq_true rfl) ⟨hk, hn⟩ dL_law_1177 rfl ?_
  refine v_iload C0 (pc' := 1182) 1 rfl dL_law_1180 rfl ?_
  refine v_icmp_eq C0 1187 (pc' := 1185) dL_law_1182 (by decide) rfl (fun _ => ?_) (fun z => absurd rfl z)
  refine v_iload C0 (pc' := 1189) 1 rfl dL_law_1187 rfl ?_
  refine v_if_ne C0 1204 (pc' := 1192) dL_law_1189 (by decide) rfl (fun z => ?_) (fun z => ?_)
  · refine v_goto C0 1492 dL_law_1204 (by decide) ?_
    exact v_sub (lv' := [(4, .int (nI i)), (3, .ref o), (2, .ref (bd 0)), (1, .ref (ad 0)), (0, .ref b)]) [2, 3, 4, 5, 6] rfl (kk wx' wy' TH g' hw)
  · have eg := hg z
    refine v_aload_n C0 (pc' := 1193) 3 rfl rfl dL_law_1192 rfl ?_
    refine v_iconst C0 (pc' := 1194) 0 (by decide) dL_law_1193 rfl ?_
    refine v_lald C0 hK (pc' := 1195) 0 1 rfl rfl vin01 dL_law_1194 rfl ?_
    refine v_iload C0 (pc' := 1197) 0 rfl dL_law_1195 rfl ?_
    refine v_i2l C0 (pc' := 1198) dL_law_1197 rfl ?_
    refine v_lcmp C0 (pc' := 1199) dL_law_1198 rfl ?_
    refine v_if_eq C0 1204 (pc' := 1202) dL_law_1199 (by decide) rfl (fun _ => ?_) (fun z2 => absurd (by rw [eg]; exact lg_self _) z2)
    refine v_goto C0 1492 dL_law_1204 (by decide) ?_
    exact v_sub (lv' := [(4, .int (nI i)), (3, .ref o), (2, .ref (bd 0)), (1, .ref (ad 0)), (0, .ref b)]) [2, 3, 4, 5, 6] rfl (kk wx' wy' TH g' hw)
