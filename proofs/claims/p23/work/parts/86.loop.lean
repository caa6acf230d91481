/-! the law's loop and its start -/
set_option maxHeartbeats 4000000 in
set_option maxRecDepth 100000 in
theorem law_tail {p : Program} {l : Launch} {e : Env} {s : State} {m : MethodId} {args : Array Value} {below : List Frame} {meth : Method} {c : Code} {D : va_G} {A : Nat → Prop} {k n : Nat} {Q : State → Prop} {cI : ClassId} {ad : Nat → Nat} {b na ua ta fa ca ba L : Nat} {xs : Nat → Int32} {xu xt xf xc xb xn : Nat → Nat} {wx : va_W} (h0 : LH p l m c s args D A cI b L xs) (h : LIs xu xt xf xc xb xn) (hw : WQ cI ad xu xt xf xc xb xn wx) {i y : Nat} (hi : i < 120) (hy : y ≤ 119304647) (hk : k + 1435 ≤ 765924) (hnn : n + 8850 ≤ 6803927) (kk : ∀ wx' : va_W, WQ cI ad xu xt xf xc xb xn wx' → V p l e room_1 s m args below meth c D A 19 (k + 1435) (n + 8850) Q ([(ba, .inl (cI, 36, .inl (nA xb))), (ca, .inl (cI, 36, .inl (nA xc))), (fa, .inl (cI, 36, .inl (nA xf))), (ta, .inl (cI, 36, .inl (nA xt))), (ua, .inl (cI, 36, .inl (nA xu))), (na, .inl (cI, 2, .inl (nA xn)))] ++ wx') [(9, .int (nI (i + 1))), (8, .int (nI 1)), (0, .ref b), (1, .ref (ad 0)), (2, .ref na), (3, .ref ua), (4, .ref ta), (5, .ref fa), (6, .ref ca), (7, .ref ba)] 61 []) : V p l e room_1 s m args below meth c D A 19 k n Q ([(ba, .inl (cI, 36, .inl (nA xb))), (ca, .inl (cI, 36, .inl (nA xc))), (fa, .inl (cI, 36, .inl (nA xf))), (ta, .inl (cI, 36, .inl (nA xt))), (ua, .inl (cI, 36, .inl (nA xu))), (na, .inl (cI, 2, .inl (nA xn)))] ++ wx) [(8, .int (nI 1)), (9, .int (nI i)), (12, .int (nI y)), (0, .ref b), (1, .ref (ad 0)), (2, .ref na), (3, .ref ua), (4, .ref ta), (5, .ref fa), (6, .ref ca), (7, .ref ba)] 893 [] := by
  obtain ⟨C0, hst, hK, hA, hEN, hX, hbl, hbA, hL⟩ := id h0
  obtain ⟨hu, ht, hf, hc, hb, hn, hn1, hG, hS, hct⟩ := id h
  have hn31 : ∀ k, xn k < 2 ^ 31 := fun k => Nat.lt_of_le_of_lt (hn k) (by decide)
  refine v_iload C0 (pc' := 895) 0 rfl dL_law_893 rfl ?_
  refine v_if_eqN C0 929 (pc' := 898) (by omega) dL_law_895 (by decide) rfl (fun h1 => ?_) (fun h1 => ?_)
  · exact absurd h1 (by decide)
  · refine v_iload C0 (pc' := 900) 1 rfl dL_law_898 rfl ?_
    refine v_iconst C0 (pc' := 901) (nI 5) (by decide +kernel) dL_law_900 rfl ?_
    refine v_iremN C0 (pc' := 902) (by omega) (by decide) (by decide) dL_law_901 rfl ?_
    refine v_iconst C0 (pc' := 903) (nI 4) (by decide +kernel) dL_law_902 rfl ?_
    refine v_icmp_ltN C0 925 (pc' := 906) (by omega) (by omega) dL_law_903 (by decide) rfl (fun h2 => ?_) (fun h2 => ?_)
    · refine v_iconst C0 (pc' := 926) (nI 1) (by decide +kernel) dL_law_925 rfl ?_
      refine v_goto C0 930 dL_law_926 (by decide) ?_
      refine v_istore C0 (lv' := [(8, .int (nI 1)), (9, .int (nI i)), (12, .int (nI y)), (0, .ref b), (1, .ref (ad 0)), (2, .ref na), (3, .ref ua), (4, .ref ta), (5, .ref fa), (6, .ref ca), (7, .ref ba)]) (pc' := 932) (by decide) rfl dL_law_930 rfl ?_
      refine v_iincN C0 (lv' := [(9, .int (nI (i + 1))), (8, .int (nI 1)), (12, .int (nI y)), (0, .ref b), (1, .ref (ad 0)), (2, .ref na), (3, .ref ua), (4, .ref ta), (5, .ref fa), (6, .ref ca), (7, .ref ba)]) (y := 1) (pc' := 935) 1 rfl (by decide) rfl dL_law_932 rfl ?_
      refine v_goto C0 61 dL_law_935 (by decide) ?_
      refine v_widen (k2 := k + 1435) (n2 := n + 8850) (by omega) (by omega) ?_
      exact v_sub (lv' := [(9, .int (nI (i + 1))), (8, .int (nI 1)), (0, .ref b), (1, .ref (ad 0)), (2, .ref na), (3, .ref ua), (4, .ref ta), (5, .ref fa), (6, .ref ca), (7, .ref ba)]) [0, 1, 3, 4, 5, 6, 7, 8, 9, 10] rfl (kk wx hw)
    · refine v_aload_n C0 (pc' := 907) 4 rfl rfl dL_law_906 rfl ?_
      refine v_aload_n C0 (pc' := 908) 5 rfl rfl dL_law_907 rfl ?_
      refine v_aload_n C0 (pc' := 909) 6 rfl rfl dL_law_908 rfl ?_
      refine v_aload C0 (pc' := 911) 7 rfl dL_law_909 rfl ?_
      refine v_aload C0 (pc' := 913) 8 rfl dL_law_911 rfl ?_
      refine v_aload C0 (pc' := 915) 9 rfl dL_law_913 rfl ?_
      refine v_aload C0 (pc' := 917) 10 rfl dL_law_915 rfl ?_
      refine v_iload C0 (pc' := 919) 2 rfl dL_law_917 rfl ?_
      refine v_callSN C0 (av := [.ref (ad 0), .ref na, .ref ua, .ref ta, .ref fa, .ref ca, .ref ba, .int (nI y)]) (rest := []) (ws' := fun w => [(ba, .inl (cI, 36, .inl (nA xb))), (ca, .inl (cI, 36, .inl (nA xc))), (fa, .inl (cI, 36, .inl (nA xf))), (ta, .inl (cI, 36, .inl (nA xt))), (ua, .inl (cI, 36, .inl (nA xu))), (na, .inl (cI, 2, .inl (nA xn)))] ++ w) (pc' := 922) hK hA hEN (k_L_isNet l hst D na ua ta fa ca ba h hw (xX := y) (by omega)) (va_cwS 8 C0.2.2.2.2 gL_law_L_isNet rfl rfl rfl (by decide +kernel) ⟨Nat.le_of_ble_eq_true rfl, Nat.le_of_ble_eq_true rfl⟩) (fun w => PLs.all) rfl rfl (Nat.le_of_ble_eq_true rfl) ⟨(by show k + 1435 ≤ 765924; omega), (by show n + 8850 ≤ 6803927; omega)⟩ dL_law_919 rfl (fun wn1 hwn1 => ?_)
      refine v_eqi (show (1 : Int32) = nI 1 from rfl) ?_
      refine v_if_eqN C0 929 (pc' := 925) (by omega) dL_law_922 (by decide) rfl (fun h3 => ?_) (fun h3 => ?_)
      · exact absurd h3 (by decide)
      · refine v_iconst C0 (pc' := 926) (nI 1) (by decide +kernel) dL_law_925 rfl ?_
        refine v_goto C0 930 dL_law_926 (by decide) ?_
        refine v_istore C0 (lv' := [(8, .int (nI 1)), (9, .int (nI i)), (12, .int (nI y)), (0, .ref b), (1, .ref (ad 0)), (2, .ref na), (3, .ref ua), (4, .ref ta), (5, .ref fa), (6, .ref ca), (7, .ref ba)]) (pc' := 932) (by decide) rfl dL_law_930 rfl ?_
        refine v_iincN C0 (lv' := [(9, .int (nI (i + 1))), (8, .int (nI 1)), (12, .int (nI y)), (0, .ref b), (1, .ref (ad 0)), (2, .ref na), (3, .ref ua), (4, .ref ta), (5, .ref fa), (6, .ref ca), (7, .ref ba)]) (y := 1) (pc' := 935) 1 rfl (by decide) rfl dL_law_932 rfl ?_
        refine v_goto C0 61 dL_law_935 (by decide) ?_
        exact v_sub (lv' := [(9, .int (nI (i + 1))), (8, .int (nI 1)), (0, .ref b), (1, .ref (ad 0)), (2, .ref na), (3, .ref ua), (4, .ref ta), (5, .ref fa), (6, .ref ca), (7, .ref ba)]) [0, 1, 3, 4, 5, 6, 7, 8, 9, 10] rfl (kk wn1 hwn1)
set_option maxHeartbeats 4000000 in
set_option maxRecDepth 100000 in
theorem law_turn {p : Program} {l : Launch} {e : Env} {s : State} {m : MethodId} {args : Array Value} {below : List Frame} {meth : Method} {c : Code} {D : va_G} {A : Nat → Prop} {k n : Nat} {Q : State → Prop} {cI : ClassId} {ad : Nat → Nat} {b na ua ta fa ca ba L : Nat} {xs : Nat → Int32} {xu xt xf xc xb xn : Nat → Nat} {wx : va_W} (h0 : LH p l m c s args D A cI b L xs) (h : LIs xu xt xf xc xb xn) (hw : WQ cI ad xu xt xf xc xb xn wx) {i : Nat} (hi : i < 120) (hk : k + 1436 ≤ 765924) (hnn : n + 8856 ≤ 6803927) (kk : ∀ (xu' xt' xf' xc' xb' xn' : Nat → Nat) (wx' : va_W), LIs xu' xt' xf' xc' xb' xn' → WQ cI ad xu' xt' xf' xc' xb' xn' wx' → V p l e room_1 s m args below meth c D A 19 (k + 1436) (n + 8856) Q ([(ba, .inl (cI, 36, .inl (nA xb'))), (ca, .inl (cI, 36, .inl (nA xc'))), (fa, .inl (cI, 36, .inl (nA xf'))), (ta, .inl (cI, 36, .inl (nA xt'))), (ua, .inl (cI, 36, .inl (nA xu'))), (na, .inl (cI, 2, .inl (nA xn')))] ++ wx') [(9, .int (nI (i + 1))), (8, .int (nI 1)), (0, .ref b), (1, .ref (ad 0)), (2, .ref na), (3, .ref ua), (4, .ref ta), (5, .ref fa), (6, .ref ca), (7, .ref ba)] 61 []) : V p l e room_1 s m args below meth c D A 19 k n Q ([(ba, .inl (cI, 36, .inl (nA xb))), (ca, .inl (cI, 36, .inl (nA xc))), (fa, .inl (cI, 36, .inl (nA xf))), (ta, .inl (cI, 36, .inl (nA xt))), (ua, .inl (cI, 36, .inl (nA xu))), (na, .inl (cI, 2, .inl (nA xn)))] ++ wx) [(9, .int (nI i)), (8, .int (nI 1)), (0, .ref b), (1, .ref (ad 0)), (2, .ref na), (3, .ref ua), (4, .ref ta), (5, .ref fa), (6, .ref ca), (7, .ref ba)] 61 [] := by
  obtain ⟨C0, hst, hK, hA, hEN, hX, hbl, hbA, hL⟩ := id h0
  obtain ⟨hu, ht, hf, hc, hb, hn, hn1, hG, hS, hct⟩ := id h
  have hn31 : ∀ k, xn k < 2 ^ 31 := fun k => Nat.lt_of_le_of_lt (hn k) (by decide)
  refine v_iload C0 (pc' := 63) 0 rfl dL_law_61 rfl ?_
  refine v_bipush C0 (pc' := 65) (nI 120) (by decide +kernel) dL_law_63 rfl ?_
  refine v_icmp_geN C0 938 (pc' := 68) (by omega) (by omega) dL_law_65 (by decide) rfl (fun h1 => ?_) (fun h1 => ?_)
  · exact absurd h1 (by omega)
  · refine v_iload C0 (pc' := 70) 1 rfl dL_law_68 rfl ?_
    refine v_if_eqN C0 938 (pc' := 73) (by omega) dL_law_70 (by decide) rfl (fun h2 => ?_) (fun h2 => ?_)
    · exact absurd h2 (by decide)
    · suffices J_X : ∀ X : Nat, X < 2147483648 → V p l e room_1 s m args below meth c D A 19 k n Q ([(ba, .inl (cI, 36, .inl (nA xb))), (ca, .inl (cI, 36, .inl (nA xc))), (fa, .inl (cI, 36, .inl (nA xf))), (ta, .inl (cI, 36, .inl (nA xt))), (ua, .inl (cI, 36, .inl (nA xu))), (na, .inl (cI, 2, .inl (nA xn)))] ++ wx) [(9, .int (nI i)), (8, .int (nI 1)), (0, .ref b), (1, .ref (ad 0)), (2, .ref na), (3, .ref ua), (4, .ref ta), (5, .ref fa), (6, .ref ca), (7, .ref ba)] 111 [.int (nI X)] by
        refine v_iload C0 (pc' := 75) 0 rfl dL_law_73 rfl ?_
        refine v_aload_n C0 (pc' := 76) 2 rfl rfl dL_law_75 rfl ?_
        refine v_slen C0 hX hbl hbA (pc' := 77) dL_law_76 rfl ?_
        refine v_icmp_geN C0 90 (pc' := 80) (by omega) (by omega) dL_law_77 (by decide) rfl (fun h3 => ?_) (fun h3 => ?_)
        · refine v_ldc C0 (pc' := 92) 40009 (C0.2.2.2.2 _ (List.mem_of_getElem? (i := 5) rfl)) dL_law_90 rfl ?_
          refine v_eqi (show (40009 : Int32) = nI 40009 from rfl) ?_
          refine v_iload C0 (pc' := 94) 0 rfl dL_law_92 rfl ?_
          refine v_imulN C0 (pc' := 95) dL_law_94 rfl ?_
          refine v_iload C0 (pc' := 97) 0 rfl dL_law_95 rfl ?_
          refine v_imulN C0 (pc' := 98) dL_law_97 rfl ?_
          refine v_sipush C0 (pc' := 101) (nI 9011) (by decide +kernel) dL_law_98 rfl ?_
          refine v_iload C0 (pc' := 103) 0 rfl dL_law_101 rfl ?_
          refine v_imulN C0 (pc' := 104) dL_law_103 rfl ?_
          refine v_iaddN C0 (pc' := 105) dL_law_104 rfl ?_
          refine v_bipush C0 (pc' := 107) (nI 83) (by decide +kernel) dL_law_105 rfl ?_
          refine v_iaddN C0 (pc' := 108) dL_law_107 rfl ?_
          refine v_ldc C0 (pc' := 110) 2147483647 (C0.2.2.2.2 _ (List.mem_of_getElem? (i := 4) rfl)) dL_law_108 rfl ?_
          obtain ⟨m1, hm1, em1⟩ := pk_andE (nI ((((40009 * i) * i) + (9011 * i)) + 83)) (m := 2147483647) 31 (by decide)
          refine v_iand C0 (pc' := 111) dL_law_110 rfl ?_
          refine v_eqi em1 ?_
          exact J_X m1 (by omega)
        · refine v_aload_n C0 (pc' := 81) 2 rfl rfl dL_law_80 rfl ?_
          refine v_iload C0 (pc' := 83) 0 rfl dL_law_81 rfl ?_
          refine v_sld C0 hX hbl hbA (i := nI i) (pc' := 84) (vp_in_nI (by omega) (by omega)) dL_law_83 rfl ?_
          refine v_ldc C0 (pc' := 86) 2147483647 (C0.2.2.2.2 _ (List.mem_of_getElem? (i := 4) rfl)) dL_law_84 rfl ?_
          obtain ⟨m2, hm2, em2⟩ := pk_andE (xs (nI i).toNatClampNeg) (m := 2147483647) 31 (by decide)
          refine v_iand C0 (pc' := 87) dL_law_86 rfl ?_
          refine v_eqi em2 ?_
          refine v_goto C0 111 dL_law_87 (by decide) ?_
          exact J_X m2 (by omega)
      intro X h_X
      refine v_istore C0 (lv' := [(10, .int (nI X)), (9, .int (nI i)), (8, .int (nI 1)), (0, .ref b), (1, .ref (ad 0)), (2, .ref na), (3, .ref ua), (4, .ref ta), (5, .ref fa), (6, .ref ca), (7, .ref ba)]) (pc' := 113) (by decide) rfl dL_law_111 rfl ?_
      suffices J_K : ∀ K : Nat, K < 18 → V p l e room_1 s m args below meth c D A 19 k n Q ([(ba, .inl (cI, 36, .inl (nA xb))), (ca, .inl (cI, 36, .inl (nA xc))), (fa, .inl (cI, 36, .inl (nA xf))), (ta, .inl (cI, 36, .inl (nA xt))), (ua, .inl (cI, 36, .inl (nA xu))), (na, .inl (cI, 2, .inl (nA xn)))] ++ wx) [(10, .int (nI X)), (9, .int (nI i)), (8, .int (nI 1)), (0, .ref b), (1, .ref (ad 0)), (2, .ref na), (3, .ref ua), (4, .ref ta), (5, .ref fa), (6, .ref ca), (7, .ref ba)] 130 [.int (nI K)] by
        refine v_iload C0 (pc' := 115) 1 rfl dL_law_113 rfl ?_
        refine v_bipush C0 (pc' := 117) (nI 6) (by decide +kernel) dL_law_115 rfl ?_
        refine v_icmp_geN C0 125 (pc' := 120) (by omega) (by omega) dL_law_117 (by decide) rfl (fun h4 => ?_) (fun h4 => ?_)
        · refine v_iload C0 (pc' := 127) 0 rfl dL_law_125 rfl ?_
          refine v_bipush C0 (pc' := 129) (nI 18) (by decide +kernel) dL_law_127 rfl ?_
          refine v_iremN C0 (pc' := 130) (by omega) (by decide) (by decide) dL_law_129 rfl ?_
          exact J_K (X % 18) (by omega)
        · refine v_bipush C0 (pc' := 122) (nI 9) (by decide +kernel) dL_law_120 rfl ?_
          refine v_goto C0 130 dL_law_122 (by decide) ?_
          exact J_K 9 (by omega)
      intro K h_K
      refine v_istore C0 (lv' := [(11, .int (nI K)), (10, .int (nI X)), (9, .int (nI i)), (8, .int (nI 1)), (0, .ref b), (1, .ref (ad 0)), (2, .ref na), (3, .ref ua), (4, .ref ta), (5, .ref fa), (6, .ref ca), (7, .ref ba)]) (pc' := 132) (by decide) rfl dL_law_130 rfl ?_
      refine v_iload C0 (pc' := 134) 1 rfl dL_law_132 rfl ?_
      refine v_bipush C0 (pc' := 136) (nI 18) (by decide +kernel) dL_law_134 rfl ?_
      refine v_idivN C0 (pc' := 137) (by omega) (by decide) (by decide) dL_law_136 rfl ?_
      obtain ⟨y, e_y, h_y⟩ : ∃ z, X / 18 = z ∧ z ≤ 119304647 := ⟨_, rfl, by omega⟩
      refine v_eqn e_y ?_
      refine v_istore C0 (lv' := [(12, .int (nI y)), (11, .int (nI K)), (10, .int (nI X)), (9, .int (nI i)), (8, .int (nI 1)), (0, .ref b), (1, .ref (ad 0)), (2, .ref na), (3, .ref ua), (4, .ref ta), (5, .ref fa), (6, .ref ca), (7, .ref ba)]) (pc' := 139) (by decide) rfl dL_law_137 rfl ?_
      refine v_iload C0 (pc' := 141) 0 rfl dL_law_139 rfl ?_
      refine v_bipush C0 (pc' := 143) (nI 36) (by decide +kernel) dL_law_141 rfl ?_
      refine v_iremN C0 (pc' := 144) (by omega) (by decide) (by decide) dL_law_143 rfl ?_
      obtain ⟨a, e_a, h_a⟩ : ∃ z, y % 36 = z ∧ z < 36 := ⟨_, rfl, by omega⟩
      refine v_eqn e_a ?_
      refine v_istore C0 (lv' := [(13, .int (nI a)), (12, .int (nI y)), (11, .int (nI K)), (10, .int (nI X)), (9, .int (nI i)), (8, .int (nI 1)), (0, .ref b), (1, .ref (ad 0)), (2, .ref na), (3, .ref ua), (4, .ref ta), (5, .ref fa), (6, .ref ca), (7, .ref ba)]) (pc' := 146) (by decide) rfl dL_law_144 rfl ?_
      refine v_iload C0 (pc' := 148) 1 rfl dL_law_146 rfl ?_
      refine v_bipush C0 (pc' := 150) (nI 36) (by decide +kernel) dL_law_148 rfl ?_
      refine v_idivN C0 (pc' := 151) (by omega) (by decide) (by decide) dL_law_150 rfl ?_
      refine v_bipush C0 (pc' := 153) (nI 36) (by decide +kernel) dL_law_151 rfl ?_
      refine v_iremN C0 (pc' := 154) (by omega) (by decide) (by decide) dL_law_153 rfl ?_
      obtain ⟨w, e_w, h_w⟩ : ∃ z, (y / 36) % 36 = z ∧ z < 36 := ⟨_, rfl, by omega⟩
      refine v_eqn e_w ?_
      refine v_istore C0 (lv' := [(14, .int (nI w)), (13, .int (nI a)), (12, .int (nI y)), (11, .int (nI K)), (10, .int (nI X)), (9, .int (nI i)), (8, .int (nI 1)), (0, .ref b), (1, .ref (ad 0)), (2, .ref na), (3, .ref ua), (4, .ref ta), (5, .ref fa), (6, .ref ca), (7, .ref ba)]) (pc' := 156) (by decide) rfl dL_law_154 rfl ?_
      suffices J_la : ∀ la : Nat, 1 ≤ la ∧ la < 16 → V p l e room_1 s m args below meth c D A 19 k n Q ([(ba, .inl (cI, 36, .inl (nA xb))), (ca, .inl (cI, 36, .inl (nA xc))), (fa, .inl (cI, 36, .inl (nA xf))), (ta, .inl (cI, 36, .inl (nA xt))), (ua, .inl (cI, 36, .inl (nA xu))), (na, .inl (cI, 2, .inl (nA xn)))] ++ wx) [(14, .int (nI w)), (13, .int (nI a)), (12, .int (nI y)), (11, .int (nI K)), (10, .int (nI X)), (9, .int (nI i)), (8, .int (nI 1)), (0, .ref b), (1, .ref (ad 0)), (2, .ref na), (3, .ref ua), (4, .ref ta), (5, .ref fa), (6, .ref ca), (7, .ref ba)] 189 [.int (nI la)] by
        refine v_iconst C0 (pc' := 157) (nI 1) (by decide +kernel) dL_law_156 rfl ?_
        refine v_iload C0 (pc' := 159) 2 rfl dL_law_157 rfl ?_
        refine v_sipush C0 (pc' := 162) (nI 1296) (by decide +kernel) dL_law_159 rfl ?_
        refine v_idivN C0 (pc' := 163) (by omega) (by decide) (by decide) dL_law_162 rfl ?_
        refine v_iconst C0 (pc' := 164) (nI 5) (by decide +kernel) dL_law_163 rfl ?_
        refine v_iremN C0 (pc' := 165) (by omega) (by decide) (by decide) dL_law_164 rfl ?_
        refine v_if_neN C0 180 (pc' := 168) (by omega) dL_law_165 (by decide) rfl (fun h5 => ?_) (fun h5 => ?_)
        · refine v_iload C0 (pc' := 182) 2 rfl dL_law_180 rfl ?_
          refine v_sipush C0 (pc' := 185) (nI 6480) (by decide +kernel) dL_law_182 rfl ?_
          refine v_idivN C0 (pc' := 186) (by omega) (by decide) (by decide) dL_law_185 rfl ?_
          refine v_iconst C0 (pc' := 187) (nI 4) (by decide +kernel) dL_law_186 rfl ?_
          refine v_iremN C0 (pc' := 188) (by omega) (by decide) (by decide) dL_law_187 rfl ?_
          refine v_iaddN C0 (pc' := 189) dL_law_188 rfl ?_
          exact J_la (1 + ((y / 6480) % 4)) (by omega)
        · refine v_iload C0 (pc' := 170) 2 rfl dL_law_168 rfl ?_
          refine v_sipush C0 (pc' := 173) (nI 6480) (by decide +kernel) dL_law_170 rfl ?_
          refine v_idivN C0 (pc' := 174) (by omega) (by decide) (by decide) dL_law_173 rfl ?_
          refine v_bipush C0 (pc' := 176) (nI 15) (by decide +kernel) dL_law_174 rfl ?_
          refine v_iremN C0 (pc' := 177) (by omega) (by decide) (by decide) dL_law_176 rfl ?_
          refine v_goto C0 188 dL_law_177 (by decide) ?_
          refine v_iaddN C0 (pc' := 189) dL_law_188 rfl ?_
          exact J_la (1 + ((y / 6480) % 15)) (by omega)
      intro la h_la
      refine v_istore C0 (lv' := [(15, .int (nI la)), (14, .int (nI w)), (13, .int (nI a)), (12, .int (nI y)), (11, .int (nI K)), (10, .int (nI X)), (9, .int (nI i)), (8, .int (nI 1)), (0, .ref b), (1, .ref (ad 0)), (2, .ref na), (3, .ref ua), (4, .ref ta), (5, .ref fa), (6, .ref ca), (7, .ref ba)]) (pc' := 191) (by decide) rfl dL_law_189 rfl ?_
      refine v_iload C0 (pc' := 193) 4 rfl dL_law_191 rfl ?_
      refine v_iconst C0 (pc' := 194) (nI 4) (by decide +kernel) dL_law_193 rfl ?_
      refine v_icmp_geN C0 295 (pc' := 197) (by omega) (by omega) dL_law_194 (by decide) rfl (fun h6 => ?_) (fun h6 => ?_)
      · refine v_iload C0 (pc' := 297) 4 rfl dL_law_295 rfl ?_
        refine v_bipush C0 (pc' := 299) (nI 9) (by decide +kernel) dL_law_297 rfl ?_
        refine v_icmp_geN C0 440 (pc' := 302) (by omega) (by omega) dL_law_299 (by decide) rfl (fun h7 => ?_) (fun h7 => ?_)
        · refine v_iload C0 (pc' := 442) 4 rfl dL_law_440 rfl ?_
          refine v_bipush C0 (pc' := 444) (nI 14) (by decide +kernel) dL_law_442 rfl ?_
          refine v_icmp_geN C0 602 (pc' := 447) (by omega) (by omega) dL_law_444 (by decide) rfl (fun h8 => ?_) (fun h8 => ?_)
          · refine v_iload C0 (pc' := 604) 4 rfl dL_law_602 rfl ?_
            refine v_bipush C0 (pc' := 606) (nI 14) (by decide +kernel) dL_law_604 rfl ?_
            refine v_icmp_neN C0 728 (pc' := 609) (by omega) (by omega) dL_law_606 (by decide) rfl (fun h9 => ?_) (fun h9 => ?_)
            · refine v_iload C0 (pc' := 730) 4 rfl dL_law_728 rfl ?_
              refine v_bipush C0 (pc' := 732) (nI 15) (by decide +kernel) dL_law_730 rfl ?_
              refine v_icmp_neN C0 784 (pc' := 735) (by omega) (by omega) dL_law_732 (by decide) rfl (fun h10 => ?_) (fun h10 => ?_)
              · exact v_sub (lv' := [(15, .int (nI la)), (14, .int (nI w)), (13, .int (nI a)), (12, .int (nI y)), (9, .int (nI i)), (8, .int (nI 1)), (0, .ref b), (1, .ref (ad 0)), (2, .ref na), (3, .ref ua), (4, .ref ta), (5, .ref fa), (6, .ref ca), (7, .ref ba)]) [0, 1, 2, 3, 6, 7, 8, 9, 10, 11, 12, 13, 14, 15] rfl (law_note h0 h hw h_y h_a h_w h_la.1 h_la.2 (by omega) (by omega) (fun xu' xt' xf' xc' xb' xn' wx' hl' hw' => law_tail h0 hl' hw' hi h_y (by omega) (by omega) (fun wx2 hw2 => kk xu' xt' xf' xc' xb' xn' wx2 hl' hw2)))
              · exact v_sub (lv' := [(15, .int (nI la)), (14, .int (nI w)), (13, .int (nI a)), (12, .int (nI y)), (9, .int (nI i)), (8, .int (nI 1)), (0, .ref b), (1, .ref (ad 0)), (2, .ref na), (3, .ref ua), (4, .ref ta), (5, .ref fa), (6, .ref ca), (7, .ref ba)]) [0, 1, 2, 3, 6, 7, 8, 9, 10, 11, 12, 13, 14, 15] rfl (law_tree h0 h hw h_y h_a h_w h_la.1 h_la.2 (by omega) (by omega) (fun xu' xt' xf' xc' xb' xn' wx' hl' hw' => law_tail h0 hl' hw' hi h_y (by omega) (by omega) (fun wx2 hw2 => kk xu' xt' xf' xc' xb' xn' wx2 hl' hw2)))
            · exact v_sub (lv' := [(15, .int (nI la)), (14, .int (nI w)), (13, .int (nI a)), (12, .int (nI y)), (9, .int (nI i)), (8, .int (nI 1)), (0, .ref b), (1, .ref (ad 0)), (2, .ref na), (3, .ref ua), (4, .ref ta), (5, .ref fa), (6, .ref ca), (7, .ref ba)]) [0, 1, 2, 3, 6, 7, 8, 9, 10, 11, 12, 13, 14, 15] rfl (law_pull h0 h hw h_y h_a h_w h_la.1 h_la.2 (by omega) (by omega) (fun xu' xt' xf' xc' xb' xn' wx' hl' hw' => law_tail h0 hl' hw' hi h_y (by omega) (by omega) (fun wx2 hw2 => kk xu' xt' xf' xc' xb' xn' wx2 hl' hw2)))
          · exact v_sub (lv' := [(15, .int (nI la)), (14, .int (nI w)), (13, .int (nI a)), (12, .int (nI y)), (9, .int (nI i)), (8, .int (nI 1)), (0, .ref b), (1, .ref (ad 0)), (2, .ref na), (3, .ref ua), (4, .ref ta), (5, .ref fa), (6, .ref ca), (7, .ref ba)]) [0, 1, 2, 3, 6, 7, 8, 9, 10, 11, 12, 13, 14, 15] rfl (law_cable h0 h hw h_y h_a h_w h_la.1 h_la.2 (by omega) (by omega) (fun xu' xt' xf' xc' xb' xn' wx' hl' hw' => law_tail h0 hl' hw' hi h_y (by omega) (by omega) (fun wx2 hw2 => kk xu' xt' xf' xc' xb' xn' wx2 hl' hw2)))
        · exact v_sub (lv' := [(15, .int (nI la)), (14, .int (nI w)), (13, .int (nI a)), (12, .int (nI y)), (9, .int (nI i)), (8, .int (nI 1)), (0, .ref b), (1, .ref (ad 0)), (2, .ref na), (3, .ref ua), (4, .ref ta), (5, .ref fa), (6, .ref ca), (7, .ref ba)]) [0, 1, 2, 3, 6, 7, 8, 9, 10, 11, 12, 13, 14, 15] rfl (law_tag h0 h hw h_y h_a h_w h_la.1 h_la.2 (by omega) (by omega) (fun xu' xt' xf' xc' xb' xn' wx' hl' hw' => law_tail h0 hl' hw' hi h_y (by omega) (by omega) (fun wx2 hw2 => kk xu' xt' xf' xc' xb' xn' wx2 hl' hw2)))
      · exact v_sub (lv' := [(15, .int (nI la)), (14, .int (nI w)), (13, .int (nI a)), (12, .int (nI y)), (9, .int (nI i)), (8, .int (nI 1)), (0, .ref b), (1, .ref (ad 0)), (2, .ref na), (3, .ref ua), (4, .ref ta), (5, .ref fa), (6, .ref ca), (7, .ref ba)]) [0, 1, 2, 3, 6, 7, 8, 9, 10, 11, 12, 13, 14, 15] rfl (law_untag h0 h hw h_y h_a h_w h_la.1 h_la.2 (by omega) (by omega) (fun xu' xt' xf' xc' xb' xn' wx' hl' hw' => law_tail h0 hl' hw' hi h_y (by omega) (by omega) (fun wx2 hw2 => kk xu' xt' xf' xc' xb' xn' wx2 hl' hw2)))
set_option maxHeartbeats 4000000 in
set_option maxRecDepth 100000 in
theorem law_loop {p : Program} {l : Launch} {e : Env} {s : State} {m : MethodId} {args : Array Value} {below : List Frame} {meth : Method} {c : Code} {D : va_G} {A : Nat → Prop} {Q : State → Prop} {cI : ClassId} {ad : Nat → Nat} {b na ua ta fa ca ba L : Nat} {xs : Nat → Int32} (h0 : LH p l m c s args D A cI b L xs) (hend : ∀ (k n : Nat) (ws : va_W) (lw : List (Nat × Value)), k ≤ 765924 → n ≤ 6803927 → V p l e room_1 s m args below meth c D A 19 k n Q ws lw 967 [.int (nI 1)]) : ∀ (j i k n : Nat) (xu xt xf xc xb xn : Nat → Nat) (wx : va_W), LIs xu xt xf xc xb xn → WQ cI ad xu xt xf xc xb xn wx → i + j = 120 → k + 1436 * j + 1435 ≤ 765924 → n + 8856 * j + 8850 ≤ 6803927 → V p l e room_1 s m args below meth c D A 19 k n Q ([(ba, .inl (cI, 36, .inl (nA xb))), (ca, .inl (cI, 36, .inl (nA xc))), (fa, .inl (cI, 36, .inl (nA xf))), (ta, .inl (cI, 36, .inl (nA xt))), (ua, .inl (cI, 36, .inl (nA xu))), (na, .inl (cI, 2, .inl (nA xn)))] ++ wx) [(9, .int (nI i)), (8, .int (nI 1)), (0, .ref b), (1, .ref (ad 0)), (2, .ref na), (3, .ref ua), (4, .ref ta), (5, .ref fa), (6, .ref ca), (7, .ref ba)] 61 [] := by
  intro j
  induction j with
  | zero =>
    intro i k n xu xt xf xc xb xn wx h hw hi hk hnn
    obtain rfl : i = 120 := by omega
    obtain ⟨C0, hst, hK, hA, hEN, hX, hbl, hbA, hL⟩ := id h0
    obtain ⟨hu, ht, hf, hc, hb, hn, hn1, hG, hS, hct⟩ := id h
    have hn31 : ∀ k, xn k < 2 ^ 31 := fun k => Nat.lt_of_le_of_lt (hn k) (by decide)
    refine v_iload C0 (pc' := 63) 0 rfl dL_law_61 rfl ?_
    refine v_bipush C0 (pc' := 65) (nI 120) (by decide +kernel) dL_law_63 rfl ?_
    refine v_icmp_geN C0 938 (pc' := 68) (by omega) (by omega) dL_law_65 (by decide) rfl (fun h1 => ?_) (fun h1 => ?_)
    · refine v_iload C0 (pc' := 940) 1 rfl dL_law_938 rfl ?_
      refine v_if_eqN C0 966 (pc' := 943) (by omega) dL_law_940 (by decide) rfl (fun h2 => ?_) (fun h2 => ?_)
      · exact absurd h2 (by decide)
      · refine v_aload_n C0 (pc' := 944) 3 rfl rfl dL_law_943 rfl ?_
        refine v_aload_n C0 (pc' := 945) 4 rfl rfl dL_law_944 rfl ?_
        refine v_aload_n C0 (pc' := 946) 5 rfl rfl dL_law_945 rfl ?_
        refine v_aload C0 (pc' := 948) 6 rfl dL_law_946 rfl ?_
        refine v_aload C0 (pc' := 950) 7 rfl dL_law_948 rfl ?_
        refine v_aload C0 (pc' := 952) 8 rfl dL_law_950 rfl ?_
        refine v_aload C0 (pc' := 954) 9 rfl dL_law_952 rfl ?_
        refine v_bipush C0 (pc' := 956) (nI 55) (by decide +kernel) dL_law_954 rfl ?_
        refine v_callSN C0 (av := [.ref (ad 0), .ref na, .ref ua, .ref ta, .ref fa, .ref ca, .ref ba, .int (nI 55)]) (rest := []) (ws' := fun w => [(ba, .inl (cI, 36, .inl (nA xb))), (ca, .inl (cI, 36, .inl (nA xc))), (fa, .inl (cI, 36, .inl (nA xf))), (ta, .inl (cI, 36, .inl (nA xt))), (ua, .inl (cI, 36, .inl (nA xu))), (na, .inl (cI, 2, .inl (nA xn)))] ++ w) (pc' := 959) hK hA hEN (k_L_isNet l hst D na ua ta fa ca ba h hw (xX := 55) (by omega)) (va_cwS 8 C0.2.2.2.2 gL_law_L_isNet rfl rfl rfl (by decide +kernel) ⟨Nat.le_of_ble_eq_true rfl, Nat.le_of_ble_eq_true rfl⟩) (fun w => PLs.all) rfl rfl (Nat.le_of_ble_eq_true rfl) ⟨(by show k + 1435 ≤ 765924; omega), (by show n + 8850 ≤ 6803927; omega)⟩ dL_law_956 rfl (fun wn1 hwn1 => ?_)
        refine v_eqi (show (1 : Int32) = nI 1 from rfl) ?_
        refine v_if_eqN C0 966 (pc' := 962) (by omega) dL_law_959 (by decide) rfl (fun h3 => ?_) (fun h3 => ?_)
        · exact absurd h3 (by decide)
        · refine v_iconst C0 (pc' := 963) (nI 1) (by decide +kernel) dL_law_962 rfl ?_
          refine v_goto C0 967 dL_law_963 (by decide) ?_
          exact hend _ _ _ _ (by omega) (by omega)
    · exact absurd (by omega) h1
  | succ j ih =>
    intro i k n xu xt xf xc xb xn wx h hw hi hk hnn
    exact law_turn h0 h hw (by omega) (by omega) (by omega) (fun xu' xt' xf' xc' xb' xn' wx' hl' hw' => ih (i + 1) (k + 1436) (n + 8856) xu' xt' xf' xc' xb' xn' wx' hl' hw' (by omega) (by omega) (by omega))
theorem fill_at {f : Nat → Int32} {x : Int32} {k : Nat} (h : k < 36) : xFill f x 36 k = x := by unfold xFill; rw [if_pos h]
theorem start_L : LIs (fun _ => 0) (fun _ => 0) (fun _ => 0) (fun _ => 0) (fun _ => 0) (fun _ => 0) := by
  refine ⟨fun _ => Nat.zero_le _, fun _ => Nat.lt_of_lt_of_le Nat.zero_lt_one (by decide), fun _ => Nat.zero_le _, fun _ => Nat.zero_le _, fun _ => Nat.zero_le _, fun _ => Nat.zero_le _, Nat.zero_le _, fun k _ => ⟨Nat.zero_testBit 0, fun _ => Nat.zero_testBit _⟩, fun k _ h => absurd rfl h, ?_⟩
  exact fb_ct_zero.mpr (fun k _ => rfl)
theorem start_WQ (cI : ClassId) (ad : Nat → Nat) : WQ cI ad (fun _ => 0) (fun _ => 0) (fun _ => 0) (fun _ => 0) (fun _ => 0) (fun _ => 0) (wX cI ad (fun _ => 0) (fun _ => 0) (xFill (fun _ => 0) (-1) 36) (fun _ => 0) (xFill (fun _ => 0) (-1) 36) (s_X0_growTree_RU (xFill (fun _ => 0) (-1) 36) (fun _ => 0) (fun _ => 0)) (s_X0_growTree_RC (xFill (fun _ => 0) (-1) 36) (fun _ => 0) (fun _ => 0) (fun _ => 0) (fun _ => 0)) (s_X0_growTree_WU (xFill (fun _ => 0) (-1) 36) (fun _ => 0) (fun _ => 0) (fun _ => 0) (fun _ => 0) (fun _ => 0)) (fun _ => 0) (fun _ => 0) 0 (s_X0_growTree_WT (fun _ => 0)) (fun _ => 0) 0 0) :=
  ⟨_, _, _, _, _, _, _, _, _, _, _, rfl, PX_grow start_L (fun k hk => by rw [fill_at hk, fF, if_pos rfl]) (fun k _ h => absurd rfl h) (fun k hk => by rw [fill_at hk, fB, if_pos rfl])⟩
theorem ac_L_law : Cond.arrayClass .int ∈ wsL_law := List.mem_of_getElem? (i := 3) rfl
set_option maxHeartbeats 4000000 in
set_option maxRecDepth 100000 in
theorem law_start {p : Program} {l : Launch} {e : Env} {s : State} {m : MethodId} {args : Array Value} {below : List Frame} {meth : Method} {c : Code} {D : va_G} {A : Nat → Prop} {Q : State → Prop} {cI : ClassId} {b L : Nat} {xs : Nat → Int32} (h0 : LH p l m c s args D A cI b L xs) (hend : ∀ (k n : Nat) (ws : va_W) (lw : List (Nat × Value)), k ≤ 765924 → n ≤ 6803927 → V p l e room_1 s m args below meth c D A 19 k n Q ws lw 967 [.int (nI 1)]) : V p l e room_1 s m args below meth c D A 19 0 0 Q [] [(0, .ref b)] 0 [] := by
  obtain ⟨C0, hst, hK, hA, hEN, hX, hbl, hbA, hL⟩ := id h0
  refine v_new C0 hK hA (C := RX0) (T := TX0) (N := 15) (ci := 0) (fs := [.null, .null, .null, .null, .null, .null, .null, .null, .null, .null, .int 0, .null, .null, .int 0, .int 0]) (pc' := 3) inlX0 tyX0 tyX0_ok (List.mem_of_getElem? (i := 0) rfl) (List.mem_of_getElem? (i := 1) rfl) (List.mem_of_getElem? (i := 2) rfl) rfl (fun j hj => by rcases (show j = 0 ∨ j = 1 ∨ j = 2 ∨ j = 3 ∨ j = 4 ∨ j = 5 ∨ j = 6 ∨ j = 7 ∨ j = 8 ∨ j = 9 ∨ j = 10 ∨ j = 11 ∨ j = 12 ∨ j = 13 ∨ j = 14 by omega) with rfl | rfl | rfl | rfl | rfl | rfl | rfl | rfl | rfl | rfl | rfl | rfl | rfl | rfl | rfl <;> rfl) (Nat.le_of_ble_eq_true rfl) (Nat.le_of_ble_eq_true rfl) dL_law_0 rfl (fun q0 => ?_)
  refine v_dup C0 (pc' := 4) rfl dL_law_3 rfl ?_
  refine v_callC C0 (av := []) (rest := [.ref q0]) (W0 := [(q0, .inr (0, [.null, .null, .null, .null, .null, .null, .null, .null, .null, .null, .int 0, .null, .null, .int 0, .int 0]))]) (ws' := fun ad => wX cI ad (fun _ => 0) (fun _ => 0) (xFill (fun _ => 0) (-1) 36) (fun _ => 0) (xFill (fun _ => 0) (-1) 36) (s_X0_growTree_RU (xFill (fun _ => 0) (-1) 36) (fun _ => 0) (fun _ => 0)) (s_X0_growTree_RC (xFill (fun _ => 0) (-1) 36) (fun _ => 0) (fun _ => 0) (fun _ => 0) (fun _ => 0)) (s_X0_growTree_WU (xFill (fun _ => 0) (-1) 36) (fun _ => 0) (fun _ => 0) (fun _ => 0) (fun _ => 0) (fun _ => 0)) (fun _ => 0) (fun _ => 0) 0 (s_X0_growTree_WT (fun _ => 0)) (fun _ => 0) 0 0) (pc' := 7) hK hA (k_X0_init l D cI q0) (cwI 0 C0.2.2.2.2 gL_law_X0_init rfl rfl rfl (C0.2.2.2.2 _ (List.mem_of_getElem? (i := 2) rfl)) (C0.2.2.2.2 _ (List.mem_of_getElem? (i := 6) rfl)) (C0.2.2.2.2 _ (List.mem_of_getElem? (i := 7) rfl)) rfl (by decide +kernel) ⟨Nat.le_of_ble_eq_true rfl, Nat.le_of_ble_eq_true rfl⟩) (fun ad => PLs.all) rfl rfl (Nat.le_of_ble_eq_true rfl) ⟨Nat.le_of_ble_eq_true rfl, Nat.le_of_ble_eq_true rfl⟩ dL_law_4 rfl (fun ad had => ?_)
  have had : ad 0 = q0 := had
  subst had
  have hw := start_WQ cI ad
  generalize wX cI ad (fun _ => 0) (fun _ => 0) (xFill (fun _ => 0) (-1) 36) (fun _ => 0) (xFill (fun _ => 0) (-1) 36) (s_X0_growTree_RU (xFill (fun _ => 0) (-1) 36) (fun _ => 0) (fun _ => 0)) (s_X0_growTree_RC (xFill (fun _ => 0) (-1) 36) (fun _ => 0) (fun _ => 0) (fun _ => 0) (fun _ => 0)) (s_X0_growTree_WU (xFill (fun _ => 0) (-1) 36) (fun _ => 0) (fun _ => 0) (fun _ => 0) (fun _ => 0) (fun _ => 0)) (fun _ => 0) (fun _ => 0) 0 (s_X0_growTree_WT (fun _ => 0)) (fun _ => 0) 0 0 = wx at hw ⊢
  refine v_astore_n C0 (lv' := [(1, .ref (ad 0)), (0, .ref b)]) (pc' := 8) rfl (by decide) rfl dL_law_7 rfl ?_
  have h := start_L
  obtain ⟨hu, ht, hf, hc, hb, hn, hn1, hG, hS, hct⟩ := id h
  refine v_iconst C0 (pc' := 9) (nI 2) (by decide +kernel) dL_law_8 rfl ?_
  refine v_newN C0 hK hA 0 rfl (N := 2) (pc' := 11) (k' := 14) (n' := 449) (by decide) (Nat.le_of_ble_eq_true rfl) (Nat.le_of_ble_eq_true rfl) ac_L_law dL_law_9 rfl rfl rfl (fun na => ?_)
  refine v_world (ws' := [(na, .inl (cI, 2, .inl (nA (fun _ => 0))))] ++ wx) rfl ?_
  refine v_astore_n C0 (lv' := [(2, .ref na), (1, .ref (ad 0)), (0, .ref b)]) (pc' := 12) rfl (by decide) rfl dL_law_11 rfl ?_
  refine v_bipush C0 (pc' := 14) (nI 36) (by decide +kernel) dL_law_12 rfl ?_
  refine v_newN C0 hK hA 0 rfl (N := 36) (pc' := 16) (k' := 15) (n' := 485) (by decide) (Nat.le_of_ble_eq_true rfl) (Nat.le_of_ble_eq_true rfl) ac_L_law dL_law_14 rfl rfl rfl (fun ua => ?_)
  refine v_world (ws' := [(ua, .inl (cI, 36, .inl (nA (fun _ => 0)))), (na, .inl (cI, 2, .inl (nA (fun _ => 0))))] ++ wx) rfl ?_
  refine v_astore_n C0 (lv' := [(3, .ref ua), (2, .ref na), (1, .ref (ad 0)), (0, .ref b)]) (pc' := 17) rfl (by decide) rfl dL_law_16 rfl ?_
  refine v_bipush C0 (pc' := 19) (nI 36) (by decide +kernel) dL_law_17 rfl ?_
  refine v_newN C0 hK hA 0 rfl (N := 36) (pc' := 21) (k' := 16) (n' := 521) (by decide) (Nat.le_of_ble_eq_true rfl) (Nat.le_of_ble_eq_true rfl) ac_L_law dL_law_19 rfl rfl rfl (fun ta => ?_)
  refine v_world (ws' := [(ta, .inl (cI, 36, .inl (nA (fun _ => 0)))), (ua, .inl (cI, 36, .inl (nA (fun _ => 0)))), (na, .inl (cI, 2, .inl (nA (fun _ => 0))))] ++ wx) rfl ?_
  refine v_astore C0 (lv' := [(4, .ref ta), (3, .ref ua), (2, .ref na), (1, .ref (ad 0)), (0, .ref b)]) (pc' := 23) (by decide) rfl dL_law_21 rfl ?_
  refine v_bipush C0 (pc' := 25) (nI 36) (by decide +kernel) dL_law_23 rfl ?_
  refine v_newN C0 hK hA 0 rfl (N := 36) (pc' := 27) (k' := 17) (n' := 557) (by decide) (Nat.le_of_ble_eq_true rfl) (Nat.le_of_ble_eq_true rfl) ac_L_law dL_law_25 rfl rfl rfl (fun fa => ?_)
  refine v_world (ws' := [(fa, .inl (cI, 36, .inl (nA (fun _ => 0)))), (ta, .inl (cI, 36, .inl (nA (fun _ => 0)))), (ua, .inl (cI, 36, .inl (nA (fun _ => 0)))), (na, .inl (cI, 2, .inl (nA (fun _ => 0))))] ++ wx) rfl ?_
  refine v_astore C0 (lv' := [(5, .ref fa), (4, .ref ta), (3, .ref ua), (2, .ref na), (1, .ref (ad 0)), (0, .ref b)]) (pc' := 29) (by decide) rfl dL_law_27 rfl ?_
  refine v_bipush C0 (pc' := 31) (nI 36) (by decide +kernel) dL_law_29 rfl ?_
  refine v_newN C0 hK hA 0 rfl (N := 36) (pc' := 33) (k' := 18) (n' := 593) (by decide) (Nat.le_of_ble_eq_true rfl) (Nat.le_of_ble_eq_true rfl) ac_L_law dL_law_31 rfl rfl rfl (fun ca => ?_)
  refine v_world (ws' := [(ca, .inl (cI, 36, .inl (nA (fun _ => 0)))), (fa, .inl (cI, 36, .inl (nA (fun _ => 0)))), (ta, .inl (cI, 36, .inl (nA (fun _ => 0)))), (ua, .inl (cI, 36, .inl (nA (fun _ => 0)))), (na, .inl (cI, 2, .inl (nA (fun _ => 0))))] ++ wx) rfl ?_
  refine v_astore C0 (lv' := [(6, .ref ca), (5, .ref fa), (4, .ref ta), (3, .ref ua), (2, .ref na), (1, .ref (ad 0)), (0, .ref b)]) (pc' := 35) (by decide) rfl dL_law_33 rfl ?_
  refine v_bipush C0 (pc' := 37) (nI 36) (by decide +kernel) dL_law_35 rfl ?_
  refine v_newN C0 hK hA 0 rfl (N := 36) (pc' := 39) (k' := 19) (n' := 629) (by decide) (Nat.le_of_ble_eq_true rfl) (Nat.le_of_ble_eq_true rfl) ac_L_law dL_law_37 rfl rfl rfl (fun ba => ?_)
  refine v_world (ws' := [(ba, .inl (cI, 36, .inl (nA (fun _ => 0)))), (ca, .inl (cI, 36, .inl (nA (fun _ => 0)))), (fa, .inl (cI, 36, .inl (nA (fun _ => 0)))), (ta, .inl (cI, 36, .inl (nA (fun _ => 0)))), (ua, .inl (cI, 36, .inl (nA (fun _ => 0)))), (na, .inl (cI, 2, .inl (nA (fun _ => 0))))] ++ wx) rfl ?_
  refine v_astore C0 (lv' := [(7, .ref ba), (6, .ref ca), (5, .ref fa), (4, .ref ta), (3, .ref ua), (2, .ref na), (1, .ref (ad 0)), (0, .ref b)]) (pc' := 41) (by decide) rfl dL_law_39 rfl ?_
  refine v_aload_n C0 (pc' := 42) 6 rfl rfl dL_law_41 rfl ?_
  refine v_aload_n C0 (pc' := 43) 5 rfl rfl dL_law_42 rfl ?_
  refine v_aload_n C0 (pc' := 44) 4 rfl rfl dL_law_43 rfl ?_
  refine v_aload C0 (pc' := 46) 3 rfl dL_law_44 rfl ?_
  refine v_aload C0 (pc' := 48) 2 rfl dL_law_46 rfl ?_
  refine v_aload C0 (pc' := 50) 1 rfl dL_law_48 rfl ?_
  refine v_aload C0 (pc' := 52) 0 rfl dL_law_50 rfl ?_
  refine v_iconst C0 (pc' := 53) (nI 3) (by decide +kernel) dL_law_52 rfl ?_
  refine v_callSN C0 (av := [.ref (ad 0), .ref na, .ref ua, .ref ta, .ref fa, .ref ca, .ref ba, .int (nI 3)]) (rest := []) (ws' := fun w => [(ba, .inl (cI, 36, .inl (nA (fun _ => 0)))), (ca, .inl (cI, 36, .inl (nA (fun _ => 0)))), (fa, .inl (cI, 36, .inl (nA (fun _ => 0)))), (ta, .inl (cI, 36, .inl (nA (fun _ => 0)))), (ua, .inl (cI, 36, .inl (nA (fun _ => 0)))), (na, .inl (cI, 2, .inl (nA (fun _ => 0))))] ++ w) (pc' := 56) hK hA hEN (k_L_isNet l hst D na ua ta fa ca ba h hw (xX := 3) (by omega)) (va_cwS 8 C0.2.2.2.2 gL_law_L_isNet rfl rfl rfl (by decide +kernel) ⟨Nat.le_of_ble_eq_true rfl, Nat.le_of_ble_eq_true rfl⟩) (fun w => PLs.all) rfl rfl (Nat.le_of_ble_eq_true rfl) ⟨(by show 19 + 1435 ≤ 765924; omega), (by show 629 + 8850 ≤ 6803927; omega)⟩ dL_law_53 rfl (fun wn1 hwn1 => ?_)
  refine v_eqi (show (1 : Int32) = nI 1 from rfl) ?_
  refine v_istore C0 (lv' := [(8, .int (nI 1)), (7, .ref ba), (6, .ref ca), (5, .ref fa), (4, .ref ta), (3, .ref ua), (2, .ref na), (1, .ref (ad 0)), (0, .ref b)]) (pc' := 58) (by decide) rfl dL_law_56 rfl ?_
  refine v_iconst C0 (pc' := 59) (nI 0) (by decide +kernel) dL_law_58 rfl ?_
  refine v_istore C0 (lv' := [(9, .int (nI 0)), (8, .int (nI 1)), (7, .ref ba), (6, .ref ca), (5, .ref fa), (4, .ref ta), (3, .ref ua), (2, .ref na), (1, .ref (ad 0)), (0, .ref b)]) (pc' := 61) (by decide) rfl dL_law_59 rfl ?_
  exact v_sub (lv' := [(9, .int (nI 0)), (8, .int (nI 1)), (0, .ref b), (1, .ref (ad 0)), (2, .ref na), (3, .ref ua), (4, .ref ta), (5, .ref fa), (6, .ref ca), (7, .ref ba)]) [0, 1, 9, 8, 7, 6, 5, 4, 3, 2] rfl (law_loop h0 hend 120 0 _ _ _ _ _ _ _ _ wn1 h hwn1 (by omega) (Nat.le_of_ble_eq_true rfl) (Nat.le_of_ble_eq_true rfl))
