def s_X1_thrown (TH : Int32) : Int32 := TH
set_option maxHeartbeats 4000000 in
set_option maxRecDepth 100000 in
theorem k_X1_thrown (l : Launch) (D : va_G) (cI : ClassId) (bd : Nat → Nat) (U : Nat → Int32) (T : Nat → Int32) (F : Nat → Int32) (C : Nat → Int32) (B : Nat → Int32) (CM : Int32) (TR : Int32) (RO : Nat → Int32) (WY : Nat → Int32) (SU : Nat → Int32) (TH : Int32) (ST : Nat → Int32) (QU : Nat → Int32) (QN : Int32) (FE : Nat → Int32)  : Ki l yX1_thrown wsX1_thrown 0 0 0 0 D (TI cI) [.ref (bd 0)] (wY cI bd U T F C B CM TR RO WY SU TH ST QU QN FE) (wY cI bd U T F C B CM TR RO WY SU TH ST QU QN FE) (s_X1_thrown TH) := by
  refine Ki.of (cc := cX1_thrown) (maxL := 1) (rt := .int) (lv0 := [(0, .ref (bd 0))]) (by decide +kernel) rfl (Nat.le_of_ble_eq_true rfl) rfl ?_
  intro p e s m args below meth c A C0 hr hlk hK hA
  refine v_aload_n C0 (pc' := 1) 0 rfl rfl dX1_thrown_0 rfl ?_
  refine v_get C0 hK (C := RX1) (T := TX1) (N := 15) (pc' := 4) 0 10 rfl rfl rfl (by decide) in_X1_thrown fl_X1_thrown_43 rfl dX1_thrown_1 rfl ?_
  exact v_iret C0 hr hlk hK rfl dX1_thrown_4
def s_X1_in (number : Int32) (least : Int32) (most : Int32) : Int32 := if number < least then 0 else (if most < number then 0 else 1)
set_option maxHeartbeats 4000000 in
set_option maxRecDepth 100000 in
theorem k_X1_in (l : Launch) (D : va_G) (cI : ClassId)  (number : Int32) (least : Int32) (most : Int32) : Ki l yX1_in wsX1_in 0 0 0 0 D (TI cI) [.int number, .int least, .int most] ([]) ([]) (s_X1_in number least most) := by
  refine Ki.of (cc := cX1_in) (maxL := 3) (rt := .boolean) (lv0 := [(0, .int number), (1, .int least), (2, .int most)]) (by decide +kernel) rfl (Nat.le_of_ble_eq_true rfl) rfl ?_
  intro p e s m args below meth c A C0 hr hlk hK hA
  refine v_iload_n C0 (pc' := 1) 0 rfl rfl dX1_in_0 rfl ?_
  refine v_iload_n C0 (pc' := 2) 1 rfl rfl dX1_in_1 rfl ?_
  refine v_icmp_lt C0 14 (pc' := 5) dX1_in_2 (by decide) rfl (fun h1 => ?_) (fun h1 => ?_)
  · refine v_iconst C0 (pc' := 15) 0 (by decide) dX1_in_14 rfl ?_
    exact v_zret C0 hr hlk hK (Or.inl rfl : (0 : Int32) = 0 ∨ (0 : Int32) = 1) (by simp only [s_X1_in, if_pos h1]) dX1_in_15
  · refine v_iload_n C0 (pc' := 6) 0 rfl rfl dX1_in_5 rfl ?_
    refine v_iload_n C0 (pc' := 7) 2 rfl rfl dX1_in_6 rfl ?_
    refine v_icmp_gt C0 14 (pc' := 10) dX1_in_7 (by decide) rfl (fun h2 => ?_) (fun h2 => ?_)
    · refine v_iconst C0 (pc' := 15) 0 (by decide) dX1_in_14 rfl ?_
      exact v_zret C0 hr hlk hK (Or.inl rfl : (0 : Int32) = 0 ∨ (0 : Int32) = 1) (by simp only [s_X1_in, if_neg h1, if_pos h2]) dX1_in_15
    · refine v_iconst C0 (pc' := 11) 1 (by decide) dX1_in_10 rfl ?_
      refine v_goto C0 15 dX1_in_11 (by decide) ?_
      exact v_zret C0 hr hlk hK (Or.inr rfl : (1 : Int32) = 0 ∨ (1 : Int32) = 1) (by simp only [s_X1_in, if_neg h1, if_neg h2]) dX1_in_15
theorem b_X1_in (number : Int32) (least : Int32) (most : Int32) : s_X1_in number least most = 0 ∨ s_X1_in number least most = 1 := by unfold s_X1_in; (repeat' split) <;> first | exact Or.inl rfl | exact Or.inr rfl
def s_X1_isPort (unit : Int32) (port : Int32) : Int32 := if (s_X1_in unit 0 5) = 0 then 0 else (if (s_X1_in port 0 5) = 0 then 0 else 1)
set_option maxHeartbeats 4000000 in
set_option maxRecDepth 100000 in
theorem k_X1_isPort (l : Launch) (D : va_G) (cI : ClassId)  (unit : Int32) (port : Int32) : Ki l yX1_isPort wsX1_isPort 1 22 0 0 D (TI cI) [.int unit, .int port] ([]) ([]) (s_X1_isPort unit port) := by
  refine Ki.of (cc := cX1_isPort) (maxL := 2) (rt := .boolean) (lv0 := [(0, .int unit), (1, .int port)]) (by decide +kernel) rfl (Nat.le_of_ble_eq_true rfl) rfl ?_
  intro p e s m args below meth c A C0 hr hlk hK hA
  refine v_iload_n C0 (pc' := 1) 0 rfl rfl dX1_isPort_0 rfl ?_
  refine v_iconst C0 (pc' := 2) 0 (by decide) dX1_isPort_1 rfl ?_
  refine v_iconst C0 (pc' := 3) 5 (by decide) dX1_isPort_2 rfl ?_
  refine v_callSi0 C0 (av := [.int unit, .int 0, .int 5]) (rest := []) (ws' := []) (pc' := 6) hK hA (k_X1_in l D cI unit 0 5) (va_cwS 3 C0.2.2.2.2 gX1_isPort_X1_in rfl rfl rfl (by decide +kernel) ⟨Nat.le_of_ble_eq_true rfl, Nat.le_of_ble_eq_true rfl⟩) PLs.nil rfl rfl (Nat.le_of_ble_eq_true rfl) ⟨Nat.zero_le _, Nat.zero_le _⟩ dX1_isPort_3 rfl ?_
  refine v_if_eq C0 22 (pc' := 9) dX1_isPort_6 (by decide) rfl (fun h1 => ?_) (fun h1 => ?_)
  · refine v_iconst C0 (pc' := 23) 0 (by decide) dX1_isPort_22 rfl ?_
    exact v_zret C0 hr hlk hK (Or.inl rfl : (0 : Int32) = 0 ∨ (0 : Int32) = 1) (by simp only [s_X1_isPort, if_pos h1]) dX1_isPort_23
  · refine v_iload_n C0 (pc' := 10) 1 rfl rfl dX1_isPort_9 rfl ?_
    refine v_iconst C0 (pc' := 11) 0 (by decide) dX1_isPort_10 rfl ?_
    refine v_iconst C0 (pc' := 12) 5 (by decide) dX1_isPort_11 rfl ?_
    refine v_callSi0 C0 (av := [.int port, .int 0, .int 5]) (rest := []) (ws' := []) (pc' := 15) hK hA (k_X1_in l D cI port 0 5) (va_cwS 3 C0.2.2.2.2 gX1_isPort_X1_in rfl rfl rfl (by decide +kernel) ⟨Nat.le_of_ble_eq_true rfl, Nat.le_of_ble_eq_true rfl⟩) PLs.nil rfl rfl (Nat.le_of_ble_eq_true rfl) ⟨Nat.zero_le _, Nat.zero_le _⟩ dX1_isPort_12 rfl ?_
    refine v_if_eq C0 22 (pc' := 18) dX1_isPort_15 (by decide) rfl (fun h2 => ?_) (fun h2 => ?_)
    · refine v_iconst C0 (pc' := 23) 0 (by decide) dX1_isPort_22 rfl ?_
      exact v_zret C0 hr hlk hK (Or.inl rfl : (0 : Int32) = 0 ∨ (0 : Int32) = 1) (by simp only [s_X1_isPort, if_neg h1, if_pos h2]) dX1_isPort_23
    · refine v_iconst C0 (pc' := 19) 1 (by decide) dX1_isPort_18 rfl ?_
      refine v_goto C0 23 dX1_isPort_19 (by decide) ?_
      exact v_zret C0 hr hlk hK (Or.inr rfl : (1 : Int32) = 0 ∨ (1 : Int32) = 1) (by simp only [s_X1_isPort, if_neg h1, if_neg h2]) dX1_isPort_23
theorem b_X1_isPort (unit : Int32) (port : Int32) : s_X1_isPort unit port = 0 ∨ s_X1_isPort unit port = 1 := by unfold s_X1_isPort; (repeat' split) <;> first | exact Or.inl rfl | exact Or.inr rfl
def s_X1_isPlace (unit : Int32) (lane : Int32) : Int32 := if (s_X1_in unit 0 5) = 0 then 0 else (if (s_X1_in lane 1 15) = 0 then 0 else 1)
set_option maxHeartbeats 4000000 in
set_option maxRecDepth 100000 in
theorem k_X1_isPlace (l : Launch) (D : va_G) (cI : ClassId)  (unit : Int32) (lane : Int32) : Ki l yX1_isPlace wsX1_isPlace 1 22 0 0 D (TI cI) [.int unit, .int lane] ([]) ([]) (s_X1_isPlace unit lane) := by
  refine Ki.of (cc := cX1_isPlace) (maxL := 2) (rt := .boolean) (lv0 := [(0, .int unit), (1, .int lane)]) (by decide +kernel) rfl (Nat.le_of_ble_eq_true rfl) rfl ?_
  intro p e s m args below meth c A C0 hr hlk hK hA
  refine v_iload_n C0 (pc' := 1) 0 rfl rfl dX1_isPlace_0 rfl ?_
  refine v_iconst C0 (pc' := 2) 0 (by decide) dX1_isPlace_1 rfl ?_
  refine v_iconst C0 (pc' := 3) 5 (by decide) dX1_isPlace_2 rfl ?_
  refine v_callSi0 C0 (av := [.int unit, .int 0, .int 5]) (rest := []) (ws' := []) (pc' := 6) hK hA (k_X1_in l D cI unit 0 5) (va_cwS 3 C0.2.2.2.2 gX1_isPlace_X1_in rfl rfl rfl (by decide +kernel) ⟨Nat.le_of_ble_eq_true rfl, Nat.le_of_ble_eq_true rfl⟩) PLs.nil rfl rfl (Nat.le_of_ble_eq_true rfl) ⟨Nat.zero_le _, Nat.zero_le _⟩ dX1_isPlace_3 rfl ?_
  refine v_if_eq C0 23 (pc' := 9) dX1_isPlace_6 (by decide) rfl (fun h1 => ?_) (fun h1 => ?_)
  · refine v_iconst C0 (pc' := 24) 0 (by decide) dX1_isPlace_23 rfl ?_
    exact v_zret C0 hr hlk hK (Or.inl rfl : (0 : Int32) = 0 ∨ (0 : Int32) = 1) (by simp only [s_X1_isPlace, if_pos h1]) dX1_isPlace_24
  · refine v_iload_n C0 (pc' := 10) 1 rfl rfl dX1_isPlace_9 rfl ?_
    refine v_iconst C0 (pc' := 11) 1 (by decide) dX1_isPlace_10 rfl ?_
    refine v_bipush C0 (pc' := 13) 15 (by decide) dX1_isPlace_11 rfl ?_
    refine v_callSi0 C0 (av := [.int lane, .int 1, .int 15]) (rest := []) (ws' := []) (pc' := 16) hK hA (k_X1_in l D cI lane 1 15) (va_cwS 3 C0.2.2.2.2 gX1_isPlace_X1_in rfl rfl rfl (by decide +kernel) ⟨Nat.le_of_ble_eq_true rfl, Nat.le_of_ble_eq_true rfl⟩) PLs.nil rfl rfl (Nat.le_of_ble_eq_true rfl) ⟨Nat.zero_le _, Nat.zero_le _⟩ dX1_isPlace_13 rfl ?_
    refine v_if_eq C0 23 (pc' := 19) dX1_isPlace_16 (by decide) rfl (fun h2 => ?_) (fun h2 => ?_)
    · refine v_iconst C0 (pc' := 24) 0 (by decide) dX1_isPlace_23 rfl ?_
      exact v_zret C0 hr hlk hK (Or.inl rfl : (0 : Int32) = 0 ∨ (0 : Int32) = 1) (by simp only [s_X1_isPlace, if_neg h1, if_pos h2]) dX1_isPlace_24
    · refine v_iconst C0 (pc' := 20) 1 (by decide) dX1_isPlace_19 rfl ?_
      refine v_goto C0 24 dX1_isPlace_20 (by decide) ?_
      exact v_zret C0 hr hlk hK (Or.inr rfl : (1 : Int32) = 0 ∨ (1 : Int32) = 1) (by simp only [s_X1_isPlace, if_neg h1, if_neg h2]) dX1_isPlace_24
theorem b_X1_isPlace (unit : Int32) (lane : Int32) : s_X1_isPlace unit lane = 0 ∨ s_X1_isPlace unit lane = 1 := by unfold s_X1_isPlace; (repeat' split) <;> first | exact Or.inl rfl | exact Or.inr rfl
theorem in_le {x a b : Int32} (h : ¬ s_X1_in x a b = 0) : a ≤ x ∧ x ≤ b := by
  unfold s_X1_in at h
  split at h
  · exact absurd rfl h
  · rename_i h1
    split at h
    · exact absurd rfl h
    · rename_i h2
      exact ⟨Int32.not_lt.mp h1, Int32.not_lt.mp h2⟩
theorem in_vp {x : Int32} {n : Nat} (hn : n + 1 < 2 ^ 31) (h : ¬ s_X1_in x 0 (nI n) = 0) : vp_in x (n + 1) := by
  obtain ⟨h1, h2⟩ := in_le h
  obtain ⟨j, hj, rfl⟩ := nI_of2 (M := nI n) (n := n) (nI_toInt (by omega)) (Int32.not_lt.mpr h1) h2
  exact vp_in_nI (by omega) hn
theorem isPort_vp {u p : Int32} (h : ¬ s_X1_isPort u p = 0) : vp_in u 6 ∧ vp_in p 6 := by
  unfold s_X1_isPort at h
  split at h
  · exact absurd rfl h
  · rename_i h1
    split at h
    · exact absurd rfl h
    · rename_i h2
      exact ⟨in_vp (n := 5) (by decide) h1, in_vp (n := 5) (by decide) h2⟩
theorem isPort_in {u p : Int32} (h : ¬ s_X1_isPort u p = 0) : vp_in (6 * u + p) 36 := port_in (isPort_vp h).1 (isPort_vp h).2
theorem isPlace_vp {u l : Int32} (h : ¬ s_X1_isPlace u l = 0) : vp_in u 6 ∧ vp_in l 16 := by
  unfold s_X1_isPlace at h
  split at h
  · exact absurd rfl h
  · rename_i h1
    split at h
    · exact absurd rfl h
    · rename_i h2
      refine ⟨in_vp (n := 5) (by decide) h1, ?_⟩
      obtain ⟨h3, h4⟩ := in_le h2
      obtain ⟨j, hj, rfl⟩ := nI_of2 (M := nI 15) (n := 15) (nI_toInt (by omega)) (Int32.not_lt.mpr (Int32.le_trans (by decide) h3)) h4
      exact vp_in_nI (by omega) (by decide)
def s_X1_place (unit : Int32) (lane : Int32) : Int32 := (16 * unit) + lane
set_option maxHeartbeats 4000000 in
set_option maxRecDepth 100000 in
theorem k_X1_place (l : Launch) (D : va_G) (cI : ClassId)  (unit : Int32) (lane : Int32) : Ki l yX1_place wsX1_place 0 0 0 0 D (TI cI) [.int unit, .int lane] ([]) ([]) (s_X1_place unit lane) := by
  refine Ki.of (cc := cX1_place) (maxL := 2) (rt := .int) (lv0 := [(0, .int unit), (1, .int lane)]) (by decide +kernel) rfl (Nat.le_of_ble_eq_true rfl) rfl ?_
  intro p e s m args below meth c A C0 hr hlk hK hA
  refine v_bipush C0 (pc' := 2) 16 (by decide) dX1_place_0 rfl ?_
  refine v_iload_n C0 (pc' := 3) 0 rfl rfl dX1_place_2 rfl ?_
  refine v_imul C0 (pc' := 4) dX1_place_3 rfl ?_
  refine v_iload_n C0 (pc' := 5) 1 rfl rfl dX1_place_4 rfl ?_
  refine v_iadd C0 (pc' := 6) dX1_place_5 rfl ?_
  exact v_iret C0 hr hlk hK rfl dX1_place_6
def s_X1_bits_L1 (set : Int32) (i1 : Nat) (n_L1 : Int32) : Int32 := (n_L1 + ((set >>> ((nI i1) &&& 31)) &&& 1))
def s_X1_bits (set : Int32) : Int32 := (lp (s_X1_bits_L1 set) 16 0)
set_option maxHeartbeats 4000000 in
set_option maxRecDepth 100000 in
theorem k_X1_bits (l : Launch) (D : va_G) (cI : ClassId)  (set : Int32) : Ki l yX1_bits wsX1_bits 0 0 0 0 D (TI cI) [.int set] ([]) ([]) (s_X1_bits set) := by
  refine Ki.of (cc := cX1_bits) (maxL := 3) (rt := .int) (lv0 := [(0, .int set)]) (by decide +kernel) rfl (Nat.le_of_ble_eq_true rfl) rfl ?_
  intro p e s m args below meth c A C0 hr hlk hK hA
  refine v_iconst C0 (pc' := 1) 0 (by decide) dX1_bits_0 rfl ?_
  refine v_istore_n C0 (lv' := [(1, .int 0), (0, .int set)]) (pc' := 2) rfl (by decide) rfl dX1_bits_1 rfl ?_
  refine v_iconst C0 (pc' := 3) 0 (by decide) dX1_bits_2 rfl ?_
  refine v_istore_n C0 (lv' := [(2, .int 0), (1, .int 0), (0, .int set)]) (pc' := 4) rfl (by decide) rfl dX1_bits_3 rfl ?_
  suffices LP1 : ∀ (j1 i1 : Nat) (x1 : Int32) (n_L1 : Int32), i1 + j1 = 16 → x1 = nI i1 → n_L1 = lp (s_X1_bits_L1 set) i1 0 → V p l e { frames := 0, cells := 0, slots := 0, locals := 0 } s m args below meth c D A 3 0 0 (MQ below (QI D (TI cI) ([]) A (s_X1_bits set)) args s 0 0 A) ([]) [(2, .int x1), (1, .int n_L1), (0, .int set)] 4 [] by
    exact v_sub (lv' := [(2, .int 0), (1, .int 0), (0, .int set)]) [0, 1, 2] rfl (LP1 16 0 0 0 (Nat.zero_add _) nI_0.symm (lp_zero _ _).symm)
  intro j1
  induction j1 with
  | zero =>
    intro i1 x1 n_L1 hi1 hx1 hs_L1
    have hi1 : 16 = i1 := by omega
    subst hi1
    subst hx1
    refine v_iload_n C0 (pc' := 5) 0 rfl rfl dX1_bits_4 rfl ?_
    refine v_bipush C0 (pc' := 7) 16 (by decide) dX1_bits_5 rfl ?_
    refine v_icmp_ge C0 24 (pc' := 10) dX1_bits_7 (by decide) rfl (fun h1 => ?_) (fun h1 => ?_)
    · refine v_iload_n C0 (pc' := 25) 1 rfl rfl dX1_bits_24 rfl ?_
      exact v_iret C0 hr hlk hK (by simp only [s_X1_bits, if_pos h1, ← hs_L1]) dX1_bits_25
    · exact absurd (by decide +kernel) h1
  | succ j1 ih1 =>
    intro i1 x1 n_L1 hi1 hx1 hs_L1
    subst hx1
    refine v_iload_n C0 (pc' := 5) 0 rfl rfl dX1_bits_4 rfl ?_
    refine v_bipush C0 (pc' := 7) 16 (by decide) dX1_bits_5 rfl ?_
    refine v_icmp_ge C0 24 (pc' := 10) dX1_bits_7 (by decide) rfl (fun h2 => ?_) (fun h2 => ?_)
    · exact absurd h2 (nI_ge (a := i1) (b := 16) (by omega) (by decide))
    · refine v_iload_n C0 (pc' := 11) 1 rfl rfl dX1_bits_10 rfl ?_
      refine v_iload_n C0 (pc' := 12) 2 rfl rfl dX1_bits_11 rfl ?_
      refine v_iload_n C0 (pc' := 13) 0 rfl rfl dX1_bits_12 rfl ?_
      refine v_ishr C0 (pc' := 14) dX1_bits_13 rfl ?_
      refine v_iconst C0 (pc' := 15) 1 (by decide) dX1_bits_14 rfl ?_
      refine v_iand C0 (pc' := 16) dX1_bits_15 rfl ?_
      refine v_iadd C0 (pc' := 17) dX1_bits_16 rfl ?_
      refine v_istore_n C0 (lv' := [(1, .int (n_L1 + ((set >>> ((nI i1) &&& 31)) &&& 1))), (2, .int (nI i1)), (0, .int set)]) (pc' := 18) rfl (by decide) rfl dX1_bits_17 rfl ?_
      refine v_iinc C0 (lv' := [(2, .int ((nI i1) + 1)), (1, .int (n_L1 + ((set >>> ((nI i1) &&& 31)) &&& 1))), (0, .int set)]) (pc' := 21) 1 rfl ((nI i1) + 1) rfl (by decide) rfl dX1_bits_18 rfl ?_
      refine v_goto C0 4 dX1_bits_21 (by decide) ?_
      exact v_sub (lv' := [(2, .int ((nI i1) + 1)), (1, .int (n_L1 + ((set >>> ((nI i1) &&& 31)) &&& 1))), (0, .int set)]) [0, 1, 2] rfl (ih1 (i1 + 1) ((nI i1) + 1) (n_L1 + ((set >>> ((nI i1) &&& 31)) &&& 1)) (by omega) (by rw [nI_1]) (by rw [lp_succ, ← hs_L1]; simp only [s_X1_bits_L1, if_neg h2]))
def s_X1_isTagged (T : Nat → Int32) (sl : Int32) (lane : Int32) : Int32 := if (((xAt 36 T sl) >>> (lane &&& 31)) &&& 1) = 1 then 1 else 0
set_option maxHeartbeats 4000000 in
set_option maxRecDepth 100000 in
theorem k_X1_isTagged (l : Launch) (D : va_G) (cI : ClassId) (bd : Nat → Nat) (U : Nat → Int32) (T : Nat → Int32) (F : Nat → Int32) (C : Nat → Int32) (B : Nat → Int32) (CM : Int32) (TR : Int32) (RO : Nat → Int32) (WY : Nat → Int32) (SU : Nat → Int32) (TH : Int32) (ST : Nat → Int32) (QU : Nat → Int32) (QN : Int32) (FE : Nat → Int32) (sl : Int32) (lane : Int32) (hat : vp_in sl 36) : Ki l yX1_isTagged wsX1_isTagged 0 0 0 0 D (TI cI) [.ref (bd 0), .int sl, .int lane] (wY cI bd U T F C B CM TR RO WY SU TH ST QU QN FE) (wY cI bd U T F C B CM TR RO WY SU TH ST QU QN FE) (s_X1_isTagged T sl lane) := by
  refine Ki.of (cc := cX1_isTagged) (maxL := 3) (rt := .boolean) (lv0 := [(0, .ref (bd 0)), (1, .int sl), (2, .int lane)]) (by decide +kernel) rfl (Nat.le_of_ble_eq_true rfl) rfl ?_
  intro p e s m args below meth c A C0 hr hlk hK hA
  refine v_aload_n C0 (pc' := 1) 0 rfl rfl dX1_isTagged_0 rfl ?_
  refine v_get C0 hK (C := RX1) (T := TX1) (N := 15) (pc' := 4) 0 1 rfl rfl rfl (by decide) in_X1_isTagged fl_X1_isTagged_13 rfl dX1_isTagged_1 rfl ?_
  refine v_iload_n C0 (pc' := 5) 1 rfl rfl dX1_isTagged_4 rfl ?_
  refine v_ialx C0 hK (pc' := 6) 2 0 rfl rfl hat (by decide) dX1_isTagged_5 rfl ?_
  refine v_iload_n C0 (pc' := 7) 2 rfl rfl dX1_isTagged_6 rfl ?_
  refine v_ishr C0 (pc' := 8) dX1_isTagged_7 rfl ?_
  refine v_iconst C0 (pc' := 9) 1 (by decide) dX1_isTagged_8 rfl ?_
  refine v_iand C0 (pc' := 10) dX1_isTagged_9 rfl ?_
  refine v_iconst C0 (pc' := 11) 1 (by decide) dX1_isTagged_10 rfl ?_
  refine v_icmp_ne C0 18 (pc' := 14) dX1_isTagged_11 (by decide) rfl (fun h1 => ?_) (fun h1 => ?_)
  · refine v_iconst C0 (pc' := 19) 0 (by decide) dX1_isTagged_18 rfl ?_
    exact v_zret C0 hr hlk hK (Or.inl rfl : (0 : Int32) = 0 ∨ (0 : Int32) = 1) (by simp only [s_X1_isTagged, if_neg h1]) dX1_isTagged_19
  · refine v_iconst C0 (pc' := 15) 1 (by decide) dX1_isTagged_14 rfl ?_
    refine v_goto C0 19 dX1_isTagged_15 (by decide) ?_
    exact v_zret C0 hr hlk hK (Or.inr rfl : (1 : Int32) = 0 ∨ (1 : Int32) = 1) (by simp only [s_X1_isTagged, if_pos h1]) dX1_isTagged_19
theorem b_X1_isTagged (T : Nat → Int32) (sl : Int32) (lane : Int32) : s_X1_isTagged T sl lane = 0 ∨ s_X1_isTagged T sl lane = 1 := by unfold s_X1_isTagged; (repeat' split) <;> first | exact Or.inl rfl | exact Or.inr rfl
def s_X1_untag (U : Nat → Int32) (T : Nat → Int32) (unit : Int32) (port : Int32) (lane : Int32) : Int32 := if (s_X1_isPort unit port) = 0 then 0 else (if (s_X1_in lane 0 15) = 0 then 0 else (if (s_X1_isTagged T ((6 * unit) + port) lane) = 0 then xAt 36 U ((6 * unit) + port) else 0))
def s_X1_untag_U (U : Nat → Int32) (T : Nat → Int32) (unit : Int32) (port : Int32) (lane : Int32) : Nat → Int32 := if (s_X1_isPort unit port) = 0 then U else (if (s_X1_in lane 0 15) = 0 then U else (if (s_X1_isTagged T ((6 * unit) + port) lane) = 0 then (xPut 36 U ((6 * unit) + port) lane) else U))
def s_X1_untag_TH (T : Nat → Int32) (unit : Int32) (port : Int32) (lane : Int32) : Int32 := if (s_X1_isPort unit port) = 0 then 1 else (if (s_X1_in lane 0 15) = 0 then 1 else (if (s_X1_isTagged T ((6 * unit) + port) lane) = 0 then 0 else 2))
set_option maxHeartbeats 4000000 in
set_option maxRecDepth 100000 in
theorem k_X1_untag (l : Launch) (D : va_G) (cI : ClassId) (bd : Nat → Nat) (U : Nat → Int32) (T : Nat → Int32) (F : Nat → Int32) (C : Nat → Int32) (B : Nat → Int32) (CM : Int32) (TR : Int32) (RO : Nat → Int32) (WY : Nat → Int32) (SU : Nat → Int32) (TH : Int32) (ST : Nat → Int32) (QU : Nat → Int32) (QN : Int32) (FE : Nat → Int32) (unit : Int32) (port : Int32) (lane : Int32) : Ki l yX1_untag wsX1_untag 2 43 0 0 D (TI cI) [.ref (bd 0), .int unit, .int port, .int lane] (wY cI bd U T F C B CM TR RO WY SU TH ST QU QN FE) (wY cI bd (s_X1_untag_U U T unit port lane) T F C B CM TR RO WY SU (s_X1_untag_TH T unit port lane) ST QU QN FE) (s_X1_untag U T unit port lane) := by
  refine Ki.of (cc := cX1_untag) (maxL := 6) (rt := .int) (lv0 := [(0, .ref (bd 0)), (1, .int unit), (2, .int port), (3, .int lane)]) (by decide +kernel) rfl (Nat.le_of_ble_eq_true rfl) rfl ?_
  intro p e s m args below meth c A C0 hr hlk hK hA
  refine v_bipush C0 (pc' := 2) 6 (by decide) dX1_untag_0 rfl ?_
  refine v_iload_n C0 (pc' := 3) 1 rfl rfl dX1_untag_2 rfl ?_
  refine v_imul C0 (pc' := 4) dX1_untag_3 rfl ?_
  refine v_iload_n C0 (pc' := 5) 2 rfl rfl dX1_untag_4 rfl ?_
  refine v_iadd C0 (pc' := 6) dX1_untag_5 rfl ?_
  refine v_istore C0 (lv' := [(4, .int ((6 * unit) + port)), (0, .ref (bd 0)), (1, .int unit), (2, .int port), (3, .int lane)]) (pc' := 8) (by decide) rfl dX1_untag_6 rfl ?_
  refine v_aload_n C0 (pc' := 9) 1 rfl rfl dX1_untag_8 rfl ?_
  refine v_iload_n C0 (pc' := 10) 2 rfl rfl dX1_untag_9 rfl ?_
  refine v_iload_n C0 (pc' := 11) 3 rfl rfl dX1_untag_10 rfl ?_
  refine v_callSi0 C0 (av := [.int unit, .int port]) (rest := [.ref (bd 0)]) (ws' := wY cI bd U T F C B CM TR RO WY SU TH ST QU QN FE) (pc' := 14) hK hA (k_X1_isPort l D cI unit port) (va_cwS 2 C0.2.2.2.2 gX1_untag_X1_isPort rfl rfl rfl (by decide +kernel) ⟨Nat.le_of_ble_eq_true rfl, Nat.le_of_ble_eq_true rfl⟩) PLs.nil rfl rfl (Nat.le_of_ble_eq_true rfl) ⟨Nat.zero_le _, Nat.zero_le _⟩ dX1_untag_11 rfl ?_
  refine v_if_eq C0 27 (pc' := 17) dX1_untag_14 (by decide) rfl (fun h1 => ?_) (fun h1 => ?_)
  · refine v_iconst C0 (pc' := 28) 1 (by decide) dX1_untag_27 rfl ?_
    refine v_goto C0 46 dX1_untag_28 (by decide) ?_
    refine v_put C0 hK (C := RX1) (T := TX1) (N := 15) (ws' := wY cI bd U T F C B CM TR RO WY SU 1 ST QU QN FE) (pc' := 49) 0 10 tyX1 rfl rfl rfl (by decide) (Nat.le_of_ble_eq_true rfl) tyX1_ok nmX1 in_X1_untag fl_X1_untag_43 rfl rfl rfl rfl rfl dX1_untag_46 rfl ?_
    refine v_aload_n C0 (pc' := 50) 1 rfl rfl dX1_untag_49 rfl ?_
    refine v_get C0 hK (C := RX1) (T := TX1) (N := 15) (pc' := 53) 0 10 rfl rfl rfl (by decide) in_X1_untag fl_X1_untag_43 rfl dX1_untag_50 rfl ?_
    refine v_if_le C0 58 (pc' := 56) dX1_untag_53 (by decide) rfl (fun h2 => ?_) (fun h2 => ?_)
    · exact absurd h2 (by decide)
    · refine v_iconst C0 (pc' := 57) 0 (by decide) dX1_untag_56 rfl ?_
      refine v_world (ws' := wY cI bd (s_X1_untag_U U T unit port lane) T F C B CM TR RO WY SU (s_X1_untag_TH T unit port lane) ST QU QN FE) (by simp only [s_X1_untag, s_X1_untag_U, s_X1_untag_TH, if_pos h1]) ?_
      exact v_iret C0 hr hlk hK (by simp only [s_X1_untag, s_X1_untag_U, s_X1_untag_TH, if_pos h1]) dX1_untag_57
  · refine v_iload_n C0 (pc' := 18) 4 rfl rfl dX1_untag_17 rfl ?_
    refine v_iconst C0 (pc' := 19) 0 (by decide) dX1_untag_18 rfl ?_
    refine v_bipush C0 (pc' := 21) 15 (by decide) dX1_untag_19 rfl ?_
    refine v_callSi0 C0 (av := [.int lane, .int 0, .int 15]) (rest := [.ref (bd 0)]) (ws' := wY cI bd U T F C B CM TR RO WY SU TH ST QU QN FE) (pc' := 24) hK hA (k_X1_in l D cI lane 0 15) (va_cwS 3 C0.2.2.2.2 gX1_untag_X1_in rfl rfl rfl (by decide +kernel) ⟨Nat.le_of_ble_eq_true rfl, Nat.le_of_ble_eq_true rfl⟩) PLs.nil rfl rfl (Nat.le_of_ble_eq_true rfl) ⟨Nat.zero_le _, Nat.zero_le _⟩ dX1_untag_21 rfl ?_
    refine v_if_ne C0 31 (pc' := 27) dX1_untag_24 (by decide) rfl (fun h3 => ?_) (fun h3 => ?_)
    · refine v_aload_n C0 (pc' := 32) 1 rfl rfl dX1_untag_31 rfl ?_
      refine v_iload C0 (pc' := 34) 0 rfl dX1_untag_32 rfl ?_
      refine v_iload_n C0 (pc' := 35) 4 rfl rfl dX1_untag_34 rfl ?_
      refine v_callVi0 C0 (av := [.int ((6 * unit) + port), .int lane]) (rest := [.ref (bd 0)]) (ws' := wY cI bd U T F C B CM TR RO WY SU TH ST QU QN FE) (pc' := 38) hK hA (k_X1_isTagged l D cI bd U T F C B CM TR RO WY SU TH ST QU QN FE ((6 * unit) + port) lane (isPort_in h1)) (cwV 2 C0.2.2.2.2 gX1_untag_X1_isTagged rfl rfl rfl (by decide +kernel) ⟨Nat.le_of_ble_eq_true rfl, Nat.le_of_ble_eq_true rfl⟩) ⟨0, 1, _, _, _, rfl, rfl⟩ PLs.all rfl rfl (Nat.le_of_ble_eq_true rfl) ⟨Nat.zero_le _, Nat.zero_le _⟩ dX1_untag_35 rfl ?_
      refine v_if_eq C0 45 (pc' := 41) dX1_untag_38 (by decide) rfl (fun h4 => ?_) (fun h4 => ?_)
      · refine v_iconst C0 (pc' := 46) 0 (by decide) dX1_untag_45 rfl ?_
        refine v_put C0 hK (C := RX1) (T := TX1) (N := 15) (ws' := wY cI bd U T F C B CM TR RO WY SU 0 ST QU QN FE) (pc' := 49) 0 10 tyX1 rfl rfl rfl (by decide) (Nat.le_of_ble_eq_true rfl) tyX1_ok nmX1 in_X1_untag fl_X1_untag_43 rfl rfl rfl rfl rfl dX1_untag_46 rfl ?_
        refine v_aload_n C0 (pc' := 50) 1 rfl rfl dX1_untag_49 rfl ?_
        refine v_get C0 hK (C := RX1) (T := TX1) (N := 15) (pc' := 53) 0 10 rfl rfl rfl (by decide) in_X1_untag fl_X1_untag_43 rfl dX1_untag_50 rfl ?_
        refine v_if_le C0 58 (pc' := 56) dX1_untag_53 (by decide) rfl (fun h5 => ?_) (fun h5 => ?_)
        · refine v_aload_n C0 (pc' := 59) 1 rfl rfl dX1_untag_58 rfl ?_
          refine v_get C0 hK (C := RX1) (T := TX1) (N := 15) (pc' := 62) 0 0 rfl rfl rfl (by decide) in_X1_untag fl_X1_untag_7 rfl dX1_untag_59 rfl ?_
          refine v_iload C0 (pc' := 64) 0 rfl dX1_untag_62 rfl ?_
          refine v_ialx C0 hK (pc' := 65) 1 0 rfl rfl (isPort_in h1) (by decide) dX1_untag_64 rfl ?_
          refine v_istore C0 (lv' := [(5, .int (xAt 36 U ((6 * unit) + port))), (4, .int ((6 * unit) + port)), (0, .ref (bd 0)), (1, .int unit), (2, .int port), (3, .int lane)]) (pc' := 67) (by decide) rfl dX1_untag_65 rfl ?_
          refine v_aload_n C0 (pc' := 68) 2 rfl rfl dX1_untag_67 rfl ?_
          refine v_get C0 hK (C := RX1) (T := TX1) (N := 15) (pc' := 71) 0 0 rfl rfl rfl (by decide) in_X1_untag fl_X1_untag_7 rfl dX1_untag_68 rfl ?_
          refine v_iload C0 (pc' := 73) 1 rfl dX1_untag_71 rfl ?_
          refine v_iload_n C0 (pc' := 74) 5 rfl rfl dX1_untag_73 rfl ?_
          refine v_iasx C0 hK (ws' := wY cI bd (xPut 36 U ((6 * unit) + port) lane) T F C B CM TR RO WY SU 0 ST QU QN FE) (pc' := 75) 1 0 rfl rfl rfl (isPort_in h1) (by decide) dX1_untag_74 rfl ?_
          refine v_iload C0 (pc' := 77) 0 rfl dX1_untag_75 rfl ?_
          refine v_world (ws' := wY cI bd (s_X1_untag_U U T unit port lane) T F C B CM TR RO WY SU (s_X1_untag_TH T unit port lane) ST QU QN FE) (by simp only [s_X1_untag, s_X1_untag_U, s_X1_untag_TH, if_neg h1, if_neg h3, if_pos h4]) ?_
          exact v_iret C0 hr hlk hK (by simp only [s_X1_untag, s_X1_untag_U, s_X1_untag_TH, if_neg h1, if_neg h3, if_pos h4]) dX1_untag_77
        · exact absurd (by decide) h5
      · refine v_iconst C0 (pc' := 42) 2 (by decide) dX1_untag_41 rfl ?_
        refine v_goto C0 46 dX1_untag_42 (by decide) ?_
        refine v_put C0 hK (C := RX1) (T := TX1) (N := 15) (ws' := wY cI bd U T F C B CM TR RO WY SU 2 ST QU QN FE) (pc' := 49) 0 10 tyX1 rfl rfl rfl (by decide) (Nat.le_of_ble_eq_true rfl) tyX1_ok nmX1 in_X1_untag fl_X1_untag_43 rfl rfl rfl rfl rfl dX1_untag_46 rfl ?_
        refine v_aload_n C0 (pc' := 50) 1 rfl rfl dX1_untag_49 rfl ?_
        refine v_get C0 hK (C := RX1) (T := TX1) (N := 15) (pc' := 53) 0 10 rfl rfl rfl (by decide) in_X1_untag fl_X1_untag_43 rfl dX1_untag_50 rfl ?_
        refine v_if_le C0 58 (pc' := 56) dX1_untag_53 (by decide) rfl (fun h6 => ?_) (fun h6 => ?_)
        · exact absurd h6 (by decide)
        · refine v_iconst C0 (pc' := 57) 0 (by decide) dX1_untag_56 rfl ?_
          refine v_world (ws' := wY cI bd (s_X1_untag_U U T unit port lane) T F C B CM TR RO WY SU (s_X1_untag_TH T unit port lane) ST QU QN FE) (by simp only [s_X1_untag, s_X1_untag_U, s_X1_untag_TH, if_neg h1, if_neg h3, if_neg h4]) ?_
          exact v_iret C0 hr hlk hK (by simp only [s_X1_untag, s_X1_untag_U, s_X1_untag_TH, if_neg h1, if_neg h3, if_neg h4]) dX1_untag_57
    · refine v_iconst C0 (pc' := 28) 1 (by decide) dX1_untag_27 rfl ?_
      refine v_goto C0 46 dX1_untag_28 (by decide) ?_
      refine v_put C0 hK (C := RX1) (T := TX1) (N := 15) (ws' := wY cI bd U T F C B CM TR RO WY SU 1 ST QU QN FE) (pc' := 49) 0 10 tyX1 rfl rfl rfl (by decide) (Nat.le_of_ble_eq_true rfl) tyX1_ok nmX1 in_X1_untag fl_X1_untag_43 rfl rfl rfl rfl rfl dX1_untag_46 rfl ?_
      refine v_aload_n C0 (pc' := 50) 1 rfl rfl dX1_untag_49 rfl ?_
      refine v_get C0 hK (C := RX1) (T := TX1) (N := 15) (pc' := 53) 0 10 rfl rfl rfl (by decide) in_X1_untag fl_X1_untag_43 rfl dX1_untag_50 rfl ?_
      refine v_if_le C0 58 (pc' := 56) dX1_untag_53 (by decide) rfl (fun h7 => ?_) (fun h7 => ?_)
      · exact absurd h7 (by decide)
      · refine v_iconst C0 (pc' := 57) 0 (by decide) dX1_untag_56 rfl ?_
        refine v_world (ws' := wY cI bd (s_X1_untag_U U T unit port lane) T F C B CM TR RO WY SU (s_X1_untag_TH T unit port lane) ST QU QN FE) (by simp only [s_X1_untag, s_X1_untag_U, s_X1_untag_TH, if_neg h1, if_pos h3]) ?_
        exact v_iret C0 hr hlk hK (by simp only [s_X1_untag, s_X1_untag_U, s_X1_untag_TH, if_neg h1, if_pos h3]) dX1_untag_57
def s_X1_tag (U : Nat → Int32) (T : Nat → Int32) (unit : Int32) (port : Int32) (lane : Int32) (ist : Int32) : Int32 := if (s_X1_isPort unit port) = 0 then 0 else (if (s_X1_isPlace unit lane) = 0 then 0 else (if ist = 0 then s_X1_isTagged T ((6 * unit) + port) lane else (if (xAt 36 U ((6 * unit) + port)) = lane then 0 else s_X1_isTagged T ((6 * unit) + port) lane)))
def s_X1_tag_T (U : Nat → Int32) (T : Nat → Int32) (unit : Int32) (port : Int32) (lane : Int32) (ist : Int32) : Nat → Int32 := if (s_X1_isPort unit port) = 0 then T else (if (s_X1_isPlace unit lane) = 0 then T else (if ist = 0 then (xPut 36 T ((6 * unit) + port) ((xAt 36 T ((6 * unit) + port)) &&& (((1 : Int32) <<< (lane &&& 31)) ^^^ (-1)))) else (if (xAt 36 U ((6 * unit) + port)) = lane then T else (xPut 36 T ((6 * unit) + port) ((xAt 36 T ((6 * unit) + port)) ||| ((1 : Int32) <<< (lane &&& 31)))))))
def s_X1_tag_TH (U : Nat → Int32) (unit : Int32) (port : Int32) (lane : Int32) (ist : Int32) : Int32 := if (s_X1_isPort unit port) = 0 then 1 else (if (s_X1_isPlace unit lane) = 0 then 1 else (if ist = 0 then 0 else (if (xAt 36 U ((6 * unit) + port)) = lane then 2 else 0)))
set_option maxHeartbeats 4000000 in
set_option maxRecDepth 100000 in
theorem k_X1_tag (l : Launch) (D : va_G) (cI : ClassId) (bd : Nat → Nat) (U : Nat → Int32) (T : Nat → Int32) (F : Nat → Int32) (C : Nat → Int32) (B : Nat → Int32) (CM : Int32) (TR : Int32) (RO : Nat → Int32) (WY : Nat → Int32) (SU : Nat → Int32) (TH : Int32) (ST : Nat → Int32) (QU : Nat → Int32) (QN : Int32) (FE : Nat → Int32) (unit : Int32) (port : Int32) (lane : Int32) (ist : Int32) (hb_ist : ist = 0 ∨ ist = 1) : Ki l yX1_tag wsX1_tag 2 43 0 0 D (TI cI) [.ref (bd 0), .int unit, .int port, .int lane, .int ist] (wY cI bd U T F C B CM TR RO WY SU TH ST QU QN FE) (wY cI bd U (s_X1_tag_T U T unit port lane ist) F C B CM TR RO WY SU (s_X1_tag_TH U unit port lane ist) ST QU QN FE) (s_X1_tag U T unit port lane ist) := by
  refine Ki.of (cc := cX1_tag) (maxL := 7) (rt := .boolean) (lv0 := [(0, .ref (bd 0)), (1, .int unit), (2, .int port), (3, .int lane), (4, .int ist)]) (by decide +kernel) rfl (Nat.le_of_ble_eq_true rfl) rfl ?_
  intro p e s m args below meth c A C0 hr hlk hK hA
  refine v_bipush C0 (pc' := 2) 6 (by decide) dX1_tag_0 rfl ?_
  refine v_iload_n C0 (pc' := 3) 1 rfl rfl dX1_tag_2 rfl ?_
  refine v_imul C0 (pc' := 4) dX1_tag_3 rfl ?_
  refine v_iload_n C0 (pc' := 5) 2 rfl rfl dX1_tag_4 rfl ?_
  refine v_iadd C0 (pc' := 6) dX1_tag_5 rfl ?_
  refine v_istore C0 (lv' := [(5, .int ((6 * unit) + port)), (0, .ref (bd 0)), (1, .int unit), (2, .int port), (3, .int lane), (4, .int ist)]) (pc' := 8) (by decide) rfl dX1_tag_6 rfl ?_
  refine v_aload_n C0 (pc' := 9) 1 rfl rfl dX1_tag_8 rfl ?_
  refine v_iload_n C0 (pc' := 10) 2 rfl rfl dX1_tag_9 rfl ?_
  refine v_iload_n C0 (pc' := 11) 3 rfl rfl dX1_tag_10 rfl ?_
  refine v_callSi0 C0 (av := [.int unit, .int port]) (rest := [.ref (bd 0)]) (ws' := wY cI bd U T F C B CM TR RO WY SU TH ST QU QN FE) (pc' := 14) hK hA (k_X1_isPort l D cI unit port) (va_cwS 2 C0.2.2.2.2 gX1_tag_X1_isPort rfl rfl rfl (by decide +kernel) ⟨Nat.le_of_ble_eq_true rfl, Nat.le_of_ble_eq_true rfl⟩) PLs.nil rfl rfl (Nat.le_of_ble_eq_true rfl) ⟨Nat.zero_le _, Nat.zero_le _⟩ dX1_tag_11 rfl ?_
  refine v_if_eq C0 25 (pc' := 17) dX1_tag_14 (by decide) rfl (fun h1 => ?_) (fun h1 => ?_)
  · refine v_iconst C0 (pc' := 26) 1 (by decide) dX1_tag_25 rfl ?_
    refine v_goto C0 50 dX1_tag_26 (by decide) ?_
    refine v_put C0 hK (C := RX1) (T := TX1) (N := 15) (ws' := wY cI bd U T F C B CM TR RO WY SU 1 ST QU QN FE) (pc' := 53) 0 10 tyX1 rfl rfl rfl (by decide) (Nat.le_of_ble_eq_true rfl) tyX1_ok nmX1 in_X1_tag fl_X1_tag_43 rfl rfl rfl rfl rfl dX1_tag_50 rfl ?_
    refine v_aload_n C0 (pc' := 54) 1 rfl rfl dX1_tag_53 rfl ?_
    refine v_get C0 hK (C := RX1) (T := TX1) (N := 15) (pc' := 57) 0 10 rfl rfl rfl (by decide) in_X1_tag fl_X1_tag_43 rfl dX1_tag_54 rfl ?_
    refine v_if_le C0 62 (pc' := 60) dX1_tag_57 (by decide) rfl (fun h2 => ?_) (fun h2 => ?_)
    · exact absurd h2 (by decide)
    · refine v_iconst C0 (pc' := 61) 0 (by decide) dX1_tag_60 rfl ?_
      refine v_world (ws' := wY cI bd U (s_X1_tag_T U T unit port lane ist) F C B CM TR RO WY SU (s_X1_tag_TH U unit port lane ist) ST QU QN FE) (by simp only [s_X1_tag, s_X1_tag_T, s_X1_tag_TH, if_pos h1]) ?_
      exact v_zret C0 hr hlk hK (Or.inl rfl : (0 : Int32) = 0 ∨ (0 : Int32) = 1) (by simp only [s_X1_tag, s_X1_tag_T, s_X1_tag_TH, if_pos h1]) dX1_tag_61
  · refine v_iload_n C0 (pc' := 18) 2 rfl rfl dX1_tag_17 rfl ?_
    refine v_iload_n C0 (pc' := 19) 4 rfl rfl dX1_tag_18 rfl ?_
    refine v_callSi0 C0 (av := [.int unit, .int lane]) (rest := [.ref (bd 0)]) (ws' := wY cI bd U T F C B CM TR RO WY SU TH ST QU QN FE) (pc' := 22) hK hA (k_X1_isPlace l D cI unit lane) (va_cwS 2 C0.2.2.2.2 gX1_tag_X1_isPlace rfl rfl rfl (by decide +kernel) ⟨Nat.le_of_ble_eq_true rfl, Nat.le_of_ble_eq_true rfl⟩) PLs.nil rfl rfl (Nat.le_of_ble_eq_true rfl) ⟨Nat.zero_le _, Nat.zero_le _⟩ dX1_tag_19 rfl ?_
    refine v_if_ne C0 29 (pc' := 25) dX1_tag_22 (by decide) rfl (fun h3 => ?_) (fun h3 => ?_)
    · refine v_iload C0 (pc' := 31) 5 rfl dX1_tag_29 rfl ?_
      refine v_if_eq C0 49 (pc' := 34) dX1_tag_31 (by decide) rfl (fun h4 => ?_) (fun h4 => ?_)
      · refine v_iconst C0 (pc' := 50) 0 (by decide) dX1_tag_49 rfl ?_
        refine v_put C0 hK (C := RX1) (T := TX1) (N := 15) (ws' := wY cI bd U T F C B CM TR RO WY SU 0 ST QU QN FE) (pc' := 53) 0 10 tyX1 rfl rfl rfl (by decide) (Nat.le_of_ble_eq_true rfl) tyX1_ok nmX1 in_X1_tag fl_X1_tag_43 rfl rfl rfl rfl rfl dX1_tag_50 rfl ?_
        refine v_aload_n C0 (pc' := 54) 1 rfl rfl dX1_tag_53 rfl ?_
        refine v_get C0 hK (C := RX1) (T := TX1) (N := 15) (pc' := 57) 0 10 rfl rfl rfl (by decide) in_X1_tag fl_X1_tag_43 rfl dX1_tag_54 rfl ?_
        refine v_if_le C0 62 (pc' := 60) dX1_tag_57 (by decide) rfl (fun h5 => ?_) (fun h5 => ?_)
        · refine v_aload_n C0 (pc' := 63) 1 rfl rfl dX1_tag_62 rfl ?_
          refine v_iload C0 (pc' := 65) 0 rfl dX1_tag_63 rfl ?_
          refine v_iload_n C0 (pc' := 66) 4 rfl rfl dX1_tag_65 rfl ?_
          refine v_callVi0 C0 (av := [.int ((6 * unit) + port), .int lane]) (rest := []) (ws' := wY cI bd U T F C B CM TR RO WY SU 0 ST QU QN FE) (pc' := 69) hK hA (k_X1_isTagged l D cI bd U T F C B CM TR RO WY SU 0 ST QU QN FE ((6 * unit) + port) lane (isPort_in h1)) (cwV 2 C0.2.2.2.2 gX1_tag_X1_isTagged rfl rfl rfl (by decide +kernel) ⟨Nat.le_of_ble_eq_true rfl, Nat.le_of_ble_eq_true rfl⟩) ⟨0, 1, _, _, _, rfl, rfl⟩ PLs.all rfl rfl (Nat.le_of_ble_eq_true rfl) ⟨Nat.zero_le _, Nat.zero_le _⟩ dX1_tag_66 rfl ?_
          refine v_istore C0 (lv' := [(6, .int (s_X1_isTagged T ((6 * unit) + port) lane)), (5, .int ((6 * unit) + port)), (0, .ref (bd 0)), (1, .int unit), (2, .int port), (3, .int lane), (4, .int ist)]) (pc' := 71) (by decide) rfl dX1_tag_69 rfl ?_
          refine v_aload_n C0 (pc' := 72) 2 rfl rfl dX1_tag_71 rfl ?_
          refine v_get C0 hK (C := RX1) (T := TX1) (N := 15) (pc' := 75) 0 1 rfl rfl rfl (by decide) in_X1_tag fl_X1_tag_13 rfl dX1_tag_72 rfl ?_
          refine v_iload C0 (pc' := 77) 1 rfl dX1_tag_75 rfl ?_
          refine v_iload C0 (pc' := 79) 6 rfl dX1_tag_77 rfl ?_
          refine v_if_eq C0 96 (pc' := 82) dX1_tag_79 (by decide) rfl (fun h6 => ?_) (fun h6 => ?_)
          · refine v_aload_n C0 (pc' := 97) 2 rfl rfl dX1_tag_96 rfl ?_
            refine v_get C0 hK (C := RX1) (T := TX1) (N := 15) (pc' := 100) 0 1 rfl rfl rfl (by decide) in_X1_tag fl_X1_tag_13 rfl dX1_tag_97 rfl ?_
            refine v_iload C0 (pc' := 102) 1 rfl dX1_tag_100 rfl ?_
            refine v_ialx C0 hK (pc' := 103) 2 0 rfl rfl (isPort_in h1) (by decide) dX1_tag_102 rfl ?_
            refine v_iconst C0 (pc' := 104) 1 (by decide) dX1_tag_103 rfl ?_
            refine v_iload_n C0 (pc' := 105) 5 rfl rfl dX1_tag_104 rfl ?_
            refine v_ishl C0 (pc' := 106) dX1_tag_105 rfl ?_
            refine v_iconst C0 (pc' := 107) (-1) (by decide) dX1_tag_106 rfl ?_
            refine v_ixor C0 (pc' := 108) dX1_tag_107 rfl ?_
            refine v_iand C0 (pc' := 109) dX1_tag_108 rfl ?_
            refine v_iasx C0 hK (ws' := wY cI bd U (xPut 36 T ((6 * unit) + port) ((xAt 36 T ((6 * unit) + port)) &&& (((1 : Int32) <<< (lane &&& 31)) ^^^ (-1)))) F C B CM TR RO WY SU 0 ST QU QN FE) (pc' := 110) 2 0 rfl rfl rfl (isPort_in h1) (by decide) dX1_tag_109 rfl ?_
            refine v_iload C0 (pc' := 112) 0 rfl dX1_tag_110 rfl ?_
            refine v_world (ws' := wY cI bd U (s_X1_tag_T U T unit port lane ist) F C B CM TR RO WY SU (s_X1_tag_TH U unit port lane ist) ST QU QN FE) (by simp only [s_X1_tag, s_X1_tag_T, s_X1_tag_TH, if_neg h1, if_neg h3, if_pos h4]) ?_
            exact v_zret C0 hr hlk hK (b_X1_isTagged T ((6 * unit) + port) lane) (by simp only [s_X1_tag, s_X1_tag_T, s_X1_tag_TH, if_neg h1, if_neg h3, if_pos h4]) dX1_tag_112
          · exact absurd h4 h6
        · exact absurd (by decide) h5
      · refine v_aload_n C0 (pc' := 35) 1 rfl rfl dX1_tag_34 rfl ?_
        refine v_get C0 hK (C := RX1) (T := TX1) (N := 15) (pc' := 38) 0 0 rfl rfl rfl (by decide) in_X1_tag fl_X1_tag_7 rfl dX1_tag_35 rfl ?_
        refine v_iload C0 (pc' := 40) 0 rfl dX1_tag_38 rfl ?_
        refine v_ialx C0 hK (pc' := 41) 1 0 rfl rfl (isPort_in h1) (by decide) dX1_tag_40 rfl ?_
        refine v_iload_n C0 (pc' := 42) 4 rfl rfl dX1_tag_41 rfl ?_
        refine v_icmp_ne C0 49 (pc' := 45) dX1_tag_42 (by decide) rfl (fun h7 => ?_) (fun h7 => ?_)
        · refine v_iconst C0 (pc' := 50) 0 (by decide) dX1_tag_49 rfl ?_
          refine v_put C0 hK (C := RX1) (T := TX1) (N := 15) (ws' := wY cI bd U T F C B CM TR RO WY SU 0 ST QU QN FE) (pc' := 53) 0 10 tyX1 rfl rfl rfl (by decide) (Nat.le_of_ble_eq_true rfl) tyX1_ok nmX1 in_X1_tag fl_X1_tag_43 rfl rfl rfl rfl rfl dX1_tag_50 rfl ?_
          refine v_aload_n C0 (pc' := 54) 1 rfl rfl dX1_tag_53 rfl ?_
          refine v_get C0 hK (C := RX1) (T := TX1) (N := 15) (pc' := 57) 0 10 rfl rfl rfl (by decide) in_X1_tag fl_X1_tag_43 rfl dX1_tag_54 rfl ?_
          refine v_if_le C0 62 (pc' := 60) dX1_tag_57 (by decide) rfl (fun h8 => ?_) (fun h8 => ?_)
          · refine v_aload_n C0 (pc' := 63) 1 rfl rfl dX1_tag_62 rfl ?_
            refine v_iload C0 (pc' := 65) 0 rfl dX1_tag_63 rfl ?_
            refine v_iload_n C0 (pc' := 66) 4 rfl rfl dX1_tag_65 rfl ?_
            refine v_callVi0 C0 (av := [.int ((6 * unit) + port), .int lane]) (rest := []) (ws' := wY cI bd U T F C B CM TR RO WY SU 0 ST QU QN FE) (pc' := 69) hK hA (k_X1_isTagged l D cI bd U T F C B CM TR RO WY SU 0 ST QU QN FE ((6 * unit) + port) lane (isPort_in h1)) (cwV 2 C0.2.2.2.2 gX1_tag_X1_isTagged rfl rfl rfl (by decide +kernel) ⟨Nat.le_of_ble_eq_true rfl, Nat.le_of_ble_eq_true rfl⟩) ⟨0, 1, _, _, _, rfl, rfl⟩ PLs.all rfl rfl (Nat.le_of_ble_eq_true rfl) ⟨Nat.zero_le _, Nat.zero_le _⟩ dX1_tag_66 rfl ?_
            refine v_istore C0 (lv' := [(6, .int (s_X1_isTagged T ((6 * unit) + port) lane)), (5, .int ((6 * unit) + port)), (0, .ref (bd 0)), (1, .int unit), (2, .int port), (3, .int lane), (4, .int ist)]) (pc' := 71) (by decide) rfl dX1_tag_69 rfl ?_
            refine v_aload_n C0 (pc' := 72) 2 rfl rfl dX1_tag_71 rfl ?_
            refine v_get C0 hK (C := RX1) (T := TX1) (N := 15) (pc' := 75) 0 1 rfl rfl rfl (by decide) in_X1_tag fl_X1_tag_13 rfl dX1_tag_72 rfl ?_
            refine v_iload C0 (pc' := 77) 1 rfl dX1_tag_75 rfl ?_
            refine v_iload C0 (pc' := 79) 6 rfl dX1_tag_77 rfl ?_
            refine v_if_eq C0 96 (pc' := 82) dX1_tag_79 (by decide) rfl (fun h9 => ?_) (fun h9 => ?_)
            · exact absurd h9 h4
            · refine v_aload_n C0 (pc' := 83) 2 rfl rfl dX1_tag_82 rfl ?_
              refine v_get C0 hK (C := RX1) (T := TX1) (N := 15) (pc' := 86) 0 1 rfl rfl rfl (by decide) in_X1_tag fl_X1_tag_13 rfl dX1_tag_83 rfl ?_
              refine v_iload C0 (pc' := 88) 1 rfl dX1_tag_86 rfl ?_
              refine v_ialx C0 hK (pc' := 89) 2 0 rfl rfl (isPort_in h1) (by decide) dX1_tag_88 rfl ?_
              refine v_iconst C0 (pc' := 90) 1 (by decide) dX1_tag_89 rfl ?_
              refine v_iload_n C0 (pc' := 91) 5 rfl rfl dX1_tag_90 rfl ?_
              refine v_ishl C0 (pc' := 92) dX1_tag_91 rfl ?_
              refine v_ior C0 (pc' := 93) dX1_tag_92 rfl ?_
              refine v_goto C0 109 dX1_tag_93 (by decide) ?_
              refine v_iasx C0 hK (ws' := wY cI bd U (xPut 36 T ((6 * unit) + port) ((xAt 36 T ((6 * unit) + port)) ||| ((1 : Int32) <<< (lane &&& 31)))) F C B CM TR RO WY SU 0 ST QU QN FE) (pc' := 110) 2 0 rfl rfl rfl (isPort_in h1) (by decide) dX1_tag_109 rfl ?_
              refine v_iload C0 (pc' := 112) 0 rfl dX1_tag_110 rfl ?_
              refine v_world (ws' := wY cI bd U (s_X1_tag_T U T unit port lane ist) F C B CM TR RO WY SU (s_X1_tag_TH U unit port lane ist) ST QU QN FE) (by simp only [s_X1_tag, s_X1_tag_T, s_X1_tag_TH, if_neg h1, if_neg h3, if_neg h4, if_neg h7]) ?_
              exact v_zret C0 hr hlk hK (b_X1_isTagged T ((6 * unit) + port) lane) (by simp only [s_X1_tag, s_X1_tag_T, s_X1_tag_TH, if_neg h1, if_neg h3, if_neg h4, if_neg h7]) dX1_tag_112
          · exact absurd (by decide) h8
        · refine v_iconst C0 (pc' := 46) 2 (by decide) dX1_tag_45 rfl ?_
          refine v_goto C0 50 dX1_tag_46 (by decide) ?_
          refine v_put C0 hK (C := RX1) (T := TX1) (N := 15) (ws' := wY cI bd U T F C B CM TR RO WY SU 2 ST QU QN FE) (pc' := 53) 0 10 tyX1 rfl rfl rfl (by decide) (Nat.le_of_ble_eq_true rfl) tyX1_ok nmX1 in_X1_tag fl_X1_tag_43 rfl rfl rfl rfl rfl dX1_tag_50 rfl ?_
          refine v_aload_n C0 (pc' := 54) 1 rfl rfl dX1_tag_53 rfl ?_
          refine v_get C0 hK (C := RX1) (T := TX1) (N := 15) (pc' := 57) 0 10 rfl rfl rfl (by decide) in_X1_tag fl_X1_tag_43 rfl dX1_tag_54 rfl ?_
          refine v_if_le C0 62 (pc' := 60) dX1_tag_57 (by decide) rfl (fun h10 => ?_) (fun h10 => ?_)
          · exact absurd h10 (by decide)
          · refine v_iconst C0 (pc' := 61) 0 (by decide) dX1_tag_60 rfl ?_
            refine v_world (ws' := wY cI bd U (s_X1_tag_T U T unit port lane ist) F C B CM TR RO WY SU (s_X1_tag_TH U unit port lane ist) ST QU QN FE) (by simp only [s_X1_tag, s_X1_tag_T, s_X1_tag_TH, if_neg h1, if_neg h3, if_neg h4, if_pos h7]) ?_
            exact v_zret C0 hr hlk hK (Or.inl rfl : (0 : Int32) = 0 ∨ (0 : Int32) = 1) (by simp only [s_X1_tag, s_X1_tag_T, s_X1_tag_TH, if_neg h1, if_neg h3, if_neg h4, if_pos h7]) dX1_tag_61
    · refine v_iconst C0 (pc' := 26) 1 (by decide) dX1_tag_25 rfl ?_
      refine v_goto C0 50 dX1_tag_26 (by decide) ?_
      refine v_put C0 hK (C := RX1) (T := TX1) (N := 15) (ws' := wY cI bd U T F C B CM TR RO WY SU 1 ST QU QN FE) (pc' := 53) 0 10 tyX1 rfl rfl rfl (by decide) (Nat.le_of_ble_eq_true rfl) tyX1_ok nmX1 in_X1_tag fl_X1_tag_43 rfl rfl rfl rfl rfl dX1_tag_50 rfl ?_
      refine v_aload_n C0 (pc' := 54) 1 rfl rfl dX1_tag_53 rfl ?_
      refine v_get C0 hK (C := RX1) (T := TX1) (N := 15) (pc' := 57) 0 10 rfl rfl rfl (by decide) in_X1_tag fl_X1_tag_43 rfl dX1_tag_54 rfl ?_
      refine v_if_le C0 62 (pc' := 60) dX1_tag_57 (by decide) rfl (fun h11 => ?_) (fun h11 => ?_)
      · exact absurd h11 (by decide)
      · refine v_iconst C0 (pc' := 61) 0 (by decide) dX1_tag_60 rfl ?_
        refine v_world (ws' := wY cI bd U (s_X1_tag_T U T unit port lane ist) F C B CM TR RO WY SU (s_X1_tag_TH U unit port lane ist) ST QU QN FE) (by simp only [s_X1_tag, s_X1_tag_T, s_X1_tag_TH, if_neg h1, if_pos h3]) ?_
        exact v_zret C0 hr hlk hK (Or.inl rfl : (0 : Int32) = 0 ∨ (0 : Int32) = 1) (by simp only [s_X1_tag, s_X1_tag_T, s_X1_tag_TH, if_neg h1, if_pos h3]) dX1_tag_61
def s_X1_cable (F : Nat → Int32) (CM : Int32) (unit : Int32) (port : Int32) (ou : Int32) (op : Int32) (cost : Int32) : Int32 := if (s_X1_isPort unit port) = 0 then 0 else (if (s_X1_isPort ou op) = 0 then 0 else (if (s_X1_in cost 1 20) = 0 then 0 else (if unit = ou then 0 else (if (xAt 36 F ((6 * unit) + port)) = (-1) then (if (xAt 36 F ((6 * ou) + op)) = (-1) then CM + 1 else 0) else 0))))
def s_X1_cable_F (F : Nat → Int32) (unit : Int32) (port : Int32) (ou : Int32) (op : Int32) (cost : Int32) : Nat → Int32 := if (s_X1_isPort unit port) = 0 then F else (if (s_X1_isPort ou op) = 0 then F else (if (s_X1_in cost 1 20) = 0 then F else (if unit = ou then F else (if (xAt 36 F ((6 * unit) + port)) = (-1) then (if (xAt 36 F ((6 * ou) + op)) = (-1) then (xPut 36 (xPut 36 F ((6 * unit) + port) ((6 * ou) + op)) ((6 * ou) + op) ((6 * unit) + port)) else F) else F))))
def s_X1_cable_C (F : Nat → Int32) (C : Nat → Int32) (unit : Int32) (port : Int32) (ou : Int32) (op : Int32) (cost : Int32) : Nat → Int32 := if (s_X1_isPort unit port) = 0 then C else (if (s_X1_isPort ou op) = 0 then C else (if (s_X1_in cost 1 20) = 0 then C else (if unit = ou then C else (if (xAt 36 F ((6 * unit) + port)) = (-1) then (if (xAt 36 F ((6 * ou) + op)) = (-1) then (xPut 36 (xPut 36 C ((6 * unit) + port) cost) ((6 * ou) + op) cost) else C) else C))))
def s_X1_cable_CM (F : Nat → Int32) (CM : Int32) (unit : Int32) (port : Int32) (ou : Int32) (op : Int32) (cost : Int32) : Int32 := if (s_X1_isPort unit port) = 0 then CM else (if (s_X1_isPort ou op) = 0 then CM else (if (s_X1_in cost 1 20) = 0 then CM else (if unit = ou then CM else (if (xAt 36 F ((6 * unit) + port)) = (-1) then (if (xAt 36 F ((6 * ou) + op)) = (-1) then (CM + 1) else CM) else CM))))
def s_X1_cable_TH (F : Nat → Int32) (unit : Int32) (port : Int32) (ou : Int32) (op : Int32) (cost : Int32) : Int32 := if (s_X1_isPort unit port) = 0 then 1 else (if (s_X1_isPort ou op) = 0 then 1 else (if (s_X1_in cost 1 20) = 0 then 1 else (if unit = ou then 1 else (if (xAt 36 F ((6 * unit) + port)) = (-1) then (if (xAt 36 F ((6 * ou) + op)) = (-1) then 0 else 2) else 2))))
set_option maxHeartbeats 4000000 in
set_option maxRecDepth 100000 in
theorem k_X1_cable (l : Launch) (D : va_G) (cI : ClassId) (bd : Nat → Nat) (U : Nat → Int32) (T : Nat → Int32) (F : Nat → Int32) (C : Nat → Int32) (B : Nat → Int32) (CM : Int32) (TR : Int32) (RO : Nat → Int32) (WY : Nat → Int32) (SU : Nat → Int32) (TH : Int32) (ST : Nat → Int32) (QU : Nat → Int32) (QN : Int32) (FE : Nat → Int32) (unit : Int32) (port : Int32) (ou : Int32) (op : Int32) (cost : Int32) : Ki l yX1_cable wsX1_cable 2 43 0 0 D (TI cI) [.ref (bd 0), .int unit, .int port, .int ou, .int op, .int cost] (wY cI bd U T F C B CM TR RO WY SU TH ST QU QN FE) (wY cI bd U T (s_X1_cable_F F unit port ou op cost) (s_X1_cable_C F C unit port ou op cost) B (s_X1_cable_CM F CM unit port ou op cost) TR RO WY SU (s_X1_cable_TH F unit port ou op cost) ST QU QN FE) (s_X1_cable F CM unit port ou op cost) := by
  refine Ki.of (cc := cX1_cable) (maxL := 8) (rt := .int) (lv0 := [(0, .ref (bd 0)), (1, .int unit), (2, .int port), (3, .int ou), (4, .int op), (5, .int cost)]) (by decide +kernel) rfl (Nat.le_of_ble_eq_true rfl) rfl ?_
  intro p e s m args below meth c A C0 hr hlk hK hA
  refine v_bipush C0 (pc' := 2) 6 (by decide) dX1_cable_0 rfl ?_
  refine v_iload_n C0 (pc' := 3) 1 rfl rfl dX1_cable_2 rfl ?_
  refine v_imul C0 (pc' := 4) dX1_cable_3 rfl ?_
  refine v_iload_n C0 (pc' := 5) 2 rfl rfl dX1_cable_4 rfl ?_
  refine v_iadd C0 (pc' := 6) dX1_cable_5 rfl ?_
  refine v_istore C0 (lv' := [(6, .int ((6 * unit) + port)), (0, .ref (bd 0)), (1, .int unit), (2, .int port), (3, .int ou), (4, .int op), (5, .int cost)]) (pc' := 8) (by decide) rfl dX1_cable_6 rfl ?_
  refine v_bipush C0 (pc' := 10) 6 (by decide) dX1_cable_8 rfl ?_
  refine v_iload_n C0 (pc' := 11) 4 rfl rfl dX1_cable_10 rfl ?_
  refine v_imul C0 (pc' := 12) dX1_cable_11 rfl ?_
  refine v_iload C0 (pc' := 14) 5 rfl dX1_cable_12 rfl ?_
  refine v_iadd C0 (pc' := 15) dX1_cable_14 rfl ?_
  refine v_istore C0 (lv' := [(7, .int ((6 * ou) + op)), (6, .int ((6 * unit) + port)), (0, .ref (bd 0)), (1, .int unit), (2, .int port), (3, .int ou), (4, .int op), (5, .int cost)]) (pc' := 17) (by decide) rfl dX1_cable_15 rfl ?_
  refine v_aload_n C0 (pc' := 18) 2 rfl rfl dX1_cable_17 rfl ?_
  refine v_iload_n C0 (pc' := 19) 3 rfl rfl dX1_cable_18 rfl ?_
  refine v_iload_n C0 (pc' := 20) 4 rfl rfl dX1_cable_19 rfl ?_
  refine v_callSi0 C0 (av := [.int unit, .int port]) (rest := [.ref (bd 0)]) (ws' := wY cI bd U T F C B CM TR RO WY SU TH ST QU QN FE) (pc' := 23) hK hA (k_X1_isPort l D cI unit port) (va_cwS 2 C0.2.2.2.2 gX1_cable_X1_isPort rfl rfl rfl (by decide +kernel) ⟨Nat.le_of_ble_eq_true rfl, Nat.le_of_ble_eq_true rfl⟩) PLs.nil rfl rfl (Nat.le_of_ble_eq_true rfl) ⟨Nat.zero_le _, Nat.zero_le _⟩ dX1_cable_20 rfl ?_
  refine v_if_eq C0 51 (pc' := 26) dX1_cable_23 (by decide) rfl (fun h1 => ?_) (fun h1 => ?_)
  · refine v_iconst C0 (pc' := 52) 1 (by decide) dX1_cable_51 rfl ?_
    refine v_goto C0 82 dX1_cable_52 (by decide) ?_
    refine v_put C0 hK (C := RX1) (T := TX1) (N := 15) (ws' := wY cI bd U T F C B CM TR RO WY SU 1 ST QU QN FE) (pc' := 85) 0 10 tyX1 rfl rfl rfl (by decide) (Nat.le_of_ble_eq_true rfl) tyX1_ok nmX1 in_X1_cable fl_X1_cable_43 rfl rfl rfl rfl rfl dX1_cable_82 rfl ?_
    refine v_aload_n C0 (pc' := 86) 2 rfl rfl dX1_cable_85 rfl ?_
    refine v_get C0 hK (C := RX1) (T := TX1) (N := 15) (pc' := 89) 0 10 rfl rfl rfl (by decide) in_X1_cable fl_X1_cable_43 rfl dX1_cable_86 rfl ?_
    refine v_if_le C0 94 (pc' := 92) dX1_cable_89 (by decide) rfl (fun h2 => ?_) (fun h2 => ?_)
    · exact absurd h2 (by decide)
    · refine v_iconst C0 (pc' := 93) 0 (by decide) dX1_cable_92 rfl ?_
      refine v_world (ws' := wY cI bd U T (s_X1_cable_F F unit port ou op cost) (s_X1_cable_C F C unit port ou op cost) B (s_X1_cable_CM F CM unit port ou op cost) TR RO WY SU (s_X1_cable_TH F unit port ou op cost) ST QU QN FE) (by simp only [s_X1_cable, s_X1_cable_F, s_X1_cable_C, s_X1_cable_CM, s_X1_cable_TH, if_pos h1]) ?_
      exact v_iret C0 hr hlk hK (by simp only [s_X1_cable, s_X1_cable_F, s_X1_cable_C, s_X1_cable_CM, s_X1_cable_TH, if_pos h1]) dX1_cable_93
  · refine v_iload_n C0 (pc' := 27) 5 rfl rfl dX1_cable_26 rfl ?_
    refine v_iload C0 (pc' := 29) 6 rfl dX1_cable_27 rfl ?_
    refine v_callSi0 C0 (av := [.int ou, .int op]) (rest := [.ref (bd 0)]) (ws' := wY cI bd U T F C B CM TR RO WY SU TH ST QU QN FE) (pc' := 32) hK hA (k_X1_isPort l D cI ou op) (va_cwS 2 C0.2.2.2.2 gX1_cable_X1_isPort rfl rfl rfl (by decide +kernel) ⟨Nat.le_of_ble_eq_true rfl, Nat.le_of_ble_eq_true rfl⟩) PLs.nil rfl rfl (Nat.le_of_ble_eq_true rfl) ⟨Nat.zero_le _, Nat.zero_le _⟩ dX1_cable_29 rfl ?_
    refine v_if_eq C0 51 (pc' := 35) dX1_cable_32 (by decide) rfl (fun h3 => ?_) (fun h3 => ?_)
    · refine v_iconst C0 (pc' := 52) 1 (by decide) dX1_cable_51 rfl ?_
      refine v_goto C0 82 dX1_cable_52 (by decide) ?_
      refine v_put C0 hK (C := RX1) (T := TX1) (N := 15) (ws' := wY cI bd U T F C B CM TR RO WY SU 1 ST QU QN FE) (pc' := 85) 0 10 tyX1 rfl rfl rfl (by decide) (Nat.le_of_ble_eq_true rfl) tyX1_ok nmX1 in_X1_cable fl_X1_cable_43 rfl rfl rfl rfl rfl dX1_cable_82 rfl ?_
      refine v_aload_n C0 (pc' := 86) 2 rfl rfl dX1_cable_85 rfl ?_
      refine v_get C0 hK (C := RX1) (T := TX1) (N := 15) (pc' := 89) 0 10 rfl rfl rfl (by decide) in_X1_cable fl_X1_cable_43 rfl dX1_cable_86 rfl ?_
      refine v_if_le C0 94 (pc' := 92) dX1_cable_89 (by decide) rfl (fun h4 => ?_) (fun h4 => ?_)
      · exact absurd h4 (by decide)
      · refine v_iconst C0 (pc' := 93) 0 (by decide) dX1_cable_92 rfl ?_
        refine v_world (ws' := wY cI bd U T (s_X1_cable_F F unit port ou op cost) (s_X1_cable_C F C unit port ou op cost) B (s_X1_cable_CM F CM unit port ou op cost) TR RO WY SU (s_X1_cable_TH F unit port ou op cost) ST QU QN FE) (by simp only [s_X1_cable, s_X1_cable_F, s_X1_cable_C, s_X1_cable_CM, s_X1_cable_TH, if_neg h1, if_pos h3]) ?_
        exact v_iret C0 hr hlk hK (by simp only [s_X1_cable, s_X1_cable_F, s_X1_cable_C, s_X1_cable_CM, s_X1_cable_TH, if_neg h1, if_pos h3]) dX1_cable_93
    · refine v_iload C0 (pc' := 37) 7 rfl dX1_cable_35 rfl ?_
      refine v_iconst C0 (pc' := 38) 1 (by decide) dX1_cable_37 rfl ?_
      refine v_bipush C0 (pc' := 40) 20 (by decide) dX1_cable_38 rfl ?_
      refine v_callSi0 C0 (av := [.int cost, .int 1, .int 20]) (rest := [.ref (bd 0)]) (ws' := wY cI bd U T F C B CM TR RO WY SU TH ST QU QN FE) (pc' := 43) hK hA (k_X1_in l D cI cost 1 20) (va_cwS 3 C0.2.2.2.2 gX1_cable_X1_in rfl rfl rfl (by decide +kernel) ⟨Nat.le_of_ble_eq_true rfl, Nat.le_of_ble_eq_true rfl⟩) PLs.nil rfl rfl (Nat.le_of_ble_eq_true rfl) ⟨Nat.zero_le _, Nat.zero_le _⟩ dX1_cable_40 rfl ?_
      refine v_if_eq C0 51 (pc' := 46) dX1_cable_43 (by decide) rfl (fun h5 => ?_) (fun h5 => ?_)
      · refine v_iconst C0 (pc' := 52) 1 (by decide) dX1_cable_51 rfl ?_
        refine v_goto C0 82 dX1_cable_52 (by decide) ?_
        refine v_put C0 hK (C := RX1) (T := TX1) (N := 15) (ws' := wY cI bd U T F C B CM TR RO WY SU 1 ST QU QN FE) (pc' := 85) 0 10 tyX1 rfl rfl rfl (by decide) (Nat.le_of_ble_eq_true rfl) tyX1_ok nmX1 in_X1_cable fl_X1_cable_43 rfl rfl rfl rfl rfl dX1_cable_82 rfl ?_
        refine v_aload_n C0 (pc' := 86) 2 rfl rfl dX1_cable_85 rfl ?_
        refine v_get C0 hK (C := RX1) (T := TX1) (N := 15) (pc' := 89) 0 10 rfl rfl rfl (by decide) in_X1_cable fl_X1_cable_43 rfl dX1_cable_86 rfl ?_
        refine v_if_le C0 94 (pc' := 92) dX1_cable_89 (by decide) rfl (fun h6 => ?_) (fun h6 => ?_)
        · exact absurd h6 (by decide)
        · refine v_iconst C0 (pc' := 93) 0 (by decide) dX1_cable_92 rfl ?_
          refine v_world (ws' := wY cI bd U T (s_X1_cable_F F unit port ou op cost) (s_X1_cable_C F C unit port ou op cost) B (s_X1_cable_CM F CM unit port ou op cost) TR RO WY SU (s_X1_cable_TH F unit port ou op cost) ST QU QN FE) (by simp only [s_X1_cable, s_X1_cable_F, s_X1_cable_C, s_X1_cable_CM, s_X1_cable_TH, if_neg h1, if_neg h3, if_pos h5]) ?_
          exact v_iret C0 hr hlk hK (by simp only [s_X1_cable, s_X1_cable_F, s_X1_cable_C, s_X1_cable_CM, s_X1_cable_TH, if_neg h1, if_neg h3, if_pos h5]) dX1_cable_93
      · refine v_iload_n C0 (pc' := 47) 3 rfl rfl dX1_cable_46 rfl ?_
        refine v_iload_n C0 (pc' := 48) 5 rfl rfl dX1_cable_47 rfl ?_
        refine v_icmp_ne C0 55 (pc' := 51) dX1_cable_48 (by decide) rfl (fun h7 => ?_) (fun h7 => ?_)
        · refine v_aload_n C0 (pc' := 56) 2 rfl rfl dX1_cable_55 rfl ?_
          refine v_get C0 hK (C := RX1) (T := TX1) (N := 15) (pc' := 59) 0 2 rfl rfl rfl (by decide) in_X1_cable fl_X1_cable_16 rfl dX1_cable_56 rfl ?_
          refine v_iload C0 (pc' := 61) 1 rfl dX1_cable_59 rfl ?_
          refine v_ialx C0 hK (pc' := 62) 3 0 rfl rfl (isPort_in h1) (by decide) dX1_cable_61 rfl ?_
          refine v_iconst C0 (pc' := 63) (-1) (by decide) dX1_cable_62 rfl ?_
          refine v_icmp_ne C0 77 (pc' := 66) dX1_cable_63 (by decide) rfl (fun h8 => ?_) (fun h8 => ?_)
          · refine v_iconst C0 (pc' := 78) 2 (by decide) dX1_cable_77 rfl ?_
            refine v_goto C0 82 dX1_cable_78 (by decide) ?_
            refine v_put C0 hK (C := RX1) (T := TX1) (N := 15) (ws' := wY cI bd U T F C B CM TR RO WY SU 2 ST QU QN FE) (pc' := 85) 0 10 tyX1 rfl rfl rfl (by decide) (Nat.le_of_ble_eq_true rfl) tyX1_ok nmX1 in_X1_cable fl_X1_cable_43 rfl rfl rfl rfl rfl dX1_cable_82 rfl ?_
            refine v_aload_n C0 (pc' := 86) 2 rfl rfl dX1_cable_85 rfl ?_
            refine v_get C0 hK (C := RX1) (T := TX1) (N := 15) (pc' := 89) 0 10 rfl rfl rfl (by decide) in_X1_cable fl_X1_cable_43 rfl dX1_cable_86 rfl ?_
            refine v_if_le C0 94 (pc' := 92) dX1_cable_89 (by decide) rfl (fun h9 => ?_) (fun h9 => ?_)
            · exact absurd h9 (by decide)
            · refine v_iconst C0 (pc' := 93) 0 (by decide) dX1_cable_92 rfl ?_
              refine v_world (ws' := wY cI bd U T (s_X1_cable_F F unit port ou op cost) (s_X1_cable_C F C unit port ou op cost) B (s_X1_cable_CM F CM unit port ou op cost) TR RO WY SU (s_X1_cable_TH F unit port ou op cost) ST QU QN FE) (by simp only [s_X1_cable, s_X1_cable_F, s_X1_cable_C, s_X1_cable_CM, s_X1_cable_TH, if_neg h1, if_neg h3, if_neg h5, if_neg h7, if_neg h8]) ?_
              exact v_iret C0 hr hlk hK (by simp only [s_X1_cable, s_X1_cable_F, s_X1_cable_C, s_X1_cable_CM, s_X1_cable_TH, if_neg h1, if_neg h3, if_neg h5, if_neg h7, if_neg h8]) dX1_cable_93
          · refine v_aload_n C0 (pc' := 67) 2 rfl rfl dX1_cable_66 rfl ?_
            refine v_get C0 hK (C := RX1) (T := TX1) (N := 15) (pc' := 70) 0 2 rfl rfl rfl (by decide) in_X1_cable fl_X1_cable_16 rfl dX1_cable_67 rfl ?_
            refine v_iload C0 (pc' := 72) 0 rfl dX1_cable_70 rfl ?_
            refine v_ialx C0 hK (pc' := 73) 3 0 rfl rfl (isPort_in h3) (by decide) dX1_cable_72 rfl ?_
            refine v_iconst C0 (pc' := 74) (-1) (by decide) dX1_cable_73 rfl ?_
            refine v_icmp_eq C0 81 (pc' := 77) dX1_cable_74 (by decide) rfl (fun h10 => ?_) (fun h10 => ?_)
            · refine v_iconst C0 (pc' := 82) 0 (by decide) dX1_cable_81 rfl ?_
              refine v_put C0 hK (C := RX1) (T := TX1) (N := 15) (ws' := wY cI bd U T F C B CM TR RO WY SU 0 ST QU QN FE) (pc' := 85) 0 10 tyX1 rfl rfl rfl (by decide) (Nat.le_of_ble_eq_true rfl) tyX1_ok nmX1 in_X1_cable fl_X1_cable_43 rfl rfl rfl rfl rfl dX1_cable_82 rfl ?_
              refine v_aload_n C0 (pc' := 86) 2 rfl rfl dX1_cable_85 rfl ?_
              refine v_get C0 hK (C := RX1) (T := TX1) (N := 15) (pc' := 89) 0 10 rfl rfl rfl (by decide) in_X1_cable fl_X1_cable_43 rfl dX1_cable_86 rfl ?_
              refine v_if_le C0 94 (pc' := 92) dX1_cable_89 (by decide) rfl (fun h11 => ?_) (fun h11 => ?_)
              · refine v_aload_n C0 (pc' := 95) 2 rfl rfl dX1_cable_94 rfl ?_
                refine v_get C0 hK (C := RX1) (T := TX1) (N := 15) (pc' := 98) 0 2 rfl rfl rfl (by decide) in_X1_cable fl_X1_cable_16 rfl dX1_cable_95 rfl ?_
                refine v_iload C0 (pc' := 100) 1 rfl dX1_cable_98 rfl ?_
                refine v_iload C0 (pc' := 102) 0 rfl dX1_cable_100 rfl ?_
                refine v_iasx C0 hK (ws' := wY cI bd U T (xPut 36 F ((6 * unit) + port) ((6 * ou) + op)) C B CM TR RO WY SU 0 ST QU QN FE) (pc' := 103) 3 0 rfl rfl rfl (isPort_in h1) (by decide) dX1_cable_102 rfl ?_
                refine v_aload_n C0 (pc' := 104) 2 rfl rfl dX1_cable_103 rfl ?_
                refine v_get C0 hK (C := RX1) (T := TX1) (N := 15) (pc' := 107) 0 2 rfl rfl rfl (by decide) in_X1_cable fl_X1_cable_16 rfl dX1_cable_104 rfl ?_
                refine v_iload C0 (pc' := 109) 0 rfl dX1_cable_107 rfl ?_
                refine v_iload C0 (pc' := 111) 1 rfl dX1_cable_109 rfl ?_
                refine v_iasx C0 hK (ws' := wY cI bd U T (xPut 36 (xPut 36 F ((6 * unit) + port) ((6 * ou) + op)) ((6 * ou) + op) ((6 * unit) + port)) C B CM TR RO WY SU 0 ST QU QN FE) (pc' := 112) 3 0 rfl rfl rfl (isPort_in h3) (by decide) dX1_cable_111 rfl ?_
                refine v_aload_n C0 (pc' := 113) 2 rfl rfl dX1_cable_112 rfl ?_
                refine v_get C0 hK (C := RX1) (T := TX1) (N := 15) (pc' := 116) 0 3 rfl rfl rfl (by decide) in_X1_cable fl_X1_cable_19 rfl dX1_cable_113 rfl ?_
                refine v_iload C0 (pc' := 118) 1 rfl dX1_cable_116 rfl ?_
                refine v_iload C0 (pc' := 120) 7 rfl dX1_cable_118 rfl ?_
                refine v_iasx C0 hK (ws' := wY cI bd U T (xPut 36 (xPut 36 F ((6 * unit) + port) ((6 * ou) + op)) ((6 * ou) + op) ((6 * unit) + port)) (xPut 36 C ((6 * unit) + port) cost) B CM TR RO WY SU 0 ST QU QN FE) (pc' := 121) 4 0 rfl rfl rfl (isPort_in h1) (by decide) dX1_cable_120 rfl ?_
                refine v_aload_n C0 (pc' := 122) 2 rfl rfl dX1_cable_121 rfl ?_
                refine v_get C0 hK (C := RX1) (T := TX1) (N := 15) (pc' := 125) 0 3 rfl rfl rfl (by decide) in_X1_cable fl_X1_cable_19 rfl dX1_cable_122 rfl ?_
                refine v_iload C0 (pc' := 127) 0 rfl dX1_cable_125 rfl ?_
                refine v_iload C0 (pc' := 129) 7 rfl dX1_cable_127 rfl ?_
                refine v_iasx C0 hK (ws' := wY cI bd U T (xPut 36 (xPut 36 F ((6 * unit) + port) ((6 * ou) + op)) ((6 * ou) + op) ((6 * unit) + port)) (xPut 36 (xPut 36 C ((6 * unit) + port) cost) ((6 * ou) + op) cost) B CM TR RO WY SU 0 ST QU QN FE) (pc' := 130) 4 0 rfl rfl rfl (isPort_in h3) (by decide) dX1_cable_129 rfl ?_
                refine v_aload_n C0 (pc' := 131) 2 rfl rfl dX1_cable_130 rfl ?_
                refine v_dup C0 (pc' := 132) rfl dX1_cable_131 rfl ?_
                refine v_get C0 hK (C := RX1) (T := TX1) (N := 15) (pc' := 135) 0 5 rfl rfl rfl (by decide) in_X1_cable fl_X1_cable_61 rfl dX1_cable_132 rfl ?_
                refine v_iconst C0 (pc' := 136) 1 (by decide) dX1_cable_135 rfl ?_
                refine v_iadd C0 (pc' := 137) dX1_cable_136 rfl ?_
                refine v_put C0 hK (C := RX1) (T := TX1) (N := 15) (ws' := wY cI bd U T (xPut 36 (xPut 36 F ((6 * unit) + port) ((6 * ou) + op)) ((6 * ou) + op) ((6 * unit) + port)) (xPut 36 (xPut 36 C ((6 * unit) + port) cost) ((6 * ou) + op) cost) B (CM + 1) TR RO WY SU 0 ST QU QN FE) (pc' := 140) 0 5 tyX1 rfl rfl rfl (by decide) (Nat.le_of_ble_eq_true rfl) tyX1_ok nmX1 in_X1_cable fl_X1_cable_61 rfl rfl rfl rfl rfl dX1_cable_137 rfl ?_
                refine v_aload_n C0 (pc' := 141) 2 rfl rfl dX1_cable_140 rfl ?_
                refine v_get C0 hK (C := RX1) (T := TX1) (N := 15) (pc' := 144) 0 5 rfl rfl rfl (by decide) in_X1_cable fl_X1_cable_61 rfl dX1_cable_141 rfl ?_
                refine v_world (ws' := wY cI bd U T (s_X1_cable_F F unit port ou op cost) (s_X1_cable_C F C unit port ou op cost) B (s_X1_cable_CM F CM unit port ou op cost) TR RO WY SU (s_X1_cable_TH F unit port ou op cost) ST QU QN FE) (by simp only [s_X1_cable, s_X1_cable_F, s_X1_cable_C, s_X1_cable_CM, s_X1_cable_TH, if_neg h1, if_neg h3, if_neg h5, if_neg h7, if_pos h8, if_pos h10]) ?_
                exact v_iret C0 hr hlk hK (by simp only [s_X1_cable, s_X1_cable_F, s_X1_cable_C, s_X1_cable_CM, s_X1_cable_TH, if_neg h1, if_neg h3, if_neg h5, if_neg h7, if_pos h8, if_pos h10]) dX1_cable_144
              · exact absurd (by decide) h11
            · refine v_iconst C0 (pc' := 78) 2 (by decide) dX1_cable_77 rfl ?_
              refine v_goto C0 82 dX1_cable_78 (by decide) ?_
              refine v_put C0 hK (C := RX1) (T := TX1) (N := 15) (ws' := wY cI bd U T F C B CM TR RO WY SU 2 ST QU QN FE) (pc' := 85) 0 10 tyX1 rfl rfl rfl (by decide) (Nat.le_of_ble_eq_true rfl) tyX1_ok nmX1 in_X1_cable fl_X1_cable_43 rfl rfl rfl rfl rfl dX1_cable_82 rfl ?_
              refine v_aload_n C0 (pc' := 86) 2 rfl rfl dX1_cable_85 rfl ?_
              refine v_get C0 hK (C := RX1) (T := TX1) (N := 15) (pc' := 89) 0 10 rfl rfl rfl (by decide) in_X1_cable fl_X1_cable_43 rfl dX1_cable_86 rfl ?_
              refine v_if_le C0 94 (pc' := 92) dX1_cable_89 (by decide) rfl (fun h12 => ?_) (fun h12 => ?_)
              · exact absurd h12 (by decide)
              · refine v_iconst C0 (pc' := 93) 0 (by decide) dX1_cable_92 rfl ?_
                refine v_world (ws' := wY cI bd U T (s_X1_cable_F F unit port ou op cost) (s_X1_cable_C F C unit port ou op cost) B (s_X1_cable_CM F CM unit port ou op cost) TR RO WY SU (s_X1_cable_TH F unit port ou op cost) ST QU QN FE) (by simp only [s_X1_cable, s_X1_cable_F, s_X1_cable_C, s_X1_cable_CM, s_X1_cable_TH, if_neg h1, if_neg h3, if_neg h5, if_neg h7, if_pos h8, if_neg h10]) ?_
                exact v_iret C0 hr hlk hK (by simp only [s_X1_cable, s_X1_cable_F, s_X1_cable_C, s_X1_cable_CM, s_X1_cable_TH, if_neg h1, if_neg h3, if_neg h5, if_neg h7, if_pos h8, if_neg h10]) dX1_cable_93
        · refine v_iconst C0 (pc' := 52) 1 (by decide) dX1_cable_51 rfl ?_
          refine v_goto C0 82 dX1_cable_52 (by decide) ?_
          refine v_put C0 hK (C := RX1) (T := TX1) (N := 15) (ws' := wY cI bd U T F C B CM TR RO WY SU 1 ST QU QN FE) (pc' := 85) 0 10 tyX1 rfl rfl rfl (by decide) (Nat.le_of_ble_eq_true rfl) tyX1_ok nmX1 in_X1_cable fl_X1_cable_43 rfl rfl rfl rfl rfl dX1_cable_82 rfl ?_
          refine v_aload_n C0 (pc' := 86) 2 rfl rfl dX1_cable_85 rfl ?_
          refine v_get C0 hK (C := RX1) (T := TX1) (N := 15) (pc' := 89) 0 10 rfl rfl rfl (by decide) in_X1_cable fl_X1_cable_43 rfl dX1_cable_86 rfl ?_
          refine v_if_le C0 94 (pc' := 92) dX1_cable_89 (by decide) rfl (fun h13 => ?_) (fun h13 => ?_)
          · exact absurd h13 (by decide)
          · refine v_iconst C0 (pc' := 93) 0 (by decide) dX1_cable_92 rfl ?_
            refine v_world (ws' := wY cI bd U T (s_X1_cable_F F unit port ou op cost) (s_X1_cable_C F C unit port ou op cost) B (s_X1_cable_CM F CM unit port ou op cost) TR RO WY SU (s_X1_cable_TH F unit port ou op cost) ST QU QN FE) (by simp only [s_X1_cable, s_X1_cable_F, s_X1_cable_C, s_X1_cable_CM, s_X1_cable_TH, if_neg h1, if_neg h3, if_neg h5, if_pos h7]) ?_
            exact v_iret C0 hr hlk hK (by simp only [s_X1_cable, s_X1_cable_F, s_X1_cable_C, s_X1_cable_CM, s_X1_cable_TH, if_neg h1, if_neg h3, if_neg h5, if_pos h7]) dX1_cable_93
def s_X1_hasCable (F : Nat → Int32) (unit : Int32) (port : Int32) : Int32 := if (s_X1_isPort unit port) = 0 then 0 else (if (xAt 36 F ((6 * unit) + port)) = (-1) then 0 else 1)
def s_X1_hasCable_TH (F : Nat → Int32) (unit : Int32) (port : Int32) : Int32 := if (s_X1_isPort unit port) = 0 then 1 else (if (xAt 36 F ((6 * unit) + port)) = (-1) then 2 else 0)
set_option maxHeartbeats 4000000 in
set_option maxRecDepth 100000 in
theorem k_X1_hasCable (l : Launch) (D : va_G) (cI : ClassId) (bd : Nat → Nat) (U : Nat → Int32) (T : Nat → Int32) (F : Nat → Int32) (C : Nat → Int32) (B : Nat → Int32) (CM : Int32) (TR : Int32) (RO : Nat → Int32) (WY : Nat → Int32) (SU : Nat → Int32) (TH : Int32) (ST : Nat → Int32) (QU : Nat → Int32) (QN : Int32) (FE : Nat → Int32) (unit : Int32) (port : Int32) : Ki l yX1_hasCable wsX1_hasCable 2 43 0 0 D (TI cI) [.ref (bd 0), .int unit, .int port] (wY cI bd U T F C B CM TR RO WY SU TH ST QU QN FE) (wY cI bd U T F C B CM TR RO WY SU (s_X1_hasCable_TH F unit port) ST QU QN FE) (s_X1_hasCable F unit port) := by
  refine Ki.of (cc := cX1_hasCable) (maxL := 3) (rt := .boolean) (lv0 := [(0, .ref (bd 0)), (1, .int unit), (2, .int port)]) (by decide +kernel) rfl (Nat.le_of_ble_eq_true rfl) rfl ?_
  intro p e s m args below meth c A C0 hr hlk hK hA
  refine v_aload_n C0 (pc' := 1) 0 rfl rfl dX1_hasCable_0 rfl ?_
  refine v_iload_n C0 (pc' := 2) 1 rfl rfl dX1_hasCable_1 rfl ?_
  refine v_iload_n C0 (pc' := 3) 2 rfl rfl dX1_hasCable_2 rfl ?_
  refine v_callSi0 C0 (av := [.int unit, .int port]) (rest := [.ref (bd 0)]) (ws' := wY cI bd U T F C B CM TR RO WY SU TH ST QU QN FE) (pc' := 6) hK hA (k_X1_isPort l D cI unit port) (va_cwS 2 C0.2.2.2.2 gX1_hasCable_X1_isPort rfl rfl rfl (by decide +kernel) ⟨Nat.le_of_ble_eq_true rfl, Nat.le_of_ble_eq_true rfl⟩) PLs.nil rfl rfl (Nat.le_of_ble_eq_true rfl) ⟨Nat.zero_le _, Nat.zero_le _⟩ dX1_hasCable_3 rfl ?_
  refine v_if_ne C0 13 (pc' := 9) dX1_hasCable_6 (by decide) rfl (fun h1 => ?_) (fun h1 => ?_)
  · refine v_aload_n C0 (pc' := 14) 0 rfl rfl dX1_hasCable_13 rfl ?_
    refine v_get C0 hK (C := RX1) (T := TX1) (N := 15) (pc' := 17) 0 2 rfl rfl rfl (by decide) in_X1_hasCable fl_X1_hasCable_16 rfl dX1_hasCable_14 rfl ?_
    refine v_bipush C0 (pc' := 19) 6 (by decide) dX1_hasCable_17 rfl ?_
    refine v_iload_n C0 (pc' := 20) 1 rfl rfl dX1_hasCable_19 rfl ?_
    refine v_imul C0 (pc' := 21) dX1_hasCable_20 rfl ?_
    refine v_iload_n C0 (pc' := 22) 2 rfl rfl dX1_hasCable_21 rfl ?_
    refine v_iadd C0 (pc' := 23) dX1_hasCable_22 rfl ?_
    refine v_ialx C0 hK (pc' := 24) 3 0 rfl rfl (isPort_in h1) (by decide) dX1_hasCable_23 rfl ?_
    refine v_iconst C0 (pc' := 25) (-1) (by decide) dX1_hasCable_24 rfl ?_
    refine v_icmp_ne C0 32 (pc' := 28) dX1_hasCable_25 (by decide) rfl (fun h2 => ?_) (fun h2 => ?_)
    · refine v_iconst C0 (pc' := 33) 0 (by decide) dX1_hasCable_32 rfl ?_
      refine v_put C0 hK (C := RX1) (T := TX1) (N := 15) (ws' := wY cI bd U T F C B CM TR RO WY SU 0 ST QU QN FE) (pc' := 36) 0 10 tyX1 rfl rfl rfl (by decide) (Nat.le_of_ble_eq_true rfl) tyX1_ok nmX1 in_X1_hasCable fl_X1_hasCable_43 rfl rfl rfl rfl rfl dX1_hasCable_33 rfl ?_
      refine v_aload_n C0 (pc' := 37) 0 rfl rfl dX1_hasCable_36 rfl ?_
      refine v_get C0 hK (C := RX1) (T := TX1) (N := 15) (pc' := 40) 0 10 rfl rfl rfl (by decide) in_X1_hasCable fl_X1_hasCable_43 rfl dX1_hasCable_37 rfl ?_
      refine v_if_ne C0 47 (pc' := 43) dX1_hasCable_40 (by decide) rfl (fun h3 => ?_) (fun h3 => ?_)
      · exact absurd (by decide) h3
      · refine v_iconst C0 (pc' := 44) 1 (by decide) dX1_hasCable_43 rfl ?_
        refine v_goto C0 48 dX1_hasCable_44 (by decide) ?_
        refine v_world (ws' := wY cI bd U T F C B CM TR RO WY SU (s_X1_hasCable_TH F unit port) ST QU QN FE) (by simp only [s_X1_hasCable, s_X1_hasCable_TH, if_neg h1, if_neg h2]) ?_
        exact v_zret C0 hr hlk hK (Or.inr rfl : (1 : Int32) = 0 ∨ (1 : Int32) = 1) (by simp only [s_X1_hasCable, s_X1_hasCable_TH, if_neg h1, if_neg h2]) dX1_hasCable_48
    · refine v_iconst C0 (pc' := 29) 2 (by decide) dX1_hasCable_28 rfl ?_
      refine v_goto C0 33 dX1_hasCable_29 (by decide) ?_
      refine v_put C0 hK (C := RX1) (T := TX1) (N := 15) (ws' := wY cI bd U T F C B CM TR RO WY SU 2 ST QU QN FE) (pc' := 36) 0 10 tyX1 rfl rfl rfl (by decide) (Nat.le_of_ble_eq_true rfl) tyX1_ok nmX1 in_X1_hasCable fl_X1_hasCable_43 rfl rfl rfl rfl rfl dX1_hasCable_33 rfl ?_
      refine v_aload_n C0 (pc' := 37) 0 rfl rfl dX1_hasCable_36 rfl ?_
      refine v_get C0 hK (C := RX1) (T := TX1) (N := 15) (pc' := 40) 0 10 rfl rfl rfl (by decide) in_X1_hasCable fl_X1_hasCable_43 rfl dX1_hasCable_37 rfl ?_
      refine v_if_ne C0 47 (pc' := 43) dX1_hasCable_40 (by decide) rfl (fun h4 => ?_) (fun h4 => ?_)
      · refine v_iconst C0 (pc' := 48) 0 (by decide) dX1_hasCable_47 rfl ?_
        refine v_world (ws' := wY cI bd U T F C B CM TR RO WY SU (s_X1_hasCable_TH F unit port) ST QU QN FE) (by simp only [s_X1_hasCable, s_X1_hasCable_TH, if_neg h1, if_pos h2]) ?_
        exact v_zret C0 hr hlk hK (Or.inl rfl : (0 : Int32) = 0 ∨ (0 : Int32) = 1) (by simp only [s_X1_hasCable, s_X1_hasCable_TH, if_neg h1, if_pos h2]) dX1_hasCable_48
      · exact absurd h4 (by decide)
  · refine v_iconst C0 (pc' := 10) 1 (by decide) dX1_hasCable_9 rfl ?_
    refine v_goto C0 33 dX1_hasCable_10 (by decide) ?_
    refine v_put C0 hK (C := RX1) (T := TX1) (N := 15) (ws' := wY cI bd U T F C B CM TR RO WY SU 1 ST QU QN FE) (pc' := 36) 0 10 tyX1 rfl rfl rfl (by decide) (Nat.le_of_ble_eq_true rfl) tyX1_ok nmX1 in_X1_hasCable fl_X1_hasCable_43 rfl rfl rfl rfl rfl dX1_hasCable_33 rfl ?_
    refine v_aload_n C0 (pc' := 37) 0 rfl rfl dX1_hasCable_36 rfl ?_
    refine v_get C0 hK (C := RX1) (T := TX1) (N := 15) (pc' := 40) 0 10 rfl rfl rfl (by decide) in_X1_hasCable fl_X1_hasCable_43 rfl dX1_hasCable_37 rfl ?_
    refine v_if_ne C0 47 (pc' := 43) dX1_hasCable_40 (by decide) rfl (fun h5 => ?_) (fun h5 => ?_)
    · refine v_iconst C0 (pc' := 48) 0 (by decide) dX1_hasCable_47 rfl ?_
      refine v_world (ws' := wY cI bd U T F C B CM TR RO WY SU (s_X1_hasCable_TH F unit port) ST QU QN FE) (by simp only [s_X1_hasCable, s_X1_hasCable_TH, if_pos h1]) ?_
      exact v_zret C0 hr hlk hK (Or.inl rfl : (0 : Int32) = 0 ∨ (0 : Int32) = 1) (by simp only [s_X1_hasCable, s_X1_hasCable_TH, if_pos h1]) dX1_hasCable_48
    · exact absurd h5 (by decide)
theorem b_X1_hasCable (F : Nat → Int32) (unit : Int32) (port : Int32) : s_X1_hasCable F unit port = 0 ∨ s_X1_hasCable F unit port = 1 := by unfold s_X1_hasCable; (repeat' split) <;> first | exact Or.inl rfl | exact Or.inr rfl
theorem hasCable_port {F : Nat → Int32} {u p : Int32} (h : ¬ s_X1_hasCable F u p = 0) : ¬ s_X1_isPort u p = 0 := by
  intro q
  apply h
  unfold s_X1_hasCable
  rw [if_pos q]
theorem hasCable_in {F : Nat → Int32} {u p : Int32} (h : ¬ s_X1_hasCable F u p = 0) : vp_in (6 * u + p) 36 := isPort_in (hasCable_port h)
theorem hasCable_end {F : Nat → Int32} {u p : Int32} (h : ¬ s_X1_hasCable F u p = 0) : ¬ xAt 36 F (6 * u + p) = -1 := by
  intro q
  apply h
  unfold s_X1_hasCable
  rw [if_neg (hasCable_port h), if_pos q]
def s_X1_pull (F : Nat → Int32) (C : Nat → Int32) (unit : Int32) (port : Int32) : Int32 := if (s_X1_hasCable F unit port) = 0 then 0 else xAt 36 C ((6 * unit) + port)
def s_X1_pull_F (F : Nat → Int32) (unit : Int32) (port : Int32) : Nat → Int32 := if (s_X1_hasCable F unit port) = 0 then F else (xPut 36 (xPut 36 F (xAt 36 F ((6 * unit) + port)) (-1)) ((6 * unit) + port) (-1))
def s_X1_pull_CM (F : Nat → Int32) (CM : Int32) (unit : Int32) (port : Int32) : Int32 := if (s_X1_hasCable F unit port) = 0 then CM else (CM - 1)
def s_X1_pull_TH (F : Nat → Int32) (unit : Int32) (port : Int32) : Int32 := (s_X1_hasCable_TH F unit port)
set_option maxHeartbeats 4000000 in
set_option maxRecDepth 100000 in
theorem k_X1_pull (l : Launch) (D : va_G) (cI : ClassId) (bd : Nat → Nat) (U : Nat → Int32) (T : Nat → Int32) (F : Nat → Int32) (C : Nat → Int32) (B : Nat → Int32) (CM : Int32) (TR : Int32) (RO : Nat → Int32) (WY : Nat → Int32) (SU : Nat → Int32) (TH : Int32) (ST : Nat → Int32) (QU : Nat → Int32) (QN : Int32) (FE : Nat → Int32) (unit : Int32) (port : Int32) (hF : FR F) : Ki l yX1_pull wsX1_pull 3 65 0 0 D (TI cI) [.ref (bd 0), .int unit, .int port] (wY cI bd U T F C B CM TR RO WY SU TH ST QU QN FE) (wY cI bd U T (s_X1_pull_F F unit port) C B (s_X1_pull_CM F CM unit port) TR RO WY SU (s_X1_pull_TH F unit port) ST QU QN FE) (s_X1_pull F C unit port) := by
  refine Ki.of (cc := cX1_pull) (maxL := 4) (rt := .int) (lv0 := [(0, .ref (bd 0)), (1, .int unit), (2, .int port)]) (by decide +kernel) rfl (Nat.le_of_ble_eq_true rfl) rfl ?_
  intro p e s m args below meth c A C0 hr hlk hK hA
  refine v_aload_n C0 (pc' := 1) 0 rfl rfl dX1_pull_0 rfl ?_
  refine v_iload_n C0 (pc' := 2) 1 rfl rfl dX1_pull_1 rfl ?_
  refine v_iload_n C0 (pc' := 3) 2 rfl rfl dX1_pull_2 rfl ?_
  refine v_callVi0 C0 (av := [.int unit, .int port]) (rest := []) (ws' := wY cI bd U T F C B CM TR RO WY SU (s_X1_hasCable_TH F unit port) ST QU QN FE) (pc' := 6) hK hA (k_X1_hasCable l D cI bd U T F C B CM TR RO WY SU TH ST QU QN FE unit port) (cwV 2 C0.2.2.2.2 gX1_pull_X1_hasCable rfl rfl rfl (by decide +kernel) ⟨Nat.le_of_ble_eq_true rfl, Nat.le_of_ble_eq_true rfl⟩) ⟨0, 1, _, _, _, rfl, rfl⟩ PLs.all rfl rfl (Nat.le_of_ble_eq_true rfl) ⟨Nat.zero_le _, Nat.zero_le _⟩ dX1_pull_3 rfl ?_
  refine v_if_ne C0 11 (pc' := 9) dX1_pull_6 (by decide) rfl (fun h1 => ?_) (fun h1 => ?_)
  · refine v_bipush C0 (pc' := 13) 6 (by decide) dX1_pull_11 rfl ?_
    refine v_iload_n C0 (pc' := 14) 1 rfl rfl dX1_pull_13 rfl ?_
    refine v_imul C0 (pc' := 15) dX1_pull_14 rfl ?_
    refine v_iload_n C0 (pc' := 16) 2 rfl rfl dX1_pull_15 rfl ?_
    refine v_iadd C0 (pc' := 17) dX1_pull_16 rfl ?_
    refine v_istore_n C0 (lv' := [(3, .int ((6 * unit) + port)), (0, .ref (bd 0)), (1, .int unit), (2, .int port)]) (pc' := 18) rfl (by decide) rfl dX1_pull_17 rfl ?_
    refine v_aload_n C0 (pc' := 19) 1 rfl rfl dX1_pull_18 rfl ?_
    refine v_get C0 hK (C := RX1) (T := TX1) (N := 15) (pc' := 22) 0 2 rfl rfl rfl (by decide) in_X1_pull fl_X1_pull_16 rfl dX1_pull_19 rfl ?_
    refine v_aload_n C0 (pc' := 23) 1 rfl rfl dX1_pull_22 rfl ?_
    refine v_get C0 hK (C := RX1) (T := TX1) (N := 15) (pc' := 26) 0 2 rfl rfl rfl (by decide) in_X1_pull fl_X1_pull_16 rfl dX1_pull_23 rfl ?_
    refine v_iload_n C0 (pc' := 27) 0 rfl rfl dX1_pull_26 rfl ?_
    refine v_ialx C0 hK (pc' := 28) 3 0 rfl rfl (hasCable_in h1) (by decide) dX1_pull_27 rfl ?_
    refine v_iconst C0 (pc' := 29) (-1) (by decide) dX1_pull_28 rfl ?_
    refine v_iasx C0 hK (ws' := wY cI bd U T (xPut 36 F (xAt 36 F ((6 * unit) + port)) (-1)) C B CM TR RO WY SU (s_X1_hasCable_TH F unit port) ST QU QN FE) (pc' := 30) 3 0 rfl rfl rfl (FR_in hF (hasCable_in h1) (hasCable_end h1)) (by decide) dX1_pull_29 rfl ?_
    refine v_aload_n C0 (pc' := 31) 1 rfl rfl dX1_pull_30 rfl ?_
    refine v_get C0 hK (C := RX1) (T := TX1) (N := 15) (pc' := 34) 0 2 rfl rfl rfl (by decide) in_X1_pull fl_X1_pull_16 rfl dX1_pull_31 rfl ?_
    refine v_iload_n C0 (pc' := 35) 0 rfl rfl dX1_pull_34 rfl ?_
    refine v_iconst C0 (pc' := 36) (-1) (by decide) dX1_pull_35 rfl ?_
    refine v_iasx C0 hK (ws' := wY cI bd U T (xPut 36 (xPut 36 F (xAt 36 F ((6 * unit) + port)) (-1)) ((6 * unit) + port) (-1)) C B CM TR RO WY SU (s_X1_hasCable_TH F unit port) ST QU QN FE) (pc' := 37) 3 0 rfl rfl rfl (hasCable_in h1) (by decide) dX1_pull_36 rfl ?_
    refine v_aload_n C0 (pc' := 38) 1 rfl rfl dX1_pull_37 rfl ?_
    refine v_dup C0 (pc' := 39) rfl dX1_pull_38 rfl ?_
    refine v_get C0 hK (C := RX1) (T := TX1) (N := 15) (pc' := 42) 0 5 rfl rfl rfl (by decide) in_X1_pull fl_X1_pull_61 rfl dX1_pull_39 rfl ?_
    refine v_iconst C0 (pc' := 43) 1 (by decide) dX1_pull_42 rfl ?_
    refine v_isub C0 (pc' := 44) dX1_pull_43 rfl ?_
    refine v_put C0 hK (C := RX1) (T := TX1) (N := 15) (ws' := wY cI bd U T (xPut 36 (xPut 36 F (xAt 36 F ((6 * unit) + port)) (-1)) ((6 * unit) + port) (-1)) C B (CM - 1) TR RO WY SU (s_X1_hasCable_TH F unit port) ST QU QN FE) (pc' := 47) 0 5 tyX1 rfl rfl rfl (by decide) (Nat.le_of_ble_eq_true rfl) tyX1_ok nmX1 in_X1_pull fl_X1_pull_61 rfl rfl rfl rfl rfl dX1_pull_44 rfl ?_
    refine v_aload_n C0 (pc' := 48) 1 rfl rfl dX1_pull_47 rfl ?_
    refine v_get C0 hK (C := RX1) (T := TX1) (N := 15) (pc' := 51) 0 3 rfl rfl rfl (by decide) in_X1_pull fl_X1_pull_19 rfl dX1_pull_48 rfl ?_
    refine v_iload_n C0 (pc' := 52) 0 rfl rfl dX1_pull_51 rfl ?_
    refine v_ialx C0 hK (pc' := 53) 4 0 rfl rfl (hasCable_in h1) (by decide) dX1_pull_52 rfl ?_
    refine v_world (ws' := wY cI bd U T (s_X1_pull_F F unit port) C B (s_X1_pull_CM F CM unit port) TR RO WY SU (s_X1_pull_TH F unit port) ST QU QN FE) (by simp only [s_X1_pull, s_X1_pull_F, s_X1_pull_CM, s_X1_pull_TH, if_neg h1]) ?_
    exact v_iret C0 hr hlk hK (by simp only [s_X1_pull, s_X1_pull_F, s_X1_pull_CM, s_X1_pull_TH, if_neg h1]) dX1_pull_53
  · refine v_iconst C0 (pc' := 10) 0 (by decide) dX1_pull_9 rfl ?_
    refine v_world (ws' := wY cI bd U T (s_X1_pull_F F unit port) C B (s_X1_pull_CM F CM unit port) TR RO WY SU (s_X1_pull_TH F unit port) ST QU QN FE) (by simp only [s_X1_pull, s_X1_pull_F, s_X1_pull_CM, s_X1_pull_TH, if_pos h1]) ?_
    exact v_iret C0 hr hlk hK (by simp only [s_X1_pull, s_X1_pull_F, s_X1_pull_CM, s_X1_pull_TH, if_pos h1]) dX1_pull_10
def s_X1_tree (TR : Int32) : Int32 := TR
def s_X1_tree_TR (b : Int32) : Int32 := b
def s_X1_tree_TH  : Int32 := 0
set_option maxHeartbeats 4000000 in
set_option maxRecDepth 100000 in
theorem k_X1_tree (l : Launch) (D : va_G) (cI : ClassId) (bd : Nat → Nat) (U : Nat → Int32) (T : Nat → Int32) (F : Nat → Int32) (C : Nat → Int32) (B : Nat → Int32) (CM : Int32) (TR : Int32) (RO : Nat → Int32) (WY : Nat → Int32) (SU : Nat → Int32) (TH : Int32) (ST : Nat → Int32) (QU : Nat → Int32) (QN : Int32) (FE : Nat → Int32) (b : Int32) (hb_b : b = 0 ∨ b = 1) (hb_TR : TR = 0 ∨ TR = 1) : Ki l yX1_tree wsX1_tree 0 0 0 0 D (TI cI) [.ref (bd 0), .int b] (wY cI bd U T F C B CM TR RO WY SU TH ST QU QN FE) (wY cI bd U T F C B CM (s_X1_tree_TR b) RO WY SU (s_X1_tree_TH ) ST QU QN FE) (s_X1_tree TR) := by
  refine Ki.of (cc := cX1_tree) (maxL := 3) (rt := .boolean) (lv0 := [(0, .ref (bd 0)), (1, .int b)]) (by decide +kernel) rfl (Nat.le_of_ble_eq_true rfl) rfl ?_
  intro p e s m args below meth c A C0 hr hlk hK hA
  refine v_aload_n C0 (pc' := 1) 0 rfl rfl dX1_tree_0 rfl ?_
  refine v_iconst C0 (pc' := 2) 0 (by decide) dX1_tree_1 rfl ?_
  refine v_put C0 hK (C := RX1) (T := TX1) (N := 15) (ws' := wY cI bd U T F C B CM TR RO WY SU 0 ST QU QN FE) (pc' := 5) 0 10 tyX1 rfl rfl rfl (by decide) (Nat.le_of_ble_eq_true rfl) tyX1_ok nmX1 in_X1_tree fl_X1_tree_43 rfl rfl rfl rfl rfl dX1_tree_2 rfl ?_
  refine v_aload_n C0 (pc' := 6) 0 rfl rfl dX1_tree_5 rfl ?_
  refine v_get C0 hK (C := RX1) (T := TX1) (N := 15) (pc' := 9) 0 6 rfl rfl rfl (by decide) in_X1_tree fl_X1_tree_67 rfl dX1_tree_6 rfl ?_
  refine v_istore_n C0 (lv' := [(2, .int TR), (0, .ref (bd 0)), (1, .int b)]) (pc' := 10) rfl (by decide) rfl dX1_tree_9 rfl ?_
  refine v_aload_n C0 (pc' := 11) 1 rfl rfl dX1_tree_10 rfl ?_
  refine v_iload_n C0 (pc' := 12) 2 rfl rfl dX1_tree_11 rfl ?_
  refine v_put C0 hK (C := RX1) (T := TX1) (N := 15) (ws' := wY cI bd U T F C B CM b RO WY SU 0 ST QU QN FE) (pc' := 15) 0 6 tyX1 rfl rfl rfl (by decide) (Nat.le_of_ble_eq_true rfl) tyX1_ok nmX1 in_X1_tree fl_X1_tree_67 rfl rfl rfl (by rcases hb_b with h | h <;> rw [h] <;> rfl) (by rcases hb_b with h | h <;> rw [h] <;> rfl) dX1_tree_12 rfl ?_
  refine v_iload_n C0 (pc' := 16) 0 rfl rfl dX1_tree_15 rfl ?_
  refine v_world (ws' := wY cI bd U T F C B CM (s_X1_tree_TR b) RO WY SU (s_X1_tree_TH ) ST QU QN FE) rfl ?_
  exact v_zret C0 hr hlk hK hb_TR rfl dX1_tree_16
def s_X1_note (B : Nat → Int32) (unit : Int32) (port : Int32) (ou : Int32) (op : Int32) : Int32 := if (s_X1_isPort unit port) = 0 then 0 else (if ou = (-1) then (if (xAt 36 B ((6 * unit) + port)) = (-1) then 0 else 1) else (if (s_X1_isPort ou op) = 0 then 0 else (if (xAt 36 B ((6 * unit) + port)) = (-1) then 0 else 1)))
def s_X1_note_B (B : Nat → Int32) (unit : Int32) (port : Int32) (ou : Int32) (op : Int32) : Nat → Int32 := if (s_X1_isPort unit port) = 0 then B else (if ou = (-1) then ((xPut 36 B ((6 * unit) + port) (-1))) else (if (s_X1_isPort ou op) = 0 then B else ((xPut 36 B ((6 * unit) + port) ((6 * ou) + op)))))
def s_X1_note_TH (unit : Int32) (port : Int32) (ou : Int32) (op : Int32) : Int32 := if (s_X1_isPort unit port) = 0 then 1 else (if ou = (-1) then (0) else (if (s_X1_isPort ou op) = 0 then 1 else (0)))
set_option maxHeartbeats 4000000 in
set_option maxRecDepth 100000 in
theorem k_X1_note (l : Launch) (D : va_G) (cI : ClassId) (bd : Nat → Nat) (U : Nat → Int32) (T : Nat → Int32) (F : Nat → Int32) (C : Nat → Int32) (B : Nat → Int32) (CM : Int32) (TR : Int32) (RO : Nat → Int32) (WY : Nat → Int32) (SU : Nat → Int32) (TH : Int32) (ST : Nat → Int32) (QU : Nat → Int32) (QN : Int32) (FE : Nat → Int32) (unit : Int32) (port : Int32) (ou : Int32) (op : Int32) : Ki l yX1_note wsX1_note 2 43 0 0 D (TI cI) [.ref (bd 0), .int unit, .int port, .int ou, .int op] (wY cI bd U T F C B CM TR RO WY SU TH ST QU QN FE) (wY cI bd U T F C (s_X1_note_B B unit port ou op) CM TR RO WY SU (s_X1_note_TH unit port ou op) ST QU QN FE) (s_X1_note B unit port ou op) := by
  refine Ki.of (cc := cX1_note) (maxL := 7) (rt := .boolean) (lv0 := [(0, .ref (bd 0)), (1, .int unit), (2, .int port), (3, .int ou), (4, .int op)]) (by decide +kernel) rfl (Nat.le_of_ble_eq_true rfl) rfl ?_
  intro p e s m args below meth c A C0 hr hlk hK hA
  refine v_aload_n C0 (pc' := 1) 0 rfl rfl dX1_note_0 rfl ?_
  refine v_iload_n C0 (pc' := 2) 1 rfl rfl dX1_note_1 rfl ?_
  refine v_iload_n C0 (pc' := 3) 2 rfl rfl dX1_note_2 rfl ?_
  refine v_callSi0 C0 (av := [.int unit, .int port]) (rest := [.ref (bd 0)]) (ws' := wY cI bd U T F C B CM TR RO WY SU TH ST QU QN FE) (pc' := 6) hK hA (k_X1_isPort l D cI unit port) (va_cwS 2 C0.2.2.2.2 gX1_note_X1_isPort rfl rfl rfl (by decide +kernel) ⟨Nat.le_of_ble_eq_true rfl, Nat.le_of_ble_eq_true rfl⟩) PLs.nil rfl rfl (Nat.le_of_ble_eq_true rfl) ⟨Nat.zero_le _, Nat.zero_le _⟩ dX1_note_3 rfl ?_
  refine v_if_eq C0 23 (pc' := 9) dX1_note_6 (by decide) rfl (fun h1 => ?_) (fun h1 => ?_)
  · refine v_iconst C0 (pc' := 24) 1 (by decide) dX1_note_23 rfl ?_
    refine v_goto C0 28 dX1_note_24 (by decide) ?_
    refine v_put C0 hK (C := RX1) (T := TX1) (N := 15) (ws' := wY cI bd U T F C B CM TR RO WY SU 1 ST QU QN FE) (pc' := 31) 0 10 tyX1 rfl rfl rfl (by decide) (Nat.le_of_ble_eq_true rfl) tyX1_ok nmX1 in_X1_note fl_X1_note_43 rfl rfl rfl rfl rfl dX1_note_28 rfl ?_
    refine v_aload_n C0 (pc' := 32) 0 rfl rfl dX1_note_31 rfl ?_
    refine v_get C0 hK (C := RX1) (T := TX1) (N := 15) (pc' := 35) 0 10 rfl rfl rfl (by decide) in_X1_note fl_X1_note_43 rfl dX1_note_32 rfl ?_
    refine v_if_le C0 40 (pc' := 38) dX1_note_35 (by decide) rfl (fun h2 => ?_) (fun h2 => ?_)
    · exact absurd h2 (by decide)
    · refine v_iconst C0 (pc' := 39) 0 (by decide) dX1_note_38 rfl ?_
      refine v_world (ws' := wY cI bd U T F C (s_X1_note_B B unit port ou op) CM TR RO WY SU (s_X1_note_TH unit port ou op) ST QU QN FE) (by simp only [s_X1_note, s_X1_note_B, s_X1_note_TH, if_pos h1]) ?_
      exact v_zret C0 hr hlk hK (Or.inl rfl : (0 : Int32) = 0 ∨ (0 : Int32) = 1) (by simp only [s_X1_note, s_X1_note_B, s_X1_note_TH, if_pos h1]) dX1_note_39
  · refine v_iload_n C0 (pc' := 10) 3 rfl rfl dX1_note_9 rfl ?_
    refine v_iconst C0 (pc' := 11) (-1) (by decide) dX1_note_10 rfl ?_
    refine v_icmp_eq C0 27 (pc' := 14) dX1_note_11 (by decide) rfl (fun h3 => ?_) (fun h3 => ?_)
    · refine v_iconst C0 (pc' := 28) 0 (by decide) dX1_note_27 rfl ?_
      refine v_put C0 hK (C := RX1) (T := TX1) (N := 15) (ws' := wY cI bd U T F C B CM TR RO WY SU 0 ST QU QN FE) (pc' := 31) 0 10 tyX1 rfl rfl rfl (by decide) (Nat.le_of_ble_eq_true rfl) tyX1_ok nmX1 in_X1_note fl_X1_note_43 rfl rfl rfl rfl rfl dX1_note_28 rfl ?_
      refine v_aload_n C0 (pc' := 32) 0 rfl rfl dX1_note_31 rfl ?_
      refine v_get C0 hK (C := RX1) (T := TX1) (N := 15) (pc' := 35) 0 10 rfl rfl rfl (by decide) in_X1_note fl_X1_note_43 rfl dX1_note_32 rfl ?_
      refine v_if_le C0 40 (pc' := 38) dX1_note_35 (by decide) rfl (fun h4 => ?_) (fun h4 => ?_)
      · refine v_bipush C0 (pc' := 42) 6 (by decide) dX1_note_40 rfl ?_
        refine v_iload_n C0 (pc' := 43) 1 rfl rfl dX1_note_42 rfl ?_
        refine v_imul C0 (pc' := 44) dX1_note_43 rfl ?_
        refine v_iload_n C0 (pc' := 45) 2 rfl rfl dX1_note_44 rfl ?_
        refine v_iadd C0 (pc' := 46) dX1_note_45 rfl ?_
        refine v_istore C0 (lv' := [(5, .int ((6 * unit) + port)), (0, .ref (bd 0)), (1, .int unit), (2, .int port), (3, .int ou), (4, .int op)]) (pc' := 48) (by decide) rfl dX1_note_46 rfl ?_
        refine v_aload_n C0 (pc' := 49) 1 rfl rfl dX1_note_48 rfl ?_
        refine v_get C0 hK (C := RX1) (T := TX1) (N := 15) (pc' := 52) 0 4 rfl rfl rfl (by decide) in_X1_note fl_X1_note_22 rfl dX1_note_49 rfl ?_
        refine v_iload C0 (pc' := 54) 0 rfl dX1_note_52 rfl ?_
        refine v_ialx C0 hK (pc' := 55) 5 0 rfl rfl (isPort_in h1) (by decide) dX1_note_54 rfl ?_
        refine v_iconst C0 (pc' := 56) (-1) (by decide) dX1_note_55 rfl ?_
        refine v_icmp_eq C0 63 (pc' := 59) dX1_note_56 (by decide) rfl (fun h5 => ?_) (fun h5 => ?_)
        · refine v_iconst C0 (pc' := 64) 0 (by decide) dX1_note_63 rfl ?_
          refine v_istore C0 (lv' := [(6, .int 0), (5, .int ((6 * unit) + port)), (0, .ref (bd 0)), (1, .int unit), (2, .int port), (3, .int ou), (4, .int op)]) (pc' := 66) (by decide) rfl dX1_note_64 rfl ?_
          refine v_aload_n C0 (pc' := 67) 2 rfl rfl dX1_note_66 rfl ?_
          refine v_get C0 hK (C := RX1) (T := TX1) (N := 15) (pc' := 70) 0 4 rfl rfl rfl (by decide) in_X1_note fl_X1_note_22 rfl dX1_note_67 rfl ?_
          refine v_iload C0 (pc' := 72) 1 rfl dX1_note_70 rfl ?_
          refine v_iload_n C0 (pc' := 73) 5 rfl rfl dX1_note_72 rfl ?_
          refine v_iconst C0 (pc' := 74) (-1) (by decide) dX1_note_73 rfl ?_
          refine v_icmp_ne C0 81 (pc' := 77) dX1_note_74 (by decide) rfl (fun h6 => ?_) (fun h6 => ?_)
          · exact absurd h3 h6
          · refine v_iconst C0 (pc' := 78) (-1) (by decide) dX1_note_77 rfl ?_
            refine v_goto C0 88 dX1_note_78 (by decide) ?_
            refine v_iasx C0 hK (ws' := wY cI bd U T F C (xPut 36 B ((6 * unit) + port) (-1)) CM TR RO WY SU 0 ST QU QN FE) (pc' := 89) 5 0 rfl rfl rfl (isPort_in h1) (by decide) dX1_note_88 rfl ?_
            refine v_iload C0 (pc' := 91) 0 rfl dX1_note_89 rfl ?_
            refine v_world (ws' := wY cI bd U T F C (s_X1_note_B B unit port ou op) CM TR RO WY SU (s_X1_note_TH unit port ou op) ST QU QN FE) (by simp only [s_X1_note, s_X1_note_B, s_X1_note_TH, if_neg h1, if_pos h3, if_pos h5]) ?_
            exact v_zret C0 hr hlk hK (Or.inl rfl : (0 : Int32) = 0 ∨ (0 : Int32) = 1) (by simp only [s_X1_note, s_X1_note_B, s_X1_note_TH, if_neg h1, if_pos h3, if_pos h5]) dX1_note_91
        · refine v_iconst C0 (pc' := 60) 1 (by decide) dX1_note_59 rfl ?_
          refine v_goto C0 64 dX1_note_60 (by decide) ?_
          refine v_istore C0 (lv' := [(6, .int 1), (5, .int ((6 * unit) + port)), (0, .ref (bd 0)), (1, .int unit), (2, .int port), (3, .int ou), (4, .int op)]) (pc' := 66) (by decide) rfl dX1_note_64 rfl ?_
          refine v_aload_n C0 (pc' := 67) 2 rfl rfl dX1_note_66 rfl ?_
          refine v_get C0 hK (C := RX1) (T := TX1) (N := 15) (pc' := 70) 0 4 rfl rfl rfl (by decide) in_X1_note fl_X1_note_22 rfl dX1_note_67 rfl ?_
          refine v_iload C0 (pc' := 72) 1 rfl dX1_note_70 rfl ?_
          refine v_iload_n C0 (pc' := 73) 5 rfl rfl dX1_note_72 rfl ?_
          refine v_iconst C0 (pc' := 74) (-1) (by decide) dX1_note_73 rfl ?_
          refine v_icmp_ne C0 81 (pc' := 77) dX1_note_74 (by decide) rfl (fun h7 => ?_) (fun h7 => ?_)
          · exact absurd h3 h7
          · refine v_iconst C0 (pc' := 78) (-1) (by decide) dX1_note_77 rfl ?_
            refine v_goto C0 88 dX1_note_78 (by decide) ?_
            refine v_iasx C0 hK (ws' := wY cI bd U T F C (xPut 36 B ((6 * unit) + port) (-1)) CM TR RO WY SU 0 ST QU QN FE) (pc' := 89) 5 0 rfl rfl rfl (isPort_in h1) (by decide) dX1_note_88 rfl ?_
            refine v_iload C0 (pc' := 91) 0 rfl dX1_note_89 rfl ?_
            refine v_world (ws' := wY cI bd U T F C (s_X1_note_B B unit port ou op) CM TR RO WY SU (s_X1_note_TH unit port ou op) ST QU QN FE) (by simp only [s_X1_note, s_X1_note_B, s_X1_note_TH, if_neg h1, if_pos h3, if_neg h5]) ?_
            exact v_zret C0 hr hlk hK (Or.inr rfl : (1 : Int32) = 0 ∨ (1 : Int32) = 1) (by simp only [s_X1_note, s_X1_note_B, s_X1_note_TH, if_neg h1, if_pos h3, if_neg h5]) dX1_note_91
      · exact absurd (by decide) h4
    · refine v_iload_n C0 (pc' := 15) 3 rfl rfl dX1_note_14 rfl ?_
      refine v_iload C0 (pc' := 17) 4 rfl dX1_note_15 rfl ?_
      refine v_callSi0 C0 (av := [.int ou, .int op]) (rest := [.ref (bd 0)]) (ws' := wY cI bd U T F C B CM TR RO WY SU TH ST QU QN FE) (pc' := 20) hK hA (k_X1_isPort l D cI ou op) (va_cwS 2 C0.2.2.2.2 gX1_note_X1_isPort rfl rfl rfl (by decide +kernel) ⟨Nat.le_of_ble_eq_true rfl, Nat.le_of_ble_eq_true rfl⟩) PLs.nil rfl rfl (Nat.le_of_ble_eq_true rfl) ⟨Nat.zero_le _, Nat.zero_le _⟩ dX1_note_17 rfl ?_
      refine v_if_ne C0 27 (pc' := 23) dX1_note_20 (by decide) rfl (fun h8 => ?_) (fun h8 => ?_)
      · refine v_iconst C0 (pc' := 28) 0 (by decide) dX1_note_27 rfl ?_
        refine v_put C0 hK (C := RX1) (T := TX1) (N := 15) (ws' := wY cI bd U T F C B CM TR RO WY SU 0 ST QU QN FE) (pc' := 31) 0 10 tyX1 rfl rfl rfl (by decide) (Nat.le_of_ble_eq_true rfl) tyX1_ok nmX1 in_X1_note fl_X1_note_43 rfl rfl rfl rfl rfl dX1_note_28 rfl ?_
        refine v_aload_n C0 (pc' := 32) 0 rfl rfl dX1_note_31 rfl ?_
        refine v_get C0 hK (C := RX1) (T := TX1) (N := 15) (pc' := 35) 0 10 rfl rfl rfl (by decide) in_X1_note fl_X1_note_43 rfl dX1_note_32 rfl ?_
        refine v_if_le C0 40 (pc' := 38) dX1_note_35 (by decide) rfl (fun h9 => ?_) (fun h9 => ?_)
        · refine v_bipush C0 (pc' := 42) 6 (by decide) dX1_note_40 rfl ?_
          refine v_iload_n C0 (pc' := 43) 1 rfl rfl dX1_note_42 rfl ?_
          refine v_imul C0 (pc' := 44) dX1_note_43 rfl ?_
          refine v_iload_n C0 (pc' := 45) 2 rfl rfl dX1_note_44 rfl ?_
          refine v_iadd C0 (pc' := 46) dX1_note_45 rfl ?_
          refine v_istore C0 (lv' := [(5, .int ((6 * unit) + port)), (0, .ref (bd 0)), (1, .int unit), (2, .int port), (3, .int ou), (4, .int op)]) (pc' := 48) (by decide) rfl dX1_note_46 rfl ?_
          refine v_aload_n C0 (pc' := 49) 1 rfl rfl dX1_note_48 rfl ?_
          refine v_get C0 hK (C := RX1) (T := TX1) (N := 15) (pc' := 52) 0 4 rfl rfl rfl (by decide) in_X1_note fl_X1_note_22 rfl dX1_note_49 rfl ?_
          refine v_iload C0 (pc' := 54) 0 rfl dX1_note_52 rfl ?_
          refine v_ialx C0 hK (pc' := 55) 5 0 rfl rfl (isPort_in h1) (by decide) dX1_note_54 rfl ?_
          refine v_iconst C0 (pc' := 56) (-1) (by decide) dX1_note_55 rfl ?_
          refine v_icmp_eq C0 63 (pc' := 59) dX1_note_56 (by decide) rfl (fun h10 => ?_) (fun h10 => ?_)
          · refine v_iconst C0 (pc' := 64) 0 (by decide) dX1_note_63 rfl ?_
            refine v_istore C0 (lv' := [(6, .int 0), (5, .int ((6 * unit) + port)), (0, .ref (bd 0)), (1, .int unit), (2, .int port), (3, .int ou), (4, .int op)]) (pc' := 66) (by decide) rfl dX1_note_64 rfl ?_
            refine v_aload_n C0 (pc' := 67) 2 rfl rfl dX1_note_66 rfl ?_
            refine v_get C0 hK (C := RX1) (T := TX1) (N := 15) (pc' := 70) 0 4 rfl rfl rfl (by decide) in_X1_note fl_X1_note_22 rfl dX1_note_67 rfl ?_
            refine v_iload C0 (pc' := 72) 1 rfl dX1_note_70 rfl ?_
            refine v_iload_n C0 (pc' := 73) 5 rfl rfl dX1_note_72 rfl ?_
            refine v_iconst C0 (pc' := 74) (-1) (by decide) dX1_note_73 rfl ?_
            refine v_icmp_ne C0 81 (pc' := 77) dX1_note_74 (by decide) rfl (fun h11 => ?_) (fun h11 => ?_)
            · refine v_bipush C0 (pc' := 83) 6 (by decide) dX1_note_81 rfl ?_
              refine v_iload_n C0 (pc' := 84) 5 rfl rfl dX1_note_83 rfl ?_
              refine v_imul C0 (pc' := 85) dX1_note_84 rfl ?_
              refine v_iload C0 (pc' := 87) 6 rfl dX1_note_85 rfl ?_
              refine v_iadd C0 (pc' := 88) dX1_note_87 rfl ?_
              refine v_iasx C0 hK (ws' := wY cI bd U T F C (xPut 36 B ((6 * unit) + port) ((6 * ou) + op)) CM TR RO WY SU 0 ST QU QN FE) (pc' := 89) 5 0 rfl rfl rfl (isPort_in h1) (by decide) dX1_note_88 rfl ?_
              refine v_iload C0 (pc' := 91) 0 rfl dX1_note_89 rfl ?_
              refine v_world (ws' := wY cI bd U T F C (s_X1_note_B B unit port ou op) CM TR RO WY SU (s_X1_note_TH unit port ou op) ST QU QN FE) (by simp only [s_X1_note, s_X1_note_B, s_X1_note_TH, if_neg h1, if_neg h3, if_neg h8, if_pos h10]) ?_
              exact v_zret C0 hr hlk hK (Or.inl rfl : (0 : Int32) = 0 ∨ (0 : Int32) = 1) (by simp only [s_X1_note, s_X1_note_B, s_X1_note_TH, if_neg h1, if_neg h3, if_neg h8, if_pos h10]) dX1_note_91
            · exact absurd h11 h3
          · refine v_iconst C0 (pc' := 60) 1 (by decide) dX1_note_59 rfl ?_
            refine v_goto C0 64 dX1_note_60 (by decide) ?_
            refine v_istore C0 (lv' := [(6, .int 1), (5, .int ((6 * unit) + port)), (0, .ref (bd 0)), (1, .int unit), (2, .int port), (3, .int ou), (4, .int op)]) (pc' := 66) (by decide) rfl dX1_note_64 rfl ?_
            refine v_aload_n C0 (pc' := 67) 2 rfl rfl dX1_note_66 rfl ?_
            refine v_get C0 hK (C := RX1) (T := TX1) (N := 15) (pc' := 70) 0 4 rfl rfl rfl (by decide) in_X1_note fl_X1_note_22 rfl dX1_note_67 rfl ?_
            refine v_iload C0 (pc' := 72) 1 rfl dX1_note_70 rfl ?_
            refine v_iload_n C0 (pc' := 73) 5 rfl rfl dX1_note_72 rfl ?_
            refine v_iconst C0 (pc' := 74) (-1) (by decide) dX1_note_73 rfl ?_
            refine v_icmp_ne C0 81 (pc' := 77) dX1_note_74 (by decide) rfl (fun h12 => ?_) (fun h12 => ?_)
            · refine v_bipush C0 (pc' := 83) 6 (by decide) dX1_note_81 rfl ?_
              refine v_iload_n C0 (pc' := 84) 5 rfl rfl dX1_note_83 rfl ?_
              refine v_imul C0 (pc' := 85) dX1_note_84 rfl ?_
              refine v_iload C0 (pc' := 87) 6 rfl dX1_note_85 rfl ?_
              refine v_iadd C0 (pc' := 88) dX1_note_87 rfl ?_
              refine v_iasx C0 hK (ws' := wY cI bd U T F C (xPut 36 B ((6 * unit) + port) ((6 * ou) + op)) CM TR RO WY SU 0 ST QU QN FE) (pc' := 89) 5 0 rfl rfl rfl (isPort_in h1) (by decide) dX1_note_88 rfl ?_
              refine v_iload C0 (pc' := 91) 0 rfl dX1_note_89 rfl ?_
              refine v_world (ws' := wY cI bd U T F C (s_X1_note_B B unit port ou op) CM TR RO WY SU (s_X1_note_TH unit port ou op) ST QU QN FE) (by simp only [s_X1_note, s_X1_note_B, s_X1_note_TH, if_neg h1, if_neg h3, if_neg h8, if_neg h10]) ?_
              exact v_zret C0 hr hlk hK (Or.inr rfl : (1 : Int32) = 0 ∨ (1 : Int32) = 1) (by simp only [s_X1_note, s_X1_note_B, s_X1_note_TH, if_neg h1, if_neg h3, if_neg h8, if_neg h10]) dX1_note_91
            · exact absurd h12 h3
        · exact absurd (by decide) h9
      · refine v_iconst C0 (pc' := 24) 1 (by decide) dX1_note_23 rfl ?_
        refine v_goto C0 28 dX1_note_24 (by decide) ?_
        refine v_put C0 hK (C := RX1) (T := TX1) (N := 15) (ws' := wY cI bd U T F C B CM TR RO WY SU 1 ST QU QN FE) (pc' := 31) 0 10 tyX1 rfl rfl rfl (by decide) (Nat.le_of_ble_eq_true rfl) tyX1_ok nmX1 in_X1_note fl_X1_note_43 rfl rfl rfl rfl rfl dX1_note_28 rfl ?_
        refine v_aload_n C0 (pc' := 32) 0 rfl rfl dX1_note_31 rfl ?_
        refine v_get C0 hK (C := RX1) (T := TX1) (N := 15) (pc' := 35) 0 10 rfl rfl rfl (by decide) in_X1_note fl_X1_note_43 rfl dX1_note_32 rfl ?_
        refine v_if_le C0 40 (pc' := 38) dX1_note_35 (by decide) rfl (fun h13 => ?_) (fun h13 => ?_)
        · exact absurd h13 (by decide)
        · refine v_iconst C0 (pc' := 39) 0 (by decide) dX1_note_38 rfl ?_
          refine v_world (ws' := wY cI bd U T F C (s_X1_note_B B unit port ou op) CM TR RO WY SU (s_X1_note_TH unit port ou op) ST QU QN FE) (by simp only [s_X1_note, s_X1_note_B, s_X1_note_TH, if_neg h1, if_neg h3, if_pos h8]) ?_
          exact v_zret C0 hr hlk hK (Or.inl rfl : (0 : Int32) = 0 ∨ (0 : Int32) = 1) (by simp only [s_X1_note, s_X1_note_B, s_X1_note_TH, if_neg h1, if_neg h3, if_pos h8]) dX1_note_39
theorem b_X1_note (B : Nat → Int32) (unit : Int32) (port : Int32) (ou : Int32) (op : Int32) : s_X1_note B unit port ou op = 0 ∨ s_X1_note B unit port ou op = 1 := by unfold s_X1_note; (repeat' split) <;> first | exact Or.inl rfl | exact Or.inr rfl
def s_X1_isLive (F : Nat → Int32) (TR : Int32) (WY : Nat → Int32) (sl : Int32) : Int32 := if (xAt 36 F sl) = (-1) then 0 else (if TR = 0 then 1 else (if (xAt 6 WY (sl / 6)) = sl then 1 else (if (xAt 6 WY ((xAt 36 F sl) / 6)) = (xAt 36 F sl) then 1 else 0)))
set_option maxHeartbeats 4000000 in
set_option maxRecDepth 100000 in
theorem k_X1_isLive (l : Launch) (D : va_G) (cI : ClassId) (bd : Nat → Nat) (U : Nat → Int32) (T : Nat → Int32) (F : Nat → Int32) (C : Nat → Int32) (B : Nat → Int32) (CM : Int32) (TR : Int32) (RO : Nat → Int32) (WY : Nat → Int32) (SU : Nat → Int32) (TH : Int32) (ST : Nat → Int32) (QU : Nat → Int32) (QN : Int32) (FE : Nat → Int32) (sl : Int32) (hb_TR : TR = 0 ∨ TR = 1) (hat : vp_in sl 36) (hF : FR F) : Ki l yX1_isLive wsX1_isLive 0 0 0 0 D (TI cI) [.ref (bd 0), .int sl] (wY cI bd U T F C B CM TR RO WY SU TH ST QU QN FE) (wY cI bd U T F C B CM TR RO WY SU TH ST QU QN FE) (s_X1_isLive F TR WY sl) := by
  refine Ki.of (cc := cX1_isLive) (maxL := 2) (rt := .boolean) (lv0 := [(0, .ref (bd 0)), (1, .int sl)]) (by decide +kernel) rfl (Nat.le_of_ble_eq_true rfl) rfl ?_
  intro p e s m args below meth c A C0 hr hlk hK hA
  refine v_aload_n C0 (pc' := 1) 0 rfl rfl dX1_isLive_0 rfl ?_
  refine v_get C0 hK (C := RX1) (T := TX1) (N := 15) (pc' := 4) 0 2 rfl rfl rfl (by decide) in_X1_isLive fl_X1_isLive_16 rfl dX1_isLive_1 rfl ?_
  refine v_iload_n C0 (pc' := 5) 1 rfl rfl dX1_isLive_4 rfl ?_
  refine v_ialx C0 hK (pc' := 6) 3 0 rfl rfl hat (by decide) dX1_isLive_5 rfl ?_
  refine v_iconst C0 (pc' := 7) (-1) (by decide) dX1_isLive_6 rfl ?_
  refine v_icmp_eq C0 57 (pc' := 10) dX1_isLive_7 (by decide) rfl (fun h1 => ?_) (fun h1 => ?_)
  · refine v_iconst C0 (pc' := 58) 0 (by decide) dX1_isLive_57 rfl ?_
    exact v_zret C0 hr hlk hK (Or.inl rfl : (0 : Int32) = 0 ∨ (0 : Int32) = 1) (by simp only [s_X1_isLive, if_pos h1]) dX1_isLive_58
  · refine v_aload_n C0 (pc' := 11) 0 rfl rfl dX1_isLive_10 rfl ?_
    refine v_get C0 hK (C := RX1) (T := TX1) (N := 15) (pc' := 14) 0 6 rfl rfl rfl (by decide) in_X1_isLive fl_X1_isLive_67 rfl dX1_isLive_11 rfl ?_
    refine v_if_eq C0 53 (pc' := 17) dX1_isLive_14 (by decide) rfl (fun h2 => ?_) (fun h2 => ?_)
    · refine v_iconst C0 (pc' := 54) 1 (by decide) dX1_isLive_53 rfl ?_
      refine v_goto C0 58 dX1_isLive_54 (by decide) ?_
      exact v_zret C0 hr hlk hK (Or.inr rfl : (1 : Int32) = 0 ∨ (1 : Int32) = 1) (by simp only [s_X1_isLive, if_neg h1, if_pos h2]) dX1_isLive_58
    · refine v_aload_n C0 (pc' := 18) 0 rfl rfl dX1_isLive_17 rfl ?_
      refine v_get C0 hK (C := RX1) (T := TX1) (N := 15) (pc' := 21) 0 8 rfl rfl rfl (by decide) in_X1_isLive fl_X1_isLive_28 rfl dX1_isLive_18 rfl ?_
      refine v_iload_n C0 (pc' := 22) 1 rfl rfl dX1_isLive_21 rfl ?_
      refine v_bipush C0 (pc' := 24) 6 (by decide) dX1_isLive_22 rfl ?_
      refine v_idiv C0 (pc' := 25) (by decide) dX1_isLive_24 rfl ?_
      refine v_ialx C0 hK (pc' := 26) 7 0 rfl rfl (div6_in hat) (by decide) dX1_isLive_25 rfl ?_
      refine v_iload_n C0 (pc' := 27) 1 rfl rfl dX1_isLive_26 rfl ?_
      refine v_icmp_eq C0 53 (pc' := 30) dX1_isLive_27 (by decide) rfl (fun h3 => ?_) (fun h3 => ?_)
      · refine v_iconst C0 (pc' := 54) 1 (by decide) dX1_isLive_53 rfl ?_
        refine v_goto C0 58 dX1_isLive_54 (by decide) ?_
        exact v_zret C0 hr hlk hK (Or.inr rfl : (1 : Int32) = 0 ∨ (1 : Int32) = 1) (by simp only [s_X1_isLive, if_neg h1, if_neg h2, if_pos h3]) dX1_isLive_58
      · refine v_aload_n C0 (pc' := 31) 0 rfl rfl dX1_isLive_30 rfl ?_
        refine v_get C0 hK (C := RX1) (T := TX1) (N := 15) (pc' := 34) 0 8 rfl rfl rfl (by decide) in_X1_isLive fl_X1_isLive_28 rfl dX1_isLive_31 rfl ?_
        refine v_aload_n C0 (pc' := 35) 0 rfl rfl dX1_isLive_34 rfl ?_
        refine v_get C0 hK (C := RX1) (T := TX1) (N := 15) (pc' := 38) 0 2 rfl rfl rfl (by decide) in_X1_isLive fl_X1_isLive_16 rfl dX1_isLive_35 rfl ?_
        refine v_iload_n C0 (pc' := 39) 1 rfl rfl dX1_isLive_38 rfl ?_
        refine v_ialx C0 hK (pc' := 40) 3 0 rfl rfl hat (by decide) dX1_isLive_39 rfl ?_
        refine v_bipush C0 (pc' := 42) 6 (by decide) dX1_isLive_40 rfl ?_
        refine v_idiv C0 (pc' := 43) (by decide) dX1_isLive_42 rfl ?_
        refine v_ialx C0 hK (pc' := 44) 7 0 rfl rfl (div6_in (FR_in hF hat h1)) (by decide) dX1_isLive_43 rfl ?_
        refine v_aload_n C0 (pc' := 45) 0 rfl rfl dX1_isLive_44 rfl ?_
        refine v_get C0 hK (C := RX1) (T := TX1) (N := 15) (pc' := 48) 0 2 rfl rfl rfl (by decide) in_X1_isLive fl_X1_isLive_16 rfl dX1_isLive_45 rfl ?_
        refine v_iload_n C0 (pc' := 49) 1 rfl rfl dX1_isLive_48 rfl ?_
        refine v_ialx C0 hK (pc' := 50) 3 0 rfl rfl hat (by decide) dX1_isLive_49 rfl ?_
        refine v_icmp_ne C0 57 (pc' := 53) dX1_isLive_50 (by decide) rfl (fun h4 => ?_) (fun h4 => ?_)
        · refine v_iconst C0 (pc' := 58) 0 (by decide) dX1_isLive_57 rfl ?_
          exact v_zret C0 hr hlk hK (Or.inl rfl : (0 : Int32) = 0 ∨ (0 : Int32) = 1) (by simp only [s_X1_isLive, if_neg h1, if_neg h2, if_neg h3, if_neg h4]) dX1_isLive_58
        · refine v_iconst C0 (pc' := 54) 1 (by decide) dX1_isLive_53 rfl ?_
          refine v_goto C0 58 dX1_isLive_54 (by decide) ?_
          exact v_zret C0 hr hlk hK (Or.inr rfl : (1 : Int32) = 0 ∨ (1 : Int32) = 1) (by simp only [s_X1_isLive, if_neg h1, if_neg h2, if_neg h3, if_pos h4]) dX1_isLive_58
theorem b_X1_isLive (F : Nat → Int32) (TR : Int32) (WY : Nat → Int32) (sl : Int32) : s_X1_isLive F TR WY sl = 0 ∨ s_X1_isLive F TR WY sl = 1 := by unfold s_X1_isLive; (repeat' split) <;> first | exact Or.inl rfl | exact Or.inr rfl
theorem live_end {F WY : Nat → Int32} {TR sl : Int32} (h : ¬ s_X1_isLive F TR WY sl = 0) : ¬ xAt 36 F sl = -1 := by
  intro q
  apply h
  unfold s_X1_isLive
  rw [if_pos q]
def s_X1_far (F : Nat → Int32) (unit : Int32) (port : Int32) : Int32 := if (s_X1_isPort unit port) = 0 then 0 else (if (xAt 36 F ((6 * unit) + port)) = (-1) then (-1) else (((xAt 36 F ((6 * unit) + port)) / 6) * 10) + ((xAt 36 F ((6 * unit) + port)) - (xAt 36 F ((6 * unit) + port)) / 6 * 6))
def s_X1_far_TH (unit : Int32) (port : Int32) : Int32 := if (s_X1_isPort unit port) = 0 then 1 else (0)
set_option maxHeartbeats 4000000 in
set_option maxRecDepth 100000 in
theorem k_X1_far (l : Launch) (D : va_G) (cI : ClassId) (bd : Nat → Nat) (U : Nat → Int32) (T : Nat → Int32) (F : Nat → Int32) (C : Nat → Int32) (B : Nat → Int32) (CM : Int32) (TR : Int32) (RO : Nat → Int32) (WY : Nat → Int32) (SU : Nat → Int32) (TH : Int32) (ST : Nat → Int32) (QU : Nat → Int32) (QN : Int32) (FE : Nat → Int32) (unit : Int32) (port : Int32) : Ki l yX1_far wsX1_far 2 43 0 0 D (TI cI) [.ref (bd 0), .int unit, .int port] (wY cI bd U T F C B CM TR RO WY SU TH ST QU QN FE) (wY cI bd U T F C B CM TR RO WY SU (s_X1_far_TH unit port) ST QU QN FE) (s_X1_far F unit port) := by
  refine Ki.of (cc := cX1_far) (maxL := 4) (rt := .int) (lv0 := [(0, .ref (bd 0)), (1, .int unit), (2, .int port)]) (by decide +kernel) rfl (Nat.le_of_ble_eq_true rfl) rfl ?_
  intro p e s m args below meth c A C0 hr hlk hK hA
  refine v_aload_n C0 (pc' := 1) 0 rfl rfl dX1_far_0 rfl ?_
  refine v_iload_n C0 (pc' := 2) 1 rfl rfl dX1_far_1 rfl ?_
  refine v_iload_n C0 (pc' := 3) 2 rfl rfl dX1_far_2 rfl ?_
  refine v_callSi0 C0 (av := [.int unit, .int port]) (rest := [.ref (bd 0)]) (ws' := wY cI bd U T F C B CM TR RO WY SU TH ST QU QN FE) (pc' := 6) hK hA (k_X1_isPort l D cI unit port) (va_cwS 2 C0.2.2.2.2 gX1_far_X1_isPort rfl rfl rfl (by decide +kernel) ⟨Nat.le_of_ble_eq_true rfl, Nat.le_of_ble_eq_true rfl⟩) PLs.nil rfl rfl (Nat.le_of_ble_eq_true rfl) ⟨Nat.zero_le _, Nat.zero_le _⟩ dX1_far_3 rfl ?_
  refine v_if_eq C0 13 (pc' := 9) dX1_far_6 (by decide) rfl (fun h1 => ?_) (fun h1 => ?_)
  · refine v_iconst C0 (pc' := 14) 1 (by decide) dX1_far_13 rfl ?_
    refine v_put C0 hK (C := RX1) (T := TX1) (N := 15) (ws' := wY cI bd U T F C B CM TR RO WY SU 1 ST QU QN FE) (pc' := 17) 0 10 tyX1 rfl rfl rfl (by decide) (Nat.le_of_ble_eq_true rfl) tyX1_ok nmX1 in_X1_far fl_X1_far_43 rfl rfl rfl rfl rfl dX1_far_14 rfl ?_
    refine v_aload_n C0 (pc' := 18) 0 rfl rfl dX1_far_17 rfl ?_
    refine v_get C0 hK (C := RX1) (T := TX1) (N := 15) (pc' := 21) 0 10 rfl rfl rfl (by decide) in_X1_far fl_X1_far_43 rfl dX1_far_18 rfl ?_
    refine v_if_ne C0 38 (pc' := 24) dX1_far_21 (by decide) rfl (fun h2 => ?_) (fun h2 => ?_)
    · refine v_iconst C0 (pc' := 39) 0 (by decide) dX1_far_38 rfl ?_
      refine v_istore_n C0 (lv' := [(3, .int 0), (0, .ref (bd 0)), (1, .int unit), (2, .int port)]) (pc' := 40) rfl (by decide) rfl dX1_far_39 rfl ?_
      refine v_aload_n C0 (pc' := 41) 1 rfl rfl dX1_far_40 rfl ?_
      refine v_get C0 hK (C := RX1) (T := TX1) (N := 15) (pc' := 44) 0 10 rfl rfl rfl (by decide) in_X1_far fl_X1_far_43 rfl dX1_far_41 rfl ?_
      refine v_if_le C0 51 (pc' := 47) dX1_far_44 (by decide) rfl (fun h3 => ?_) (fun h3 => ?_)
      · exact absurd h3 (by decide)
      · refine v_iconst C0 (pc' := 48) 0 (by decide) dX1_far_47 rfl ?_
        refine v_goto C0 72 dX1_far_48 (by decide) ?_
        refine v_world (ws' := wY cI bd U T F C B CM TR RO WY SU (s_X1_far_TH unit port) ST QU QN FE) (by simp only [s_X1_far, s_X1_far_TH, if_pos h1]) ?_
        exact v_iret C0 hr hlk hK (by simp only [s_X1_far, s_X1_far_TH, if_pos h1]) dX1_far_72
    · exact absurd h2 (by decide)
  · refine v_iconst C0 (pc' := 10) 0 (by decide) dX1_far_9 rfl ?_
    refine v_goto C0 14 dX1_far_10 (by decide) ?_
    refine v_put C0 hK (C := RX1) (T := TX1) (N := 15) (ws' := wY cI bd U T F C B CM TR RO WY SU 0 ST QU QN FE) (pc' := 17) 0 10 tyX1 rfl rfl rfl (by decide) (Nat.le_of_ble_eq_true rfl) tyX1_ok nmX1 in_X1_far fl_X1_far_43 rfl rfl rfl rfl rfl dX1_far_14 rfl ?_
    refine v_aload_n C0 (pc' := 18) 0 rfl rfl dX1_far_17 rfl ?_
    refine v_get C0 hK (C := RX1) (T := TX1) (N := 15) (pc' := 21) 0 10 rfl rfl rfl (by decide) in_X1_far fl_X1_far_43 rfl dX1_far_18 rfl ?_
    refine v_if_ne C0 38 (pc' := 24) dX1_far_21 (by decide) rfl (fun h4 => ?_) (fun h4 => ?_)
    · exact absurd (by decide) h4
    · refine v_aload_n C0 (pc' := 25) 0 rfl rfl dX1_far_24 rfl ?_
      refine v_get C0 hK (C := RX1) (T := TX1) (N := 15) (pc' := 28) 0 2 rfl rfl rfl (by decide) in_X1_far fl_X1_far_16 rfl dX1_far_25 rfl ?_
      refine v_bipush C0 (pc' := 30) 6 (by decide) dX1_far_28 rfl ?_
      refine v_iload_n C0 (pc' := 31) 1 rfl rfl dX1_far_30 rfl ?_
      refine v_imul C0 (pc' := 32) dX1_far_31 rfl ?_
      refine v_iload_n C0 (pc' := 33) 2 rfl rfl dX1_far_32 rfl ?_
      refine v_iadd C0 (pc' := 34) dX1_far_33 rfl ?_
      refine v_ialx C0 hK (pc' := 35) 3 0 rfl rfl (isPort_in h1) (by decide) dX1_far_34 rfl ?_
      refine v_goto C0 39 dX1_far_35 (by decide) ?_
      refine v_istore_n C0 (lv' := [(3, .int (xAt 36 F ((6 * unit) + port))), (0, .ref (bd 0)), (1, .int unit), (2, .int port)]) (pc' := 40) rfl (by decide) rfl dX1_far_39 rfl ?_
      refine v_aload_n C0 (pc' := 41) 1 rfl rfl dX1_far_40 rfl ?_
      refine v_get C0 hK (C := RX1) (T := TX1) (N := 15) (pc' := 44) 0 10 rfl rfl rfl (by decide) in_X1_far fl_X1_far_43 rfl dX1_far_41 rfl ?_
      refine v_if_le C0 51 (pc' := 47) dX1_far_44 (by decide) rfl (fun h5 => ?_) (fun h5 => ?_)
      · refine v_iload_n C0 (pc' := 52) 0 rfl rfl dX1_far_51 rfl ?_
        refine v_iconst C0 (pc' := 53) (-1) (by decide) dX1_far_52 rfl ?_
        refine v_icmp_ne C0 60 (pc' := 56) dX1_far_53 (by decide) rfl (fun h6 => ?_) (fun h6 => ?_)
        · refine v_iload_n C0 (pc' := 61) 0 rfl rfl dX1_far_60 rfl ?_
          refine v_bipush C0 (pc' := 63) 6 (by decide) dX1_far_61 rfl ?_
          refine v_idiv C0 (pc' := 64) (by decide) dX1_far_63 rfl ?_
          refine v_bipush C0 (pc' := 66) 10 (by decide) dX1_far_64 rfl ?_
          refine v_imul C0 (pc' := 67) dX1_far_66 rfl ?_
          refine v_iload_n C0 (pc' := 68) 0 rfl rfl dX1_far_67 rfl ?_
          refine v_bipush C0 (pc' := 70) 6 (by decide) dX1_far_68 rfl ?_
          refine v_irem C0 (pc' := 71) (by decide) dX1_far_70 rfl ?_
          refine v_iadd C0 (pc' := 72) dX1_far_71 rfl ?_
          refine v_world (ws' := wY cI bd U T F C B CM TR RO WY SU (s_X1_far_TH unit port) ST QU QN FE) (by simp only [s_X1_far, s_X1_far_TH, if_neg h1, if_neg h6]) ?_
          exact v_iret C0 hr hlk hK (by simp only [s_X1_far, s_X1_far_TH, if_neg h1, if_neg h6]) dX1_far_72
        · refine v_iconst C0 (pc' := 57) (-1) (by decide) dX1_far_56 rfl ?_
          refine v_goto C0 72 dX1_far_57 (by decide) ?_
          refine v_world (ws' := wY cI bd U T F C B CM TR RO WY SU (s_X1_far_TH unit port) ST QU QN FE) (by simp only [s_X1_far, s_X1_far_TH, if_neg h1, if_pos h6]) ?_
          exact v_iret C0 hr hlk hK (by simp only [s_X1_far, s_X1_far_TH, if_neg h1, if_pos h6]) dX1_far_72
      · exact absurd (by decide) h5
def s_X1_carried (U : Nat → Int32) (T : Nat → Int32) (F : Nat → Int32) (sl : Int32) (lane : Int32) : Int32 := if (s_X1_isTagged T sl lane) = 0 then (if (xAt 36 U sl) = lane then (if (xAt 36 U (xAt 36 F sl)) ≤ 0 then (-1) else xAt 36 U (xAt 36 F sl)) else (-1)) else (if (s_X1_isTagged T (xAt 36 F sl) lane) = 0 then (-1) else lane)
set_option maxHeartbeats 4000000 in
set_option maxRecDepth 100000 in
theorem k_X1_carried (l : Launch) (D : va_G) (cI : ClassId) (bd : Nat → Nat) (U : Nat → Int32) (T : Nat → Int32) (F : Nat → Int32) (C : Nat → Int32) (B : Nat → Int32) (CM : Int32) (TR : Int32) (RO : Nat → Int32) (WY : Nat → Int32) (SU : Nat → Int32) (TH : Int32) (ST : Nat → Int32) (QU : Nat → Int32) (QN : Int32) (FE : Nat → Int32) (sl : Int32) (lane : Int32) (hat : vp_in sl 36) (hF : FR F) (he : ¬ xAt 36 F sl = -1) : Ki l yX1_carried wsX1_carried 1 22 0 0 D (TI cI) [.ref (bd 0), .int sl, .int lane] (wY cI bd U T F C B CM TR RO WY SU TH ST QU QN FE) (wY cI bd U T F C B CM TR RO WY SU TH ST QU QN FE) (s_X1_carried U T F sl lane) := by
  refine Ki.of (cc := cX1_carried) (maxL := 4) (rt := .int) (lv0 := [(0, .ref (bd 0)), (1, .int sl), (2, .int lane)]) (by decide +kernel) rfl (Nat.le_of_ble_eq_true rfl) rfl ?_
  intro p e s m args below meth c A C0 hr hlk hK hA
  refine v_aload_n C0 (pc' := 1) 0 rfl rfl dX1_carried_0 rfl ?_
  refine v_get C0 hK (C := RX1) (T := TX1) (N := 15) (pc' := 4) 0 2 rfl rfl rfl (by decide) in_X1_carried fl_X1_carried_16 rfl dX1_carried_1 rfl ?_
  refine v_iload_n C0 (pc' := 5) 1 rfl rfl dX1_carried_4 rfl ?_
  refine v_ialx C0 hK (pc' := 6) 3 0 rfl rfl hat (by decide) dX1_carried_5 rfl ?_
  refine v_istore_n C0 (lv' := [(3, .int (xAt 36 F sl)), (0, .ref (bd 0)), (1, .int sl), (2, .int lane)]) (pc' := 7) rfl (by decide) rfl dX1_carried_6 rfl ?_
  refine v_aload_n C0 (pc' := 8) 1 rfl rfl dX1_carried_7 rfl ?_
  refine v_iload_n C0 (pc' := 9) 2 rfl rfl dX1_carried_8 rfl ?_
  refine v_iload_n C0 (pc' := 10) 3 rfl rfl dX1_carried_9 rfl ?_
  refine v_callVi0 C0 (av := [.int sl, .int lane]) (rest := []) (ws' := wY cI bd U T F C B CM TR RO WY SU TH ST QU QN FE) (pc' := 13) hK hA (k_X1_isTagged l D cI bd U T F C B CM TR RO WY SU TH ST QU QN FE sl lane hat) (cwV 2 C0.2.2.2.2 gX1_carried_X1_isTagged rfl rfl rfl (by decide +kernel) ⟨Nat.le_of_ble_eq_true rfl, Nat.le_of_ble_eq_true rfl⟩) ⟨0, 1, _, _, _, rfl, rfl⟩ PLs.all rfl rfl (Nat.le_of_ble_eq_true rfl) ⟨Nat.zero_le _, Nat.zero_le _⟩ dX1_carried_10 rfl ?_
  refine v_if_eq C0 31 (pc' := 16) dX1_carried_13 (by decide) rfl (fun h1 => ?_) (fun h1 => ?_)
  · refine v_aload_n C0 (pc' := 32) 1 rfl rfl dX1_carried_31 rfl ?_
    refine v_get C0 hK (C := RX1) (T := TX1) (N := 15) (pc' := 35) 0 0 rfl rfl rfl (by decide) in_X1_carried fl_X1_carried_7 rfl dX1_carried_32 rfl ?_
    refine v_iload_n C0 (pc' := 36) 2 rfl rfl dX1_carried_35 rfl ?_
    refine v_ialx C0 hK (pc' := 37) 1 0 rfl rfl hat (by decide) dX1_carried_36 rfl ?_
    refine v_iload_n C0 (pc' := 38) 3 rfl rfl dX1_carried_37 rfl ?_
    refine v_icmp_ne C0 59 (pc' := 41) dX1_carried_38 (by decide) rfl (fun h2 => ?_) (fun h2 => ?_)
    · refine v_iconst C0 (pc' := 60) (-1) (by decide) dX1_carried_59 rfl ?_
      exact v_iret C0 hr hlk hK (by simp only [s_X1_carried, if_pos h1, if_neg h2]) dX1_carried_60
    · refine v_aload_n C0 (pc' := 42) 1 rfl rfl dX1_carried_41 rfl ?_
      refine v_get C0 hK (C := RX1) (T := TX1) (N := 15) (pc' := 45) 0 0 rfl rfl rfl (by decide) in_X1_carried fl_X1_carried_7 rfl dX1_carried_42 rfl ?_
      refine v_iload_n C0 (pc' := 46) 0 rfl rfl dX1_carried_45 rfl ?_
      refine v_ialx C0 hK (pc' := 47) 1 0 rfl rfl (FR_in hF hat he) (by decide) dX1_carried_46 rfl ?_
      refine v_if_le C0 59 (pc' := 50) dX1_carried_47 (by decide) rfl (fun h3 => ?_) (fun h3 => ?_)
      · refine v_iconst C0 (pc' := 60) (-1) (by decide) dX1_carried_59 rfl ?_
        exact v_iret C0 hr hlk hK (by simp only [s_X1_carried, if_pos h1, if_pos h2, if_pos h3]) dX1_carried_60
      · refine v_aload_n C0 (pc' := 51) 1 rfl rfl dX1_carried_50 rfl ?_
        refine v_get C0 hK (C := RX1) (T := TX1) (N := 15) (pc' := 54) 0 0 rfl rfl rfl (by decide) in_X1_carried fl_X1_carried_7 rfl dX1_carried_51 rfl ?_
        refine v_iload_n C0 (pc' := 55) 0 rfl rfl dX1_carried_54 rfl ?_
        refine v_ialx C0 hK (pc' := 56) 1 0 rfl rfl (FR_in hF hat he) (by decide) dX1_carried_55 rfl ?_
        refine v_goto C0 60 dX1_carried_56 (by decide) ?_
        exact v_iret C0 hr hlk hK (by simp only [s_X1_carried, if_pos h1, if_pos h2, if_neg h3]) dX1_carried_60
  · refine v_aload_n C0 (pc' := 17) 1 rfl rfl dX1_carried_16 rfl ?_
    refine v_iload_n C0 (pc' := 18) 0 rfl rfl dX1_carried_17 rfl ?_
    refine v_iload_n C0 (pc' := 19) 3 rfl rfl dX1_carried_18 rfl ?_
    refine v_callVi0 C0 (av := [.int (xAt 36 F sl), .int lane]) (rest := []) (ws' := wY cI bd U T F C B CM TR RO WY SU TH ST QU QN FE) (pc' := 22) hK hA (k_X1_isTagged l D cI bd U T F C B CM TR RO WY SU TH ST QU QN FE (xAt 36 F sl) lane (FR_in hF hat he)) (cwV 2 C0.2.2.2.2 gX1_carried_X1_isTagged rfl rfl rfl (by decide +kernel) ⟨Nat.le_of_ble_eq_true rfl, Nat.le_of_ble_eq_true rfl⟩) ⟨0, 1, _, _, _, rfl, rfl⟩ PLs.all rfl rfl (Nat.le_of_ble_eq_true rfl) ⟨Nat.zero_le _, Nat.zero_le _⟩ dX1_carried_19 rfl ?_
    refine v_if_eq C0 29 (pc' := 25) dX1_carried_22 (by decide) rfl (fun h4 => ?_) (fun h4 => ?_)
    · refine v_iconst C0 (pc' := 30) (-1) (by decide) dX1_carried_29 rfl ?_
      exact v_iret C0 hr hlk hK (by simp only [s_X1_carried, if_neg h1, if_pos h4]) dX1_carried_30
    · refine v_iload_n C0 (pc' := 26) 3 rfl rfl dX1_carried_25 rfl ?_
      refine v_goto C0 30 dX1_carried_26 (by decide) ?_
      exact v_iret C0 hr hlk hK (by simp only [s_X1_carried, if_neg h1, if_neg h4]) dX1_carried_30
def s_X1_comesAs (U : Nat → Int32) (T : Nat → Int32) (F : Nat → Int32) (unit : Int32) (port : Int32) (lane : Int32) : Int32 := if (s_X1_isPort unit port) = 0 then 0 else (if (s_X1_isPlace unit lane) = 0 then 0 else (if (s_X1_hasCable F unit port) = 0 then 0 else s_X1_carried U T F ((6 * unit) + port) lane))
def s_X1_comesAs_TH (F : Nat → Int32) (unit : Int32) (port : Int32) (lane : Int32) : Int32 := if (s_X1_isPort unit port) = 0 then 1 else (if (s_X1_isPlace unit lane) = 0 then 1 else ((s_X1_hasCable_TH F unit port)))
set_option maxHeartbeats 4000000 in
set_option maxRecDepth 100000 in
theorem k_X1_comesAs (l : Launch) (D : va_G) (cI : ClassId) (bd : Nat → Nat) (U : Nat → Int32) (T : Nat → Int32) (F : Nat → Int32) (C : Nat → Int32) (B : Nat → Int32) (CM : Int32) (TR : Int32) (RO : Nat → Int32) (WY : Nat → Int32) (SU : Nat → Int32) (TH : Int32) (ST : Nat → Int32) (QU : Nat → Int32) (QN : Int32) (FE : Nat → Int32) (unit : Int32) (port : Int32) (lane : Int32) (hF : FR F) : Ki l yX1_comesAs wsX1_comesAs 3 65 0 0 D (TI cI) [.ref (bd 0), .int unit, .int port, .int lane] (wY cI bd U T F C B CM TR RO WY SU TH ST QU QN FE) (wY cI bd U T F C B CM TR RO WY SU (s_X1_comesAs_TH F unit port lane) ST QU QN FE) (s_X1_comesAs U T F unit port lane) := by
  refine Ki.of (cc := cX1_comesAs) (maxL := 4) (rt := .int) (lv0 := [(0, .ref (bd 0)), (1, .int unit), (2, .int port), (3, .int lane)]) (by decide +kernel) rfl (Nat.le_of_ble_eq_true rfl) rfl ?_
  intro p e s m args below meth c A C0 hr hlk hK hA
  refine v_aload_n C0 (pc' := 1) 0 rfl rfl dX1_comesAs_0 rfl ?_
  refine v_iload_n C0 (pc' := 2) 1 rfl rfl dX1_comesAs_1 rfl ?_
  refine v_iload_n C0 (pc' := 3) 2 rfl rfl dX1_comesAs_2 rfl ?_
  refine v_callSi0 C0 (av := [.int unit, .int port]) (rest := [.ref (bd 0)]) (ws' := wY cI bd U T F C B CM TR RO WY SU TH ST QU QN FE) (pc' := 6) hK hA (k_X1_isPort l D cI unit port) (va_cwS 2 C0.2.2.2.2 gX1_comesAs_X1_isPort rfl rfl rfl (by decide +kernel) ⟨Nat.le_of_ble_eq_true rfl, Nat.le_of_ble_eq_true rfl⟩) PLs.nil rfl rfl (Nat.le_of_ble_eq_true rfl) ⟨Nat.zero_le _, Nat.zero_le _⟩ dX1_comesAs_3 rfl ?_
  refine v_if_eq C0 17 (pc' := 9) dX1_comesAs_6 (by decide) rfl (fun h1 => ?_) (fun h1 => ?_)
  · refine v_iconst C0 (pc' := 18) 1 (by decide) dX1_comesAs_17 rfl ?_
    refine v_goto C0 22 dX1_comesAs_18 (by decide) ?_
    refine v_put C0 hK (C := RX1) (T := TX1) (N := 15) (ws' := wY cI bd U T F C B CM TR RO WY SU 1 ST QU QN FE) (pc' := 25) 0 10 tyX1 rfl rfl rfl (by decide) (Nat.le_of_ble_eq_true rfl) tyX1_ok nmX1 in_X1_comesAs fl_X1_comesAs_43 rfl rfl rfl rfl rfl dX1_comesAs_22 rfl ?_
    refine v_aload_n C0 (pc' := 26) 0 rfl rfl dX1_comesAs_25 rfl ?_
    refine v_get C0 hK (C := RX1) (T := TX1) (N := 15) (pc' := 29) 0 10 rfl rfl rfl (by decide) in_X1_comesAs fl_X1_comesAs_43 rfl dX1_comesAs_26 rfl ?_
    refine v_if_gt C0 41 (pc' := 32) dX1_comesAs_29 (by decide) rfl (fun h2 => ?_) (fun h2 => ?_)
    · refine v_iconst C0 (pc' := 42) 0 (by decide) dX1_comesAs_41 rfl ?_
      refine v_world (ws' := wY cI bd U T F C B CM TR RO WY SU (s_X1_comesAs_TH F unit port lane) ST QU QN FE) (by simp only [s_X1_comesAs, s_X1_comesAs_TH, if_pos h1]) ?_
      exact v_iret C0 hr hlk hK (by simp only [s_X1_comesAs, s_X1_comesAs_TH, if_pos h1]) dX1_comesAs_42
    · exact absurd (by decide) h2
  · refine v_iload_n C0 (pc' := 10) 1 rfl rfl dX1_comesAs_9 rfl ?_
    refine v_iload_n C0 (pc' := 11) 3 rfl rfl dX1_comesAs_10 rfl ?_
    refine v_callSi0 C0 (av := [.int unit, .int lane]) (rest := [.ref (bd 0)]) (ws' := wY cI bd U T F C B CM TR RO WY SU TH ST QU QN FE) (pc' := 14) hK hA (k_X1_isPlace l D cI unit lane) (va_cwS 2 C0.2.2.2.2 gX1_comesAs_X1_isPlace rfl rfl rfl (by decide +kernel) ⟨Nat.le_of_ble_eq_true rfl, Nat.le_of_ble_eq_true rfl⟩) PLs.nil rfl rfl (Nat.le_of_ble_eq_true rfl) ⟨Nat.zero_le _, Nat.zero_le _⟩ dX1_comesAs_11 rfl ?_
    refine v_if_ne C0 21 (pc' := 17) dX1_comesAs_14 (by decide) rfl (fun h3 => ?_) (fun h3 => ?_)
    · refine v_iconst C0 (pc' := 22) 0 (by decide) dX1_comesAs_21 rfl ?_
      refine v_put C0 hK (C := RX1) (T := TX1) (N := 15) (ws' := wY cI bd U T F C B CM TR RO WY SU 0 ST QU QN FE) (pc' := 25) 0 10 tyX1 rfl rfl rfl (by decide) (Nat.le_of_ble_eq_true rfl) tyX1_ok nmX1 in_X1_comesAs fl_X1_comesAs_43 rfl rfl rfl rfl rfl dX1_comesAs_22 rfl ?_
      refine v_aload_n C0 (pc' := 26) 0 rfl rfl dX1_comesAs_25 rfl ?_
      refine v_get C0 hK (C := RX1) (T := TX1) (N := 15) (pc' := 29) 0 10 rfl rfl rfl (by decide) in_X1_comesAs fl_X1_comesAs_43 rfl dX1_comesAs_26 rfl ?_
      refine v_if_gt C0 41 (pc' := 32) dX1_comesAs_29 (by decide) rfl (fun h4 => ?_) (fun h4 => ?_)
      · exact absurd h4 (by decide)
      · refine v_aload_n C0 (pc' := 33) 0 rfl rfl dX1_comesAs_32 rfl ?_
        refine v_iload_n C0 (pc' := 34) 1 rfl rfl dX1_comesAs_33 rfl ?_
        refine v_iload_n C0 (pc' := 35) 2 rfl rfl dX1_comesAs_34 rfl ?_
        refine v_callVi0 C0 (av := [.int unit, .int port]) (rest := []) (ws' := wY cI bd U T F C B CM TR RO WY SU (s_X1_hasCable_TH F unit port) ST QU QN FE) (pc' := 38) hK hA (k_X1_hasCable l D cI bd U T F C B CM TR RO WY SU 0 ST QU QN FE unit port) (cwV 2 C0.2.2.2.2 gX1_comesAs_X1_hasCable rfl rfl rfl (by decide +kernel) ⟨Nat.le_of_ble_eq_true rfl, Nat.le_of_ble_eq_true rfl⟩) ⟨0, 1, _, _, _, rfl, rfl⟩ PLs.all rfl rfl (Nat.le_of_ble_eq_true rfl) ⟨Nat.zero_le _, Nat.zero_le _⟩ dX1_comesAs_35 rfl ?_
        refine v_if_ne C0 43 (pc' := 41) dX1_comesAs_38 (by decide) rfl (fun h5 => ?_) (fun h5 => ?_)
        · refine v_aload_n C0 (pc' := 44) 0 rfl rfl dX1_comesAs_43 rfl ?_
          refine v_bipush C0 (pc' := 46) 6 (by decide) dX1_comesAs_44 rfl ?_
          refine v_iload_n C0 (pc' := 47) 1 rfl rfl dX1_comesAs_46 rfl ?_
          refine v_imul C0 (pc' := 48) dX1_comesAs_47 rfl ?_
          refine v_iload_n C0 (pc' := 49) 2 rfl rfl dX1_comesAs_48 rfl ?_
          refine v_iadd C0 (pc' := 50) dX1_comesAs_49 rfl ?_
          refine v_iload_n C0 (pc' := 51) 3 rfl rfl dX1_comesAs_50 rfl ?_
          refine v_callVi0 C0 (av := [.int ((6 * unit) + port), .int lane]) (rest := []) (ws' := wY cI bd U T F C B CM TR RO WY SU (s_X1_hasCable_TH F unit port) ST QU QN FE) (pc' := 54) hK hA (k_X1_carried l D cI bd U T F C B CM TR RO WY SU (s_X1_hasCable_TH F unit port) ST QU QN FE ((6 * unit) + port) lane (isPort_in h1) hF (hasCable_end h5)) (cwV 2 C0.2.2.2.2 gX1_comesAs_X1_carried rfl rfl rfl (by decide +kernel) ⟨Nat.le_of_ble_eq_true rfl, Nat.le_of_ble_eq_true rfl⟩) ⟨0, 1, _, _, _, rfl, rfl⟩ PLs.all rfl rfl (Nat.le_of_ble_eq_true rfl) ⟨Nat.zero_le _, Nat.zero_le _⟩ dX1_comesAs_51 rfl ?_
          refine v_world (ws' := wY cI bd U T F C B CM TR RO WY SU (s_X1_comesAs_TH F unit port lane) ST QU QN FE) (by simp only [s_X1_comesAs, s_X1_comesAs_TH, if_neg h1, if_neg h3, if_neg h5]) ?_
          exact v_iret C0 hr hlk hK (by simp only [s_X1_comesAs, s_X1_comesAs_TH, if_neg h1, if_neg h3, if_neg h5]) dX1_comesAs_54
        · refine v_iconst C0 (pc' := 42) 0 (by decide) dX1_comesAs_41 rfl ?_
          refine v_world (ws' := wY cI bd U T F C B CM TR RO WY SU (s_X1_comesAs_TH F unit port lane) ST QU QN FE) (by simp only [s_X1_comesAs, s_X1_comesAs_TH, if_neg h1, if_neg h3, if_pos h5]) ?_
          exact v_iret C0 hr hlk hK (by simp only [s_X1_comesAs, s_X1_comesAs_TH, if_neg h1, if_neg h3, if_pos h5]) dX1_comesAs_42
    · refine v_iconst C0 (pc' := 18) 1 (by decide) dX1_comesAs_17 rfl ?_
      refine v_goto C0 22 dX1_comesAs_18 (by decide) ?_
      refine v_put C0 hK (C := RX1) (T := TX1) (N := 15) (ws' := wY cI bd U T F C B CM TR RO WY SU 1 ST QU QN FE) (pc' := 25) 0 10 tyX1 rfl rfl rfl (by decide) (Nat.le_of_ble_eq_true rfl) tyX1_ok nmX1 in_X1_comesAs fl_X1_comesAs_43 rfl rfl rfl rfl rfl dX1_comesAs_22 rfl ?_
      refine v_aload_n C0 (pc' := 26) 0 rfl rfl dX1_comesAs_25 rfl ?_
      refine v_get C0 hK (C := RX1) (T := TX1) (N := 15) (pc' := 29) 0 10 rfl rfl rfl (by decide) in_X1_comesAs fl_X1_comesAs_43 rfl dX1_comesAs_26 rfl ?_
      refine v_if_gt C0 41 (pc' := 32) dX1_comesAs_29 (by decide) rfl (fun h6 => ?_) (fun h6 => ?_)
      · refine v_iconst C0 (pc' := 42) 0 (by decide) dX1_comesAs_41 rfl ?_
        refine v_world (ws' := wY cI bd U T F C B CM TR RO WY SU (s_X1_comesAs_TH F unit port lane) ST QU QN FE) (by simp only [s_X1_comesAs, s_X1_comesAs_TH, if_neg h1, if_pos h3]) ?_
        exact v_iret C0 hr hlk hK (by simp only [s_X1_comesAs, s_X1_comesAs_TH, if_neg h1, if_pos h3]) dX1_comesAs_42
      · exact absurd (by decide) h6
def s_X1_oneSided (T : Nat → Int32) (F : Nat → Int32) (unit : Int32) (port : Int32) : Int32 := if (s_X1_hasCable F unit port) = 0 then 0 else s_X1_bits ((xAt 36 T ((6 * unit) + port)) ^^^ (xAt 36 T (xAt 36 F ((6 * unit) + port))))
def s_X1_oneSided_TH (F : Nat → Int32) (unit : Int32) (port : Int32) : Int32 := (s_X1_hasCable_TH F unit port)
set_option maxHeartbeats 4000000 in
set_option maxRecDepth 100000 in
theorem k_X1_oneSided (l : Launch) (D : va_G) (cI : ClassId) (bd : Nat → Nat) (U : Nat → Int32) (T : Nat → Int32) (F : Nat → Int32) (C : Nat → Int32) (B : Nat → Int32) (CM : Int32) (TR : Int32) (RO : Nat → Int32) (WY : Nat → Int32) (SU : Nat → Int32) (TH : Int32) (ST : Nat → Int32) (QU : Nat → Int32) (QN : Int32) (FE : Nat → Int32) (unit : Int32) (port : Int32) (hF : FR F) : Ki l yX1_oneSided wsX1_oneSided 3 65 0 0 D (TI cI) [.ref (bd 0), .int unit, .int port] (wY cI bd U T F C B CM TR RO WY SU TH ST QU QN FE) (wY cI bd U T F C B CM TR RO WY SU (s_X1_oneSided_TH F unit port) ST QU QN FE) (s_X1_oneSided T F unit port) := by
  refine Ki.of (cc := cX1_oneSided) (maxL := 4) (rt := .int) (lv0 := [(0, .ref (bd 0)), (1, .int unit), (2, .int port)]) (by decide +kernel) rfl (Nat.le_of_ble_eq_true rfl) rfl ?_
  intro p e s m args below meth c A C0 hr hlk hK hA
  refine v_aload_n C0 (pc' := 1) 0 rfl rfl dX1_oneSided_0 rfl ?_
  refine v_iload_n C0 (pc' := 2) 1 rfl rfl dX1_oneSided_1 rfl ?_
  refine v_iload_n C0 (pc' := 3) 2 rfl rfl dX1_oneSided_2 rfl ?_
  refine v_callVi0 C0 (av := [.int unit, .int port]) (rest := []) (ws' := wY cI bd U T F C B CM TR RO WY SU (s_X1_hasCable_TH F unit port) ST QU QN FE) (pc' := 6) hK hA (k_X1_hasCable l D cI bd U T F C B CM TR RO WY SU TH ST QU QN FE unit port) (cwV 2 C0.2.2.2.2 gX1_oneSided_X1_hasCable rfl rfl rfl (by decide +kernel) ⟨Nat.le_of_ble_eq_true rfl, Nat.le_of_ble_eq_true rfl⟩) ⟨0, 1, _, _, _, rfl, rfl⟩ PLs.all rfl rfl (Nat.le_of_ble_eq_true rfl) ⟨Nat.zero_le _, Nat.zero_le _⟩ dX1_oneSided_3 rfl ?_
  refine v_if_ne C0 11 (pc' := 9) dX1_oneSided_6 (by decide) rfl (fun h1 => ?_) (fun h1 => ?_)
  · refine v_bipush C0 (pc' := 13) 6 (by decide) dX1_oneSided_11 rfl ?_
    refine v_iload_n C0 (pc' := 14) 1 rfl rfl dX1_oneSided_13 rfl ?_
    refine v_imul C0 (pc' := 15) dX1_oneSided_14 rfl ?_
    refine v_iload_n C0 (pc' := 16) 2 rfl rfl dX1_oneSided_15 rfl ?_
    refine v_iadd C0 (pc' := 17) dX1_oneSided_16 rfl ?_
    refine v_istore_n C0 (lv' := [(3, .int ((6 * unit) + port)), (0, .ref (bd 0)), (1, .int unit), (2, .int port)]) (pc' := 18) rfl (by decide) rfl dX1_oneSided_17 rfl ?_
    refine v_aload_n C0 (pc' := 19) 1 rfl rfl dX1_oneSided_18 rfl ?_
    refine v_get C0 hK (C := RX1) (T := TX1) (N := 15) (pc' := 22) 0 1 rfl rfl rfl (by decide) in_X1_oneSided fl_X1_oneSided_13 rfl dX1_oneSided_19 rfl ?_
    refine v_iload_n C0 (pc' := 23) 0 rfl rfl dX1_oneSided_22 rfl ?_
    refine v_ialx C0 hK (pc' := 24) 2 0 rfl rfl (hasCable_in h1) (by decide) dX1_oneSided_23 rfl ?_
    refine v_aload_n C0 (pc' := 25) 1 rfl rfl dX1_oneSided_24 rfl ?_
    refine v_get C0 hK (C := RX1) (T := TX1) (N := 15) (pc' := 28) 0 1 rfl rfl rfl (by decide) in_X1_oneSided fl_X1_oneSided_13 rfl dX1_oneSided_25 rfl ?_
    refine v_aload_n C0 (pc' := 29) 1 rfl rfl dX1_oneSided_28 rfl ?_
    refine v_get C0 hK (C := RX1) (T := TX1) (N := 15) (pc' := 32) 0 2 rfl rfl rfl (by decide) in_X1_oneSided fl_X1_oneSided_16 rfl dX1_oneSided_29 rfl ?_
    refine v_iload_n C0 (pc' := 33) 0 rfl rfl dX1_oneSided_32 rfl ?_
    refine v_ialx C0 hK (pc' := 34) 3 0 rfl rfl (hasCable_in h1) (by decide) dX1_oneSided_33 rfl ?_
    refine v_ialx C0 hK (pc' := 35) 2 0 rfl rfl (FR_in hF (hasCable_in h1) (hasCable_end h1)) (by decide) dX1_oneSided_34 rfl ?_
    refine v_ixor C0 (pc' := 36) dX1_oneSided_35 rfl ?_
    refine v_callSi0 C0 (av := [.int ((xAt 36 T ((6 * unit) + port)) ^^^ (xAt 36 T (xAt 36 F ((6 * unit) + port))))]) (rest := []) (ws' := wY cI bd U T F C B CM TR RO WY SU (s_X1_hasCable_TH F unit port) ST QU QN FE) (pc' := 39) hK hA (k_X1_bits l D cI ((xAt 36 T ((6 * unit) + port)) ^^^ (xAt 36 T (xAt 36 F ((6 * unit) + port))))) (va_cwS 1 C0.2.2.2.2 gX1_oneSided_X1_bits rfl rfl rfl (by decide +kernel) ⟨Nat.le_of_ble_eq_true rfl, Nat.le_of_ble_eq_true rfl⟩) PLs.nil rfl rfl (Nat.le_of_ble_eq_true rfl) ⟨Nat.zero_le _, Nat.zero_le _⟩ dX1_oneSided_36 rfl ?_
    refine v_world (ws' := wY cI bd U T F C B CM TR RO WY SU (s_X1_oneSided_TH F unit port) ST QU QN FE) (by simp only [s_X1_oneSided, s_X1_oneSided_TH, if_neg h1]) ?_
    exact v_iret C0 hr hlk hK (by simp only [s_X1_oneSided, s_X1_oneSided_TH, if_neg h1]) dX1_oneSided_39
  · refine v_iconst C0 (pc' := 10) 0 (by decide) dX1_oneSided_9 rfl ?_
    refine v_world (ws' := wY cI bd U T F C B CM TR RO WY SU (s_X1_oneSided_TH F unit port) ST QU QN FE) (by simp only [s_X1_oneSided, s_X1_oneSided_TH, if_pos h1]) ?_
    exact v_iret C0 hr hlk hK (by simp only [s_X1_oneSided, s_X1_oneSided_TH, if_pos h1]) dX1_oneSided_10
def s_X1_wrong_L1 (F : Nat → Int32) (B : Nat → Int32) (i1 : Nat) (n_L1 : Int32) : Int32 := if (xAt 36 B (nI i1)) = (-1) then (n_L1 + 0) else (if (xAt 36 B (nI i1)) = (xAt 36 F (nI i1)) then (n_L1 + 0) else (n_L1 + 1))
def s_X1_wrong (F : Nat → Int32) (B : Nat → Int32) : Int32 := (lp (s_X1_wrong_L1 F B) 36 0)
def s_X1_wrong_TH  : Int32 := 0
set_option maxHeartbeats 4000000 in
set_option maxRecDepth 100000 in
theorem k_X1_wrong (l : Launch) (D : va_G) (cI : ClassId) (bd : Nat → Nat) (U : Nat → Int32) (T : Nat → Int32) (F : Nat → Int32) (C : Nat → Int32) (B : Nat → Int32) (CM : Int32) (TR : Int32) (RO : Nat → Int32) (WY : Nat → Int32) (SU : Nat → Int32) (TH : Int32) (ST : Nat → Int32) (QU : Nat → Int32) (QN : Int32) (FE : Nat → Int32)  : Ki l yX1_wrong wsX1_wrong 0 0 0 0 D (TI cI) [.ref (bd 0)] (wY cI bd U T F C B CM TR RO WY SU TH ST QU QN FE) (wY cI bd U T F C B CM TR RO WY SU (s_X1_wrong_TH ) ST QU QN FE) (s_X1_wrong F B) := by
  refine Ki.of (cc := cX1_wrong) (maxL := 3) (rt := .int) (lv0 := [(0, .ref (bd 0))]) (by decide +kernel) rfl (Nat.le_of_ble_eq_true rfl) rfl ?_
  intro p e s m args below meth c A C0 hr hlk hK hA
  refine v_aload_n C0 (pc' := 1) 0 rfl rfl dX1_wrong_0 rfl ?_
  refine v_iconst C0 (pc' := 2) 0 (by decide) dX1_wrong_1 rfl ?_
  refine v_put C0 hK (C := RX1) (T := TX1) (N := 15) (ws' := wY cI bd U T F C B CM TR RO WY SU 0 ST QU QN FE) (pc' := 5) 0 10 tyX1 rfl rfl rfl (by decide) (Nat.le_of_ble_eq_true rfl) tyX1_ok nmX1 in_X1_wrong fl_X1_wrong_43 rfl rfl rfl rfl rfl dX1_wrong_2 rfl ?_
  refine v_iconst C0 (pc' := 6) 0 (by decide) dX1_wrong_5 rfl ?_
  refine v_istore_n C0 (lv' := [(1, .int 0), (0, .ref (bd 0))]) (pc' := 7) rfl (by decide) rfl dX1_wrong_6 rfl ?_
  refine v_iconst C0 (pc' := 8) 0 (by decide) dX1_wrong_7 rfl ?_
  refine v_istore_n C0 (lv' := [(2, .int 0), (1, .int 0), (0, .ref (bd 0))]) (pc' := 9) rfl (by decide) rfl dX1_wrong_8 rfl ?_
  suffices LP1 : ∀ (j1 i1 : Nat) (x1 : Int32) (n_L1 : Int32), i1 + j1 = 36 → x1 = nI i1 → n_L1 = lp (s_X1_wrong_L1 F B) i1 0 → V p l e { frames := 0, cells := 0, slots := 0, locals := 0 } s m args below meth c D A 3 0 0 (MQ below (QI D (TI cI) (wY cI bd U T F C B CM TR RO WY SU (s_X1_wrong_TH ) ST QU QN FE) A (s_X1_wrong F B)) args s 0 0 A) (wY cI bd U T F C B CM TR RO WY SU 0 ST QU QN FE) [(2, .int x1), (1, .int n_L1), (0, .ref (bd 0))] 9 [] by
    exact v_sub (lv' := [(2, .int 0), (1, .int 0), (0, .ref (bd 0))]) [0, 1, 2] rfl (LP1 36 0 0 0 (Nat.zero_add _) nI_0.symm (lp_zero _ _).symm)
  intro j1
  induction j1 with
  | zero =>
    intro i1 x1 n_L1 hi1 hx1 hs_L1
    have hi1 : 36 = i1 := by omega
    subst hi1
    subst hx1
    refine v_iload_n C0 (pc' := 10) 0 rfl rfl dX1_wrong_9 rfl ?_
    refine v_bipush C0 (pc' := 12) 36 (by decide) dX1_wrong_10 rfl ?_
    refine v_icmp_ge C0 54 (pc' := 15) dX1_wrong_12 (by decide) rfl (fun h1 => ?_) (fun h1 => ?_)
    · refine v_iload_n C0 (pc' := 55) 1 rfl rfl dX1_wrong_54 rfl ?_
      refine v_world (ws' := wY cI bd U T F C B CM TR RO WY SU (s_X1_wrong_TH ) ST QU QN FE) (by simp only [s_X1_wrong, s_X1_wrong_TH, if_pos h1, ← hs_L1]) ?_
      exact v_iret C0 hr hlk hK (by simp only [s_X1_wrong, s_X1_wrong_TH, if_pos h1, ← hs_L1]) dX1_wrong_55
    · exact absurd (by decide +kernel) h1
  | succ j1 ih1 =>
    intro i1 x1 n_L1 hi1 hx1 hs_L1
    subst hx1
    refine v_iload_n C0 (pc' := 10) 0 rfl rfl dX1_wrong_9 rfl ?_
    refine v_bipush C0 (pc' := 12) 36 (by decide) dX1_wrong_10 rfl ?_
    refine v_icmp_ge C0 54 (pc' := 15) dX1_wrong_12 (by decide) rfl (fun h2 => ?_) (fun h2 => ?_)
    · exact absurd h2 (nI_ge (a := i1) (b := 36) (by omega) (by decide))
    · refine v_iload_n C0 (pc' := 16) 1 rfl rfl dX1_wrong_15 rfl ?_
      refine v_aload_n C0 (pc' := 17) 2 rfl rfl dX1_wrong_16 rfl ?_
      refine v_get C0 hK (C := RX1) (T := TX1) (N := 15) (pc' := 20) 0 4 rfl rfl rfl (by decide) in_X1_wrong fl_X1_wrong_22 rfl dX1_wrong_17 rfl ?_
      refine v_iload_n C0 (pc' := 21) 0 rfl rfl dX1_wrong_20 rfl ?_
      refine v_ialx C0 hK (pc' := 22) 5 0 rfl rfl (vp_in_nI (by omega) (by decide)) (by decide) dX1_wrong_21 rfl ?_
      refine v_iconst C0 (pc' := 23) (-1) (by decide) dX1_wrong_22 rfl ?_
      refine v_icmp_eq C0 45 (pc' := 26) dX1_wrong_23 (by decide) rfl (fun h3 => ?_) (fun h3 => ?_)
      · refine v_iconst C0 (pc' := 46) 0 (by decide) dX1_wrong_45 rfl ?_
        refine v_iadd C0 (pc' := 47) dX1_wrong_46 rfl ?_
        refine v_istore_n C0 (lv' := [(1, .int (n_L1 + 0)), (2, .int (nI i1)), (0, .ref (bd 0))]) (pc' := 48) rfl (by decide) rfl dX1_wrong_47 rfl ?_
        refine v_iinc C0 (lv' := [(2, .int ((nI i1) + 1)), (1, .int (n_L1 + 0)), (0, .ref (bd 0))]) (pc' := 51) 1 rfl ((nI i1) + 1) rfl (by decide) rfl dX1_wrong_48 rfl ?_
        refine v_goto C0 9 dX1_wrong_51 (by decide) ?_
        exact v_sub (lv' := [(2, .int ((nI i1) + 1)), (1, .int (n_L1 + 0)), (0, .ref (bd 0))]) [0, 1, 2] rfl (ih1 (i1 + 1) ((nI i1) + 1) (n_L1 + 0) (by omega) (by rw [nI_1]) (by rw [lp_succ, ← hs_L1]; simp only [s_X1_wrong_L1, if_neg h2, if_pos h3]))
      · refine v_aload_n C0 (pc' := 27) 2 rfl rfl dX1_wrong_26 rfl ?_
        refine v_get C0 hK (C := RX1) (T := TX1) (N := 15) (pc' := 30) 0 4 rfl rfl rfl (by decide) in_X1_wrong fl_X1_wrong_22 rfl dX1_wrong_27 rfl ?_
        refine v_iload_n C0 (pc' := 31) 0 rfl rfl dX1_wrong_30 rfl ?_
        refine v_ialx C0 hK (pc' := 32) 5 0 rfl rfl (vp_in_nI (by omega) (by decide)) (by decide) dX1_wrong_31 rfl ?_
        refine v_aload_n C0 (pc' := 33) 2 rfl rfl dX1_wrong_32 rfl ?_
        refine v_get C0 hK (C := RX1) (T := TX1) (N := 15) (pc' := 36) 0 2 rfl rfl rfl (by decide) in_X1_wrong fl_X1_wrong_16 rfl dX1_wrong_33 rfl ?_
        refine v_iload_n C0 (pc' := 37) 0 rfl rfl dX1_wrong_36 rfl ?_
        refine v_ialx C0 hK (pc' := 38) 3 0 rfl rfl (vp_in_nI (by omega) (by decide)) (by decide) dX1_wrong_37 rfl ?_
        refine v_icmp_eq C0 45 (pc' := 41) dX1_wrong_38 (by decide) rfl (fun h4 => ?_) (fun h4 => ?_)
        · refine v_iconst C0 (pc' := 46) 0 (by decide) dX1_wrong_45 rfl ?_
          refine v_iadd C0 (pc' := 47) dX1_wrong_46 rfl ?_
          refine v_istore_n C0 (lv' := [(1, .int (n_L1 + 0)), (2, .int (nI i1)), (0, .ref (bd 0))]) (pc' := 48) rfl (by decide) rfl dX1_wrong_47 rfl ?_
          refine v_iinc C0 (lv' := [(2, .int ((nI i1) + 1)), (1, .int (n_L1 + 0)), (0, .ref (bd 0))]) (pc' := 51) 1 rfl ((nI i1) + 1) rfl (by decide) rfl dX1_wrong_48 rfl ?_
          refine v_goto C0 9 dX1_wrong_51 (by decide) ?_
          exact v_sub (lv' := [(2, .int ((nI i1) + 1)), (1, .int (n_L1 + 0)), (0, .ref (bd 0))]) [0, 1, 2] rfl (ih1 (i1 + 1) ((nI i1) + 1) (n_L1 + 0) (by omega) (by rw [nI_1]) (by rw [lp_succ, ← hs_L1]; simp only [s_X1_wrong_L1, if_neg h2, if_neg h3, if_pos h4]))
        · refine v_iconst C0 (pc' := 42) 1 (by decide) dX1_wrong_41 rfl ?_
          refine v_goto C0 46 dX1_wrong_42 (by decide) ?_
          refine v_iadd C0 (pc' := 47) dX1_wrong_46 rfl ?_
          refine v_istore_n C0 (lv' := [(1, .int (n_L1 + 1)), (2, .int (nI i1)), (0, .ref (bd 0))]) (pc' := 48) rfl (by decide) rfl dX1_wrong_47 rfl ?_
          refine v_iinc C0 (lv' := [(2, .int ((nI i1) + 1)), (1, .int (n_L1 + 1)), (0, .ref (bd 0))]) (pc' := 51) 1 rfl ((nI i1) + 1) rfl (by decide) rfl dX1_wrong_48 rfl ?_
          refine v_goto C0 9 dX1_wrong_51 (by decide) ?_
          exact v_sub (lv' := [(2, .int ((nI i1) + 1)), (1, .int (n_L1 + 1)), (0, .ref (bd 0))]) [0, 1, 2] rfl (ih1 (i1 + 1) ((nI i1) + 1) (n_L1 + 1) (by omega) (by rw [nI_1]) (by rw [lp_succ, ← hs_L1]; simp only [s_X1_wrong_L1, if_neg h2, if_neg h3, if_neg h4]))
