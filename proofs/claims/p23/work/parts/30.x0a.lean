set_option maxHeartbeats 4000000 in
set_option maxRecDepth 100000 in
theorem k_X0_at (l : Launch) (D : va_G) (cI : ClassId) (a : Nat) (n : Nat) (f : Nat → Int32) (i : Int32) (hn : n < 2 ^ 31) : Ki l yX0_at wsX0_at 0 0 0 0 D (TI cI) [.ref a, .int i] ([(a, .inl (cI, n, .inl f))]) ([(a, .inl (cI, n, .inl f))]) (xAt n f i) := by
  refine Ki.of (cc := cX0_at) (maxL := 2) (rt := .int) (lv0 := [(0, .ref a), (1, .int i)]) (by decide +kernel) rfl (Nat.le_of_ble_eq_true rfl) rfl ?_
  intro p e s m args below meth c A C0 hr hlk hK hA
  refine v_iload_n C0 (pc' := 1) 1 rfl rfl dX0_at_0 rfl ?_
  refine v_if_lt C0 16 (pc' := 4) dX0_at_1 (by decide) rfl (fun h1 => ?_) (fun h1 => ?_)
  · refine v_iconst C0 (pc' := 17) (-1) (by decide) dX0_at_16 rfl ?_
    exact v_iret C0 hr hlk hK (by simp only [xAt, if_pos h1]) dX0_at_17
  · refine v_iload_n C0 (pc' := 5) 1 rfl rfl dX0_at_4 rfl ?_
    refine v_aload_n C0 (pc' := 6) 0 rfl rfl dX0_at_5 rfl ?_
    refine v_alen C0 hK (pc' := 7) 0 0 rfl rfl dX0_at_6 rfl ?_
    refine v_icmp_ge C0 16 (pc' := 10) dX0_at_7 (by decide) rfl (fun h2 => ?_) (fun h2 => ?_)
    · refine v_iconst C0 (pc' := 17) (-1) (by decide) dX0_at_16 rfl ?_
      exact v_iret C0 hr hlk hK (by simp only [xAt, if_neg h1, if_pos h2]) dX0_at_17
    · refine v_aload_n C0 (pc' := 11) 0 rfl rfl dX0_at_10 rfl ?_
      refine v_iload_n C0 (pc' := 12) 1 rfl rfl dX0_at_11 rfl ?_
      refine v_iald C0 hK (pc' := 13) 0 0 rfl rfl (vp_in_ofNat hn h1 h2) dX0_at_12 rfl ?_
      refine v_goto C0 17 dX0_at_13 (by decide) ?_
      exact v_iret C0 hr hlk hK (by simp only [xAt, if_neg h1, if_neg h2]) dX0_at_17
set_option maxHeartbeats 4000000 in
set_option maxRecDepth 100000 in
theorem k_X0_put (l : Launch) (D : va_G) (cI : ClassId) (a : Nat) (n : Nat) (f : Nat → Int32) (i : Int32) (x : Int32) (hn : n < 2 ^ 31) : Kv l yX0_put wsX0_put 0 0 0 0 D (TI cI) [.ref a, .int i, .int x] ([(a, .inl (cI, n, .inl f))]) ([(a, .inl (cI, n, .inl (xPut n f i x)))]) := by
  refine Kv.of (cc := cX0_put) (maxL := 3) (lv0 := [(0, .ref a), (1, .int i), (2, .int x)]) (by decide +kernel) rfl (Nat.le_of_ble_eq_true rfl) rfl ?_
  intro p e s m args below meth c A C0 hr hlk hK hA
  refine v_iload_n C0 (pc' := 1) 1 rfl rfl dX0_put_0 rfl ?_
  refine v_if_lt C0 14 (pc' := 4) dX0_put_1 (by decide) rfl (fun h1 => ?_) (fun h1 => ?_)
  · refine v_world (ws' := [(a, .inl (cI, n, .inl (xPut n f i x)))]) (by simp only [xPut, if_pos h1]) ?_
    exact v_vret C0 hr hlk hK dX0_put_14
  · refine v_iload_n C0 (pc' := 5) 1 rfl rfl dX0_put_4 rfl ?_
    refine v_aload_n C0 (pc' := 6) 0 rfl rfl dX0_put_5 rfl ?_
    refine v_alen C0 hK (pc' := 7) 0 0 rfl rfl dX0_put_6 rfl ?_
    refine v_icmp_ge C0 14 (pc' := 10) dX0_put_7 (by decide) rfl (fun h2 => ?_) (fun h2 => ?_)
    · refine v_world (ws' := [(a, .inl (cI, n, .inl (xPut n f i x)))]) (by simp only [xPut, if_neg h1, if_pos h2]) ?_
      exact v_vret C0 hr hlk hK dX0_put_14
    · refine v_aload_n C0 (pc' := 11) 0 rfl rfl dX0_put_10 rfl ?_
      refine v_iload_n C0 (pc' := 12) 1 rfl rfl dX0_put_11 rfl ?_
      refine v_iload_n C0 (pc' := 13) 2 rfl rfl dX0_put_12 rfl ?_
      refine v_iast C0 hK (ws' := [(a, .inl (cI, n, .inl (upd f i.toNatClampNeg x)))]) (pc' := 14) 0 0 rfl rfl rfl (vp_in_ofNat hn h1 h2) dX0_put_13 rfl ?_
      refine v_world (ws' := [(a, .inl (cI, n, .inl (xPut n f i x)))]) (by simp only [xPut, if_neg h1, if_neg h2]) ?_
      exact v_vret C0 hr hlk hK dX0_put_14
set_option maxHeartbeats 4000000 in
set_option maxRecDepth 100000 in
theorem k_J7_fill_53178 (l : Launch) (D : va_G) (cI : ClassId) (a : Nat) (n : Nat) (f : Nat → Int32) (x : Int32) (hn : n < 2 ^ 31) : Kv l yJ7_fill_53178 wsJ7_fill_53178 0 0 0 0 D (TI cI) [.ref a, .int x] ([(a, .inl (cI, n, .inl f))]) ([(a, .inl (cI, n, .inl (xFill f x n)))]) := by
  refine Kv.of (cc := cJ7_fill_53178) (maxL := 4) (lv0 := [(0, .ref a), (1, .int x)]) (by decide +kernel) rfl (Nat.le_of_ble_eq_true rfl) rfl ?_
  intro p e s m args below meth c A C0 hr hlk hK hA
  refine v_iconst C0 (pc' := 1) 0 (by decide) dJ7_fill_53178_0 rfl ?_
  refine v_istore_n C0 (lv' := [(2, .int 0), (0, .ref a), (1, .int x)]) (pc' := 2) rfl (by decide) rfl dJ7_fill_53178_1 rfl ?_
  refine v_aload_n C0 (pc' := 3) 1 rfl rfl dJ7_fill_53178_2 rfl ?_
  refine v_alen C0 hK (pc' := 4) 0 0 rfl rfl dJ7_fill_53178_3 rfl ?_
  refine v_istore_n C0 (lv' := [(3, .int (Int32.ofNat n)), (2, .int 0), (0, .ref a), (1, .int x)]) (pc' := 5) rfl (by decide) rfl dJ7_fill_53178_4 rfl ?_
  suffices LP : ∀ (j i : Nat), i + j = n → V p l e { frames := 0, cells := 0, slots := 0, locals := 0 } s m args below meth c D A 4 0 0 (MQ below (QV D (TI cI) [(a, .inl (cI, n, .inl (xFill f x n)))] A) args s 0 0 A) [(a, .inl (cI, n, .inl (xFill f x i)))] [(3, .int (Int32.ofNat n)), (2, .int (nI i)), (0, .ref a), (1, .int x)] 5 [] by
    have h := LP n 0 (Nat.zero_add n)
    rw [xFill_0] at h
    exact h
  intro j
  induction j with
  | zero =>
    intro i hi
    have hi : i = n := by omega
    subst hi
    refine v_iload_n C0 (pc' := 6) 1 rfl rfl dJ7_fill_53178_5 rfl ?_
    refine v_iload_n C0 (pc' := 7) 0 rfl rfl dJ7_fill_53178_6 rfl ?_
    refine v_icmp_ge C0 20 (pc' := 10) dJ7_fill_53178_7 (by decide) rfl (fun h1 => ?_) (fun h1 => ?_)
    · exact v_vret C0 hr hlk hK dJ7_fill_53178_20
    · exact absurd (Int32.le_refl _) h1
  | succ j ih =>
    intro i hi
    refine v_iload_n C0 (pc' := 6) 1 rfl rfl dJ7_fill_53178_5 rfl ?_
    refine v_iload_n C0 (pc' := 7) 0 rfl rfl dJ7_fill_53178_6 rfl ?_
    refine v_icmp_ge C0 20 (pc' := 10) dJ7_fill_53178_7 (by decide) rfl (fun h1 => ?_) (fun h1 => ?_)
    · exact absurd h1 (nI_ge (by omega) hn)
    · refine v_aload_n C0 (pc' := 11) 2 rfl rfl dJ7_fill_53178_10 rfl ?_
      refine v_iload_n C0 (pc' := 12) 1 rfl rfl dJ7_fill_53178_11 rfl ?_
      refine v_iload_n C0 (pc' := 13) 3 rfl rfl dJ7_fill_53178_12 rfl ?_
      refine v_iast C0 hK (ws' := [(a, .inl (cI, n, .inl (upd (xFill f x i) (nI i).toNatClampNeg x)))]) (pc' := 14) 0 0 rfl rfl rfl (vp_in_nI (show i < n by omega) hn) dJ7_fill_53178_13 rfl ?_
      refine v_iinc C0 (lv' := [(2, .int ((nI i) + 1)), (3, .int (Int32.ofNat n)), (0, .ref a), (1, .int x)]) (pc' := 17) 1 rfl ((nI i) + 1) rfl (by decide) rfl dJ7_fill_53178_14 rfl ?_
      refine v_goto C0 5 dJ7_fill_53178_17 (by decide) ?_
      have ha := ih (i + 1) (by omega)
      rw [← xFill_s, ← nI_1] at ha
      refine v_world (ws' := [(a, .inl (cI, n, .inl (upd (xFill f x i) i x)))]) (by rw [nI_clamp (show i < 2 ^ 31 by omega)]) ?_
      exact v_sub [1, 0, 2, 3] rfl ha
