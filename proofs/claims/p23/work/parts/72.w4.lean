/-! used places, islands, loops, changes -/
def s_L_used_L1 (xu : Nat → Nat) (xt : Nat → Nat) (unit : Nat) (i_L1 : Nat) (set_L1 : Nat) : Nat := if (xu (i_L1 + (6 * unit))) = 0 then (set_L1 ||| ((xt (i_L1 + (6 * unit))) ||| 0)) else (set_L1 ||| ((xt (i_L1 + (6 * unit))) ||| (2 ^ (xu (i_L1 + (6 * unit))))))
def s_L_used (xu : Nat → Nat) (xt : Nat → Nat) (unit : Nat) : Nat := (lp (s_L_used_L1 xu xt unit) 6 0)
set_option maxHeartbeats 4000000 in
set_option maxRecDepth 100000 in
theorem k_L_used (l : Launch) (D : va_G) (cI : ClassId) (ua ta : Nat) (xu xt : Nat → Nat) (unit : Nat) (hu : ∀ k, xu k ≤ 15) (ht : ∀ k, xt k < 65536) (hUn : unit < 6) : Ki l yL_used wsL_used 0 0 0 0 D (TI cI) [.ref ua, .ref ta, .int (nI unit)] ([(ua, .inl (cI, 36, .inl (nA xu))), (ta, .inl (cI, 36, .inl (nA xt)))]) ([(ua, .inl (cI, 36, .inl (nA xu))), (ta, .inl (cI, 36, .inl (nA xt)))]) (nI (s_L_used xu xt unit)) := by
  refine Ki.of (cc := cL_used) (maxL := 5) (rt := .int) (lv0 := [(0, .ref ua), (1, .ref ta), (2, .int (nI unit))]) (by decide +kernel) rfl (Nat.le_of_ble_eq_true rfl) rfl ?_
  intro p e s m args below meth c A C0 hr hlk hK hA
  refine v_iconst C0 (pc' := 1) (nI 0) (by decide +kernel) dL_used_0 rfl ?_
  refine v_istore_n C0 (lv' := [(3, .int (nI 0)), (0, .ref ua), (1, .ref ta), (2, .int (nI unit))]) (pc' := 2) rfl (by decide) rfl dL_used_1 rfl ?_
  refine v_bipush C0 (pc' := 4) (nI 6) (by decide +kernel) dL_used_2 rfl ?_
  refine v_iload_n C0 (pc' := 5) 3 rfl rfl dL_used_4 rfl ?_
  refine v_imulN C0 (pc' := 6) dL_used_5 rfl ?_
  refine v_istore C0 (lv' := [(4, .int (nI (6 * unit))), (3, .int (nI 0)), (0, .ref ua), (1, .ref ta), (2, .int (nI unit))]) (pc' := 8) (by decide) rfl dL_used_6 rfl ?_
  suffices LP_L1 : ∀ (j_L1 i_L1 : Nat) (set_L1 : Nat), i_L1 + j_L1 = 6 → set_L1 = lp (s_L_used_L1 xu xt unit) i_L1 0 → V p l e { frames := 0, cells := 0, slots := 0, locals := 0 } s m args below meth c D A 5 0 0 (MQ below (QI D (TI cI) ([(ua, .inl (cI, 36, .inl (nA xu))), (ta, .inl (cI, 36, .inl (nA xt)))]) A (nI (s_L_used xu xt unit))) args s 0 0 A) ([(ua, .inl (cI, 36, .inl (nA xu))), (ta, .inl (cI, 36, .inl (nA xt)))]) [(4, .int (nI (i_L1 + (6 * unit)))), (3, .int (nI set_L1)), (0, .ref ua), (1, .ref ta), (2, .int (nI unit))] 8 [] by
    have h0_L1 := LP_L1 6 0 0 (Nat.zero_add _) (lp_zero _ _).symm
    rw [Nat.zero_add] at h0_L1
    exact v_sub (lv' := [(4, .int (nI (6 * unit))), (3, .int (nI 0)), (0, .ref ua), (1, .ref ta), (2, .int (nI unit))]) [0, 1, 2, 3, 4] rfl h0_L1
  intro j_L1
  induction j_L1 with
  | zero =>
    intro i_L1 set_L1 hi_L1 hs_L1
    have hi_L1 : 6 = i_L1 := by omega
    subst hi_L1
    refine v_iload C0 (pc' := 10) 0 rfl dL_used_8 rfl ?_
    refine v_bipush C0 (pc' := 12) (nI 6) (by decide +kernel) dL_used_10 rfl ?_
    refine v_iload_n C0 (pc' := 13) 4 rfl rfl dL_used_12 rfl ?_
    refine v_imulN C0 (pc' := 14) dL_used_13 rfl ?_
    refine v_bipush C0 (pc' := 16) (nI 6) (by decide +kernel) dL_used_14 rfl ?_
    refine v_iaddN C0 (pc' := 17) dL_used_16 rfl ?_
    refine v_icmp_geN C0 51 (pc' := 20) (by omega) (by omega) dL_used_17 (by decide) rfl (fun h1 => ?_) (fun h1 => ?_)
    · refine v_iload_n C0 (pc' := 52) 1 rfl rfl dL_used_51 rfl ?_
      exact v_iret C0 hr hlk hK (by simp only [s_L_used, if_pos h1, ← hs_L1]) dL_used_52
    · exact absurd (by omega) h1
  | succ j_L1 ih_L1 =>
    intro i_L1 set_L1 hi_L1 hs_L1
    refine v_iload C0 (pc' := 10) 0 rfl dL_used_8 rfl ?_
    refine v_bipush C0 (pc' := 12) (nI 6) (by decide +kernel) dL_used_10 rfl ?_
    refine v_iload_n C0 (pc' := 13) 4 rfl rfl dL_used_12 rfl ?_
    refine v_imulN C0 (pc' := 14) dL_used_13 rfl ?_
    refine v_bipush C0 (pc' := 16) (nI 6) (by decide +kernel) dL_used_14 rfl ?_
    refine v_iaddN C0 (pc' := 17) dL_used_16 rfl ?_
    refine v_icmp_geN C0 51 (pc' := 20) (by omega) (by omega) dL_used_17 (by decide) rfl (fun h2 => ?_) (fun h2 => ?_)
    · exact absurd h2 (by omega)
    · refine v_iload_n C0 (pc' := 21) 1 rfl rfl dL_used_20 rfl ?_
      refine v_aload_n C0 (pc' := 22) 3 rfl rfl dL_used_21 rfl ?_
      refine v_iload C0 (pc' := 24) 0 rfl dL_used_22 rfl ?_
      refine v_ialdN C0 hK (pc' := 25) 1 0 rfl rfl (by omega) (by decide) dL_used_24 rfl ?_
      refine v_aload_n C0 (pc' := 26) 2 rfl rfl dL_used_25 rfl ?_
      refine v_iload C0 (pc' := 28) 0 rfl dL_used_26 rfl ?_
      refine v_ialdN C0 hK (pc' := 29) 0 0 rfl rfl (by omega) (by decide) dL_used_28 rfl ?_
      refine v_if_leN C0 41 (pc' := 32) (by have := hu (i_L1 + (6 * unit)); omega) dL_used_29 (by decide) rfl (fun h3 => ?_) (fun h3 => ?_)
      · refine v_iconst C0 (pc' := 42) (nI 0) (by decide +kernel) dL_used_41 rfl ?_
        refine v_iorN C0 (pc' := 43) dL_used_42 rfl ?_
        refine v_iorN C0 (pc' := 44) dL_used_43 rfl ?_
        refine v_istore_n C0 (lv' := [(3, .int (nI (set_L1 ||| ((xt (i_L1 + (6 * unit))) ||| 0)))), (4, .int (nI (i_L1 + (6 * unit)))), (0, .ref ua), (1, .ref ta), (2, .int (nI unit))]) (pc' := 45) rfl (by decide) rfl dL_used_44 rfl ?_
        refine v_iincN C0 (lv' := [(4, .int (nI ((i_L1 + (6 * unit)) + 1))), (3, .int (nI (set_L1 ||| ((xt (i_L1 + (6 * unit))) ||| 0)))), (0, .ref ua), (1, .ref ta), (2, .int (nI unit))]) (y := 1) (pc' := 48) 1 rfl (by decide) rfl dL_used_45 rfl ?_
        refine v_goto C0 8 dL_used_48 (by decide) ?_
        have hb := ih_L1 (i_L1 + 1) (set_L1 ||| ((xt (i_L1 + (6 * unit))) ||| 0)) (by omega) (by rw [lp_succ, ← hs_L1]; simp only [s_L_used_L1, if_neg h2, if_pos h3])
        rw [show i_L1 + 1 + (6 * unit) = i_L1 + (6 * unit) + 1 by omega] at hb
        exact v_sub (lv' := [(4, .int (nI ((i_L1 + (6 * unit)) + 1))), (3, .int (nI (set_L1 ||| ((xt (i_L1 + (6 * unit))) ||| 0)))), (0, .ref ua), (1, .ref ta), (2, .int (nI unit))]) [0, 1, 2, 3, 4] rfl hb
      · refine v_iconst C0 (pc' := 33) (nI 1) (by decide +kernel) dL_used_32 rfl ?_
        refine v_aload_n C0 (pc' := 34) 2 rfl rfl dL_used_33 rfl ?_
        refine v_iload C0 (pc' := 36) 0 rfl dL_used_34 rfl ?_
        refine v_ialdN C0 hK (pc' := 37) 0 0 rfl rfl (by omega) (by decide) dL_used_36 rfl ?_
        refine v_ishlN C0 (pc' := 38) (by have := hu (i_L1 + (6 * unit)); omega) dL_used_37 rfl ?_
        refine v_goto C0 42 dL_used_38 (by decide) ?_
        refine v_iorN C0 (pc' := 43) dL_used_42 rfl ?_
        refine v_iorN C0 (pc' := 44) dL_used_43 rfl ?_
        refine v_istore_n C0 (lv' := [(3, .int (nI (set_L1 ||| ((xt (i_L1 + (6 * unit))) ||| (2 ^ (xu (i_L1 + (6 * unit)))))))), (4, .int (nI (i_L1 + (6 * unit)))), (0, .ref ua), (1, .ref ta), (2, .int (nI unit))]) (pc' := 45) rfl (by decide) rfl dL_used_44 rfl ?_
        refine v_iincN C0 (lv' := [(4, .int (nI ((i_L1 + (6 * unit)) + 1))), (3, .int (nI (set_L1 ||| ((xt (i_L1 + (6 * unit))) ||| (2 ^ (xu (i_L1 + (6 * unit)))))))), (0, .ref ua), (1, .ref ta), (2, .int (nI unit))]) (y := 1) (pc' := 48) 1 rfl (by decide) rfl dL_used_45 rfl ?_
        refine v_goto C0 8 dL_used_48 (by decide) ?_
        have hb := ih_L1 (i_L1 + 1) (set_L1 ||| ((xt (i_L1 + (6 * unit))) ||| (2 ^ (xu (i_L1 + (6 * unit)))))) (by omega) (by rw [lp_succ, ← hs_L1]; simp only [s_L_used_L1, if_neg h2, if_neg h3])
        rw [show i_L1 + 1 + (6 * unit) = i_L1 + (6 * unit) + 1 by omega] at hb
        exact v_sub (lv' := [(4, .int (nI ((i_L1 + (6 * unit)) + 1))), (3, .int (nI (set_L1 ||| ((xt (i_L1 + (6 * unit))) ||| (2 ^ (xu (i_L1 + (6 * unit)))))))), (0, .ref ua), (1, .ref ta), (2, .int (nI unit))]) [0, 1, 2, 3, 4] rfl hb
theorem lt_used {xu xt : Nat → Nat} {unit : Nat} (hu : ∀ k, xu k ≤ 15) (ht : ∀ k, xt k < 65536) : s_L_used xu xt unit < 65536 := by
  unfold s_L_used
  refine lp_inv (fun z => z < 65536) 6 (fun i _ a ha => ?_) _ (by decide)
  unfold s_L_used_L1
  repeat' split
  all_goals first | exact or_lt16 ha (or_lt16 (ht _) (by decide)) | exact or_lt16 ha (or_lt16 (ht _) (pow_lt16 (by have := hu (i + 6 * unit); omega)))
theorem ac_L_islands : Cond.arrayClass .int ∈ wsL_islands := by decide +kernel
def s_L_islands_L1 (xu : Nat → Nat) (xt : Nat → Nat) (i_L1 : Nat) (ra_L1 : Nat → Nat) : Nat → Nat := (updN ra_L1 i_L1 (s_L_used xu xt i_L1))
def s_L_islands_L3 (xu : Nat → Nat) (xt : Nat → Nat) (xf : Nat → Nat) (live : Nat) (ma_L2 : Nat → Nat) (i_L2 : Nat) (i_L3 : Nat) (ra_L3 : Nat → Nat) : Nat → Nat := (updN ra_L3 i_L3 ((ra_L3 i_L3) &&& (((s_L_spreads_xm xu xt xf live (i_L2 / 16) (i_L2 % 16) 90 ma_L2) i_L3) ^^^ 4294967295)))
def s_L_islands_L2 (xu : Nat → Nat) (xt : Nat → Nat) (xf : Nat → Nat) (live : Nat) (i_L2 : Nat) (z : Nat × (Nat → Nat) × (Nat → Nat)) : Nat × (Nat → Nat) × (Nat → Nat) := match z with
  | (many_L2, ra_L2, ma_L2) => if (((ra_L2 (i_L2 / 16)) / 2 ^ (i_L2 % 16)) % 2) = 1 then (many_L2 + 1, (lp (s_L_islands_L3 xu xt xf live ma_L2 i_L2) 6 ra_L2), s_L_spreads_xm xu xt xf live (i_L2 / 16) (i_L2 % 16) 90 ma_L2) else (many_L2, ra_L2, ma_L2)
def s_L_islands (xu : Nat → Nat) (xt : Nat → Nat) (xf : Nat → Nat) (live : Nat) : Nat := ((lp (s_L_islands_L2 xu xt xf live) 96 (0, (lp (s_L_islands_L1 xu xt) 6 (fun _ => 0)), fun _ => 0)).1)
set_option maxHeartbeats 4000000 in
set_option maxRecDepth 100000 in
theorem k_L_islands (l : Launch) (D : va_G) (cI : ClassId) (ua ta fa : Nat) (xu xt xf : Nat → Nat) (live : Nat) (hu : ∀ k, xu k ≤ 15) (ht : ∀ k, xt k < 65536) (hf : ∀ k, xf k ≤ 36) (hli : live < 2 ^ 36) (hlv : ∀ k, k < 36 → live / 2 ^ k % 2 = 1 → ¬ xf k = 0) : Ki l yL_islands wsL_islands 2 58 98 588 D (TI cI) [.ref ua, .ref ta, .ref fa, .long (nJ live)] ([(ua, .inl (cI, 36, .inl (nA xu))), (ta, .inl (cI, 36, .inl (nA xt))), (fa, .inl (cI, 36, .inl (nA xf)))]) ([(ua, .inl (cI, 36, .inl (nA xu))), (ta, .inl (cI, 36, .inl (nA xt))), (fa, .inl (cI, 36, .inl (nA xf)))]) (nI (s_L_islands xu xt xf live)) := by
  refine Ki.of (cc := cL_islands) (maxL := 10) (rt := .int) (lv0 := [(0, .ref ua), (1, .ref ta), (2, .ref fa), (3, .long (nJ live))]) (by decide +kernel) rfl (Nat.le_of_ble_eq_true rfl) rfl ?_
  intro p e s m args below meth c A C0 hr hlk hK hA
  refine v_bipush C0 (pc' := 2) (nI 6) (by decide +kernel) dL_islands_0 rfl ?_
  refine v_newN C0 hK hA 0 rfl (N := 6) (pc' := 4) (k' := 1) (n' := 6) (by decide) (Nat.le_of_ble_eq_true rfl) (Nat.le_of_ble_eq_true rfl) ac_L_islands dL_islands_2 rfl rfl rfl (fun ra => ?_)
  refine v_astore C0 (lv' := [(5, .ref ra), (0, .ref ua), (1, .ref ta), (2, .ref fa), (3, .long (nJ live))]) (pc' := 6) (by decide) rfl dL_islands_4 rfl ?_
  refine v_bipush C0 (pc' := 8) (nI 6) (by decide +kernel) dL_islands_6 rfl ?_
  refine v_newN C0 hK hA 0 rfl (N := 6) (pc' := 10) (k' := 2) (n' := 12) (by decide) (Nat.le_of_ble_eq_true rfl) (Nat.le_of_ble_eq_true rfl) ac_L_islands dL_islands_8 rfl rfl rfl (fun ma => ?_)
  refine v_astore C0 (lv' := [(6, .ref ma), (5, .ref ra), (0, .ref ua), (1, .ref ta), (2, .ref fa), (3, .long (nJ live))]) (pc' := 12) (by decide) rfl dL_islands_10 rfl ?_
  refine v_iconst C0 (pc' := 13) (nI 0) (by decide +kernel) dL_islands_12 rfl ?_
  refine v_istore C0 (lv' := [(7, .int (nI 0)), (6, .ref ma), (5, .ref ra), (0, .ref ua), (1, .ref ta), (2, .ref fa), (3, .long (nJ live))]) (pc' := 15) (by decide) rfl dL_islands_13 rfl ?_
  refine v_iconst C0 (pc' := 16) (nI 0) (by decide +kernel) dL_islands_15 rfl ?_
  refine v_istore C0 (lv' := [(8, .int (nI 0)), (7, .int (nI 0)), (6, .ref ma), (5, .ref ra), (0, .ref ua), (1, .ref ta), (2, .ref fa), (3, .long (nJ live))]) (pc' := 18) (by decide) rfl dL_islands_16 rfl ?_
  suffices LP_L1 : ∀ (j_L1 i_L1 : Nat) (ra_L1 : Nat → Nat), i_L1 + j_L1 = 6 → ra_L1 = lp (s_L_islands_L1 xu xt) i_L1 (fun _ => 0) → (∀ k, ra_L1 k < 65536) → V p l e { frames := 2, cells := 98, slots := 588, locals := 58 } s m args below meth c D A 10 2 12 (MQ below (QI D (TI cI) ([(ua, .inl (cI, 36, .inl (nA xu))), (ta, .inl (cI, 36, .inl (nA xt))), (fa, .inl (cI, 36, .inl (nA xf)))]) A (nI (s_L_islands xu xt xf live))) args s 98 588 A) ([(ma, .inl (cI, 6, .inl (nA (fun _ => 0)))), (ra, .inl (cI, 6, .inl (nA ra_L1))), (ua, .inl (cI, 36, .inl (nA xu))), (ta, .inl (cI, 36, .inl (nA xt))), (fa, .inl (cI, 36, .inl (nA xf)))]) [(8, .int (nI i_L1)), (7, .int (nI 0)), (6, .ref ma), (5, .ref ra), (0, .ref ua), (1, .ref ta), (2, .ref fa), (3, .long (nJ live))] 18 [] by
    have h0_L1 := LP_L1 6 0 (fun _ => 0) (Nat.zero_add _) (lp_zero _ _).symm z16
    exact v_sub (lv' := [(8, .int (nI 0)), (7, .int (nI 0)), (6, .ref ma), (5, .ref ra), (0, .ref ua), (1, .ref ta), (2, .ref fa), (3, .long (nJ live))]) [0, 1, 2, 3, 4, 5, 6, 7] rfl h0_L1
  intro j_L1
  induction j_L1 with
  | zero =>
    intro i_L1 ra_L1 hi_L1 hs_L1 hr_L1
    have hi_L1 : 6 = i_L1 := by omega
    subst hi_L1
    refine v_iload C0 (pc' := 20) 0 rfl dL_islands_18 rfl ?_
    refine v_bipush C0 (pc' := 22) (nI 6) (by decide +kernel) dL_islands_20 rfl ?_
    refine v_icmp_geN C0 43 (pc' := 25) (by omega) (by omega) dL_islands_22 (by decide) rfl (fun h1 => ?_) (fun h1 => ?_)
    · refine v_iconst C0 (pc' := 44) (nI 0) (by decide +kernel) dL_islands_43 rfl ?_
      refine v_istore C0 (lv' := [(8, .int (nI 0)), (7, .int (nI 0)), (6, .ref ma), (5, .ref ra), (0, .ref ua), (1, .ref ta), (2, .ref fa), (3, .long (nJ live))]) (pc' := 46) (by decide) rfl dL_islands_44 rfl ?_
      suffices LP_L2 : ∀ (j_L2 i_L2 : Nat) (many_L2 : Nat) (ra_L2 : Nat → Nat) (ma_L2 : Nat → Nat), i_L2 + j_L2 = 96 → (many_L2, ra_L2, ma_L2) = lp (s_L_islands_L2 xu xt xf live) i_L2 (0, ra_L1, fun _ => 0) → (∀ k, ra_L2 k < 65536) → (∀ k, ma_L2 k < 65536) → V p l e { frames := 2, cells := 98, slots := 588, locals := 58 } s m args below meth c D A 10 (2 + 1 * i_L2) (12 + 6 * i_L2) (MQ below (QI D (TI cI) ([(ua, .inl (cI, 36, .inl (nA xu))), (ta, .inl (cI, 36, .inl (nA xt))), (fa, .inl (cI, 36, .inl (nA xf)))]) A (nI (s_L_islands xu xt xf live))) args s 98 588 A) ([(ma, .inl (cI, 6, .inl (nA ma_L2))), (ra, .inl (cI, 6, .inl (nA ra_L2))), (ua, .inl (cI, 36, .inl (nA xu))), (ta, .inl (cI, 36, .inl (nA xt))), (fa, .inl (cI, 36, .inl (nA xf)))]) [(8, .int (nI i_L2)), (7, .int (nI many_L2)), (6, .ref ma), (5, .ref ra), (0, .ref ua), (1, .ref ta), (2, .ref fa), (3, .long (nJ live))] 46 [] by
        have h0_L2 := LP_L2 96 0 0 ra_L1 (fun _ => 0) (Nat.zero_add _) (lp_zero _ _).symm hr_L1 z16
        simp only [Nat.mul_zero, Nat.add_zero] at h0_L2
        exact v_sub (lv' := [(8, .int (nI 0)), (7, .int (nI 0)), (6, .ref ma), (5, .ref ra), (0, .ref ua), (1, .ref ta), (2, .ref fa), (3, .long (nJ live))]) [0, 1, 2, 3, 4, 5, 6, 7] rfl h0_L2
      intro j_L2
      induction j_L2 with
      | zero =>
        intro i_L2 many_L2 ra_L2 ma_L2 hi_L2 hs_L2 hr_L2 hm_L2
        have hi_L2 : 96 = i_L2 := by omega
        subst hi_L2
        refine v_iload C0 (pc' := 48) 0 rfl dL_islands_46 rfl ?_
        refine v_bipush C0 (pc' := 50) (nI 96) (by decide +kernel) dL_islands_48 rfl ?_
        refine v_icmp_geN C0 134 (pc' := 53) (by omega) (by omega) dL_islands_50 (by decide) rfl (fun h2 => ?_) (fun h2 => ?_)
        · refine v_iload C0 (pc' := 136) 1 rfl dL_islands_134 rfl ?_
          refine v_tail ?_
          refine v_tail ?_
          refine v_widen (k2 := 98) (n2 := 588) (by omega) (by omega) ?_
          exact v_iret C0 hr hlk hK (by simp only [s_L_islands, ← hs_L1, ← hs_L2]) dL_islands_136
        · exact absurd (by omega) h2
      | succ j_L2 ih_L2 =>
        intro i_L2 many_L2 ra_L2 ma_L2 hi_L2 hs_L2 hr_L2 hm_L2
        refine v_iload C0 (pc' := 48) 0 rfl dL_islands_46 rfl ?_
        refine v_bipush C0 (pc' := 50) (nI 96) (by decide +kernel) dL_islands_48 rfl ?_
        refine v_icmp_geN C0 134 (pc' := 53) (by omega) (by omega) dL_islands_50 (by decide) rfl (fun h3 => ?_) (fun h3 => ?_)
        · exact absurd h3 (by omega)
        · refine v_aload C0 (pc' := 55) 3 rfl dL_islands_53 rfl ?_
          refine v_iload C0 (pc' := 57) 0 rfl dL_islands_55 rfl ?_
          refine v_bipush C0 (pc' := 59) (nI 16) (by decide +kernel) dL_islands_57 rfl ?_
          refine v_idivN C0 (pc' := 60) (by omega) (by decide) (by decide) dL_islands_59 rfl ?_
          refine v_ialdN C0 hK (pc' := 61) 1 0 rfl rfl (by omega) (by decide) dL_islands_60 rfl ?_
          refine v_iload C0 (pc' := 63) 0 rfl dL_islands_61 rfl ?_
          refine v_bipush C0 (pc' := 65) (nI 16) (by decide +kernel) dL_islands_63 rfl ?_
          refine v_iremN C0 (pc' := 66) (by omega) (by decide) (by decide) dL_islands_65 rfl ?_
          refine v_ishrN C0 (pc' := 67) (by have := hr_L2 (i_L2 / 16); omega) (by omega) dL_islands_66 rfl ?_
          refine v_iconst C0 (pc' := 68) (nI 1) (by decide +kernel) dL_islands_67 rfl ?_
          refine v_iand1 C0 (pc' := 69) dL_islands_68 rfl ?_
          refine v_iconst C0 (pc' := 70) (nI 1) (by decide +kernel) dL_islands_69 rfl ?_
          refine v_icmp_neN C0 128 (pc' := 73) (by have := hr_L2 (i_L2 / 16); omega) (by omega) dL_islands_70 (by decide) rfl (fun h4 => ?_) (fun h4 => ?_)
          · refine v_iincN C0 (lv' := [(8, .int (nI (i_L2 + 1))), (7, .int (nI many_L2)), (6, .ref ma), (5, .ref ra), (0, .ref ua), (1, .ref ta), (2, .ref fa), (3, .long (nJ live))]) (y := 1) (pc' := 131) 0 rfl (by decide) rfl dL_islands_128 rfl ?_
            refine v_goto C0 46 dL_islands_131 (by decide) ?_
            refine v_widen (k2 := 2 + 1 * (i_L2 + 1)) (n2 := 12 + 6 * (i_L2 + 1)) (by omega) (by omega) ?_
            have hb := ih_L2 (i_L2 + 1) many_L2 ra_L2 ma_L2 (by omega) (by rw [lp_succ, ← hs_L2]; simp only [s_L_islands_L2, if_neg h3, if_neg h4]) hr_L2 hm_L2
            exact v_sub (lv' := [(8, .int (nI (i_L2 + 1))), (7, .int (nI many_L2)), (6, .ref ma), (5, .ref ra), (0, .ref ua), (1, .ref ta), (2, .ref fa), (3, .long (nJ live))]) [0, 1, 2, 3, 4, 5, 6, 7] rfl hb
          · refine v_iincN C0 (lv' := [(7, .int (nI (many_L2 + 1))), (8, .int (nI i_L2)), (6, .ref ma), (5, .ref ra), (0, .ref ua), (1, .ref ta), (2, .ref fa), (3, .long (nJ live))]) (y := 1) (pc' := 76) 1 rfl (by decide) rfl dL_islands_73 rfl ?_
            refine v_aload_n C0 (pc' := 77) 4 rfl rfl dL_islands_76 rfl ?_
            refine v_aload_n C0 (pc' := 78) 5 rfl rfl dL_islands_77 rfl ?_
            refine v_aload_n C0 (pc' := 79) 6 rfl rfl dL_islands_78 rfl ?_
            refine v_lload_n C0 (pc' := 80) 7 rfl rfl dL_islands_79 rfl ?_
            refine v_iload C0 (pc' := 82) 1 rfl dL_islands_80 rfl ?_
            refine v_bipush C0 (pc' := 84) (nI 16) (by decide +kernel) dL_islands_82 rfl ?_
            refine v_idivN C0 (pc' := 85) (by omega) (by decide) (by decide) dL_islands_84 rfl ?_
            refine v_iload C0 (pc' := 87) 1 rfl dL_islands_85 rfl ?_
            refine v_bipush C0 (pc' := 89) (nI 16) (by decide +kernel) dL_islands_87 rfl ?_
            refine v_iremN C0 (pc' := 90) (by omega) (by decide) (by decide) dL_islands_89 rfl ?_
            refine v_bipush C0 (pc' := 92) (nI 90) (by decide +kernel) dL_islands_90 rfl ?_
            refine v_aload C0 (pc' := 94) 2 rfl dL_islands_92 rfl ?_
            refine v_callSv C0 (av := [.ref ua, .ref ta, .ref fa, .long (nJ live), .int (nI (i_L2 / 16)), .int (nI (i_L2 % 16)), .int (nI 90), .ref ma]) (rest := []) (ws' := [(ma, .inl (cI, 6, .inl (nA (s_L_spreads_xm xu xt xf live (i_L2 / 16) (i_L2 % 16) 90 ma_L2)))), (ra, .inl (cI, 6, .inl (nA ra_L2))), (ua, .inl (cI, 36, .inl (nA xu))), (ta, .inl (cI, 36, .inl (nA xt))), (fa, .inl (cI, 36, .inl (nA xf)))]) (pc' := 97) hK hA (k_L_spreads l D cI ua ta fa ma xu xt xf ma_L2 live (i_L2 / 16) (i_L2 % 16) 90 hu ht hf hm_L2 (by omega) hlv (by omega) (by omega) (by omega)) (va_cwS 8 C0.2.2.2.2 gL_islands_L_spreads rfl rfl rfl (by decide +kernel) ⟨Nat.le_of_ble_eq_true rfl, Nat.le_of_ble_eq_true rfl⟩) (PLs.of (isC := [2, 3, 4, 0]) (isR := [1]) (isP := [4, 0, 1, 2, 3]) (wr := [(ra, .inl (cI, 6, .inl (nA ra_L2)))]) ⟨rfl, by decide, rfl, by decide, by decide, rfl, by decide⟩) rfl rfl (Nat.le_of_ble_eq_true rfl) ⟨(by show 2 + 1 * i_L2 + 1 ≤ 98; omega), (by show 12 + 6 * i_L2 + 6 ≤ 588; omega)⟩ dL_islands_94 rfl ?_
            refine v_iconst C0 (pc' := 98) (nI 0) (by decide +kernel) dL_islands_97 rfl ?_
            refine v_istore C0 (lv' := [(9, .int (nI 0)), (7, .int (nI (many_L2 + 1))), (8, .int (nI i_L2)), (6, .ref ma), (5, .ref ra), (0, .ref ua), (1, .ref ta), (2, .ref fa), (3, .long (nJ live))]) (pc' := 100) (by decide) rfl dL_islands_98 rfl ?_
            suffices LP_L3 : ∀ (j_L3 i_L3 : Nat) (ra_L3 : Nat → Nat), i_L3 + j_L3 = 6 → ra_L3 = lp (s_L_islands_L3 xu xt xf live ma_L2 i_L2) i_L3 ra_L2 → (∀ k, ra_L3 k < 65536) → V p l e { frames := 2, cells := 98, slots := 588, locals := 58 } s m args below meth c D A 10 ((2 + 1 * i_L2) + 1) ((12 + 6 * i_L2) + 6) (MQ below (QI D (TI cI) ([(ua, .inl (cI, 36, .inl (nA xu))), (ta, .inl (cI, 36, .inl (nA xt))), (fa, .inl (cI, 36, .inl (nA xf)))]) A (nI (s_L_islands xu xt xf live))) args s 98 588 A) ([(ma, .inl (cI, 6, .inl (nA (s_L_spreads_xm xu xt xf live (i_L2 / 16) (i_L2 % 16) 90 ma_L2)))), (ra, .inl (cI, 6, .inl (nA ra_L3))), (ua, .inl (cI, 36, .inl (nA xu))), (ta, .inl (cI, 36, .inl (nA xt))), (fa, .inl (cI, 36, .inl (nA xf)))]) [(9, .int (nI i_L3)), (7, .int (nI (many_L2 + 1))), (8, .int (nI i_L2)), (6, .ref ma), (5, .ref ra), (0, .ref ua), (1, .ref ta), (2, .ref fa), (3, .long (nJ live))] 100 [] by
              have h0_L3 := LP_L3 6 0 ra_L2 (Nat.zero_add _) (lp_zero _ _).symm hr_L2
              exact v_sub (lv' := [(9, .int (nI 0)), (7, .int (nI (many_L2 + 1))), (8, .int (nI i_L2)), (6, .ref ma), (5, .ref ra), (0, .ref ua), (1, .ref ta), (2, .ref fa), (3, .long (nJ live))]) [0, 1, 2, 3, 4, 5, 6, 7, 8] rfl h0_L3
            intro j_L3
            induction j_L3 with
            | zero =>
              intro i_L3 ra_L3 hi_L3 hs_L3 hr_L3
              have hi_L3 : 6 = i_L3 := by omega
              subst hi_L3
              refine v_iload C0 (pc' := 102) 0 rfl dL_islands_100 rfl ?_
              refine v_bipush C0 (pc' := 104) (nI 6) (by decide +kernel) dL_islands_102 rfl ?_
              refine v_icmp_geN C0 128 (pc' := 107) (by omega) (by omega) dL_islands_104 (by decide) rfl (fun h5 => ?_) (fun h5 => ?_)
              · refine v_iincN C0 (lv' := [(8, .int (nI (i_L2 + 1))), (9, .int (nI 6)), (7, .int (nI (many_L2 + 1))), (6, .ref ma), (5, .ref ra), (0, .ref ua), (1, .ref ta), (2, .ref fa), (3, .long (nJ live))]) (y := 1) (pc' := 131) 2 rfl (by decide) rfl dL_islands_128 rfl ?_
                refine v_goto C0 46 dL_islands_131 (by decide) ?_
                refine v_widen (k2 := 2 + 1 * (i_L2 + 1)) (n2 := 12 + 6 * (i_L2 + 1)) (by omega) (by omega) ?_
                have hb := ih_L2 (i_L2 + 1) (many_L2 + 1) ra_L3 (s_L_spreads_xm xu xt xf live (i_L2 / 16) (i_L2 % 16) 90 ma_L2) (by omega) (by rw [lp_succ, ← hs_L2]; simp only [s_L_islands_L2, if_neg h3, if_pos h4, ← hs_L3]) hr_L3 (lt_spreads hu (by omega) hm_L2)
                exact v_sub (lv' := [(8, .int (nI (i_L2 + 1))), (7, .int (nI (many_L2 + 1))), (6, .ref ma), (5, .ref ra), (0, .ref ua), (1, .ref ta), (2, .ref fa), (3, .long (nJ live))]) [0, 2, 3, 4, 5, 6, 7, 8] rfl hb
              · exact absurd (by omega) h5
            | succ j_L3 ih_L3 =>
              intro i_L3 ra_L3 hi_L3 hs_L3 hr_L3
              refine v_iload C0 (pc' := 102) 0 rfl dL_islands_100 rfl ?_
              refine v_bipush C0 (pc' := 104) (nI 6) (by decide +kernel) dL_islands_102 rfl ?_
              refine v_icmp_geN C0 128 (pc' := 107) (by omega) (by omega) dL_islands_104 (by decide) rfl (fun h6 => ?_) (fun h6 => ?_)
              · exact absurd h6 (by omega)
              · refine v_aload C0 (pc' := 109) 4 rfl dL_islands_107 rfl ?_
                refine v_iload C0 (pc' := 111) 0 rfl dL_islands_109 rfl ?_
                refine v_dup2 C0 (pc' := 112) rfl rfl dL_islands_111 rfl ?_
                refine v_ialdN C0 hK (pc' := 113) 1 0 rfl rfl (by omega) (by decide) dL_islands_112 rfl ?_
                refine v_aload C0 (pc' := 115) 3 rfl dL_islands_113 rfl ?_
                refine v_iload C0 (pc' := 117) 0 rfl dL_islands_115 rfl ?_
                refine v_ialdN C0 hK (pc' := 118) 0 0 rfl rfl (by omega) (by decide) dL_islands_117 rfl ?_
                refine v_iconst C0 (pc' := 119) (-1) (by decide) dL_islands_118 rfl ?_
                refine v_ixorM C0 (pc' := 120) dL_islands_119 rfl ?_
                refine v_iandN C0 (pc' := 121) dL_islands_120 rfl ?_
                refine v_iastN C0 hK (ws' := [(ma, .inl (cI, 6, .inl (nA (s_L_spreads_xm xu xt xf live (i_L2 / 16) (i_L2 % 16) 90 ma_L2)))), (ra, .inl (cI, 6, .inl (nA (updN ra_L3 i_L3 ((ra_L3 i_L3) &&& (((s_L_spreads_xm xu xt xf live (i_L2 / 16) (i_L2 % 16) 90 ma_L2) i_L3) ^^^ 4294967295)))))), (ua, .inl (cI, 36, .inl (nA xu))), (ta, .inl (cI, 36, .inl (nA xt))), (fa, .inl (cI, 36, .inl (nA xf)))]) (pc' := 122) 1 0 rfl rfl rfl (by omega) (by decide) dL_islands_121 rfl ?_
                refine v_iincN C0 (lv' := [(9, .int (nI (i_L3 + 1))), (7, .int (nI (many_L2 + 1))), (8, .int (nI i_L2)), (6, .ref ma), (5, .ref ra), (0, .ref ua), (1, .ref ta), (2, .ref fa), (3, .long (nJ live))]) (y := 1) (pc' := 125) 0 rfl (by decide) rfl dL_islands_122 rfl ?_
                refine v_goto C0 100 dL_islands_125 (by decide) ?_
                have hb := ih_L3 (i_L3 + 1) (updN ra_L3 i_L3 ((ra_L3 i_L3) &&& (((s_L_spreads_xm xu xt xf live (i_L2 / 16) (i_L2 % 16) 90 ma_L2) i_L3) ^^^ 4294967295))) (by omega) (by rw [lp_succ, ← hs_L3]; simp only [s_L_islands_L3, if_neg h6]) (updN_lt hr_L3 (Nat.lt_of_le_of_lt Nat.and_le_left (hr_L3 _)))
                exact v_sub (lv' := [(9, .int (nI (i_L3 + 1))), (7, .int (nI (many_L2 + 1))), (8, .int (nI i_L2)), (6, .ref ma), (5, .ref ra), (0, .ref ua), (1, .ref ta), (2, .ref fa), (3, .long (nJ live))]) [0, 1, 2, 3, 4, 5, 6, 7, 8] rfl hb
    · exact absurd (by omega) h1
  | succ j_L1 ih_L1 =>
    intro i_L1 ra_L1 hi_L1 hs_L1 hr_L1
    refine v_iload C0 (pc' := 20) 0 rfl dL_islands_18 rfl ?_
    refine v_bipush C0 (pc' := 22) (nI 6) (by decide +kernel) dL_islands_20 rfl ?_
    refine v_icmp_geN C0 43 (pc' := 25) (by omega) (by omega) dL_islands_22 (by decide) rfl (fun h7 => ?_) (fun h7 => ?_)
    · exact absurd h7 (by omega)
    · refine v_aload C0 (pc' := 27) 3 rfl dL_islands_25 rfl ?_
      refine v_iload C0 (pc' := 29) 0 rfl dL_islands_27 rfl ?_
      refine v_aload_n C0 (pc' := 30) 4 rfl rfl dL_islands_29 rfl ?_
      refine v_aload_n C0 (pc' := 31) 5 rfl rfl dL_islands_30 rfl ?_
      refine v_iload C0 (pc' := 33) 0 rfl dL_islands_31 rfl ?_
      refine v_callSi C0 (av := [.ref ua, .ref ta, .int (nI i_L1)]) (rest := [.int (nI i_L1), .ref ra]) (ws' := [(ma, .inl (cI, 6, .inl (nA (fun _ => 0)))), (ra, .inl (cI, 6, .inl (nA ra_L1))), (ua, .inl (cI, 36, .inl (nA xu))), (ta, .inl (cI, 36, .inl (nA xt))), (fa, .inl (cI, 36, .inl (nA xf)))]) (pc' := 36) hK hA (k_L_used l D cI ua ta xu xt i_L1 hu ht (by omega)) (va_cwS 3 C0.2.2.2.2 gL_islands_L_used rfl rfl rfl (by decide +kernel) ⟨Nat.le_of_ble_eq_true rfl, Nat.le_of_ble_eq_true rfl⟩) (PLs.of (isC := [2, 3]) (isR := [0, 1, 4]) (isP := [0, 1, 3, 4, 2]) (wr := [(ma, .inl (cI, 6, .inl (nA (fun _ => 0)))), (ra, .inl (cI, 6, .inl (nA ra_L1))), (fa, .inl (cI, 36, .inl (nA xf)))]) ⟨rfl, by decide, rfl, by decide, by decide, rfl, by decide⟩) rfl rfl (Nat.le_of_ble_eq_true rfl) ⟨(Nat.le_of_ble_eq_true rfl), (Nat.le_of_ble_eq_true rfl)⟩ dL_islands_33 rfl ?_
      refine v_iastN C0 hK (ws' := [(ma, .inl (cI, 6, .inl (nA (fun _ => 0)))), (ra, .inl (cI, 6, .inl (nA (updN ra_L1 i_L1 (s_L_used xu xt i_L1))))), (ua, .inl (cI, 36, .inl (nA xu))), (ta, .inl (cI, 36, .inl (nA xt))), (fa, .inl (cI, 36, .inl (nA xf)))]) (pc' := 37) 1 0 rfl rfl rfl (by omega) (by decide) dL_islands_36 rfl ?_
      refine v_iincN C0 (lv' := [(8, .int (nI (i_L1 + 1))), (7, .int (nI 0)), (6, .ref ma), (5, .ref ra), (0, .ref ua), (1, .ref ta), (2, .ref fa), (3, .long (nJ live))]) (y := 1) (pc' := 40) 0 rfl (by decide) rfl dL_islands_37 rfl ?_
      refine v_goto C0 18 dL_islands_40 (by decide) ?_
      have hb := ih_L1 (i_L1 + 1) (updN ra_L1 i_L1 (s_L_used xu xt i_L1)) (by omega) (by rw [lp_succ, ← hs_L1]; simp only [s_L_islands_L1, if_neg h7]) (updN_lt hr_L1 (lt_used hu ht))
      exact v_sub (lv' := [(8, .int (nI (i_L1 + 1))), (7, .int (nI 0)), (6, .ref ma), (5, .ref ra), (0, .ref ua), (1, .ref ta), (2, .ref fa), (3, .long (nJ live))]) [0, 1, 2, 3, 4, 5, 6, 7] rfl hb
def s_L_loops_L1 (xu : Nat → Nat) (xt : Nat → Nat) (xf : Nat → Nat) (live : Nat) (i_L1 : Nat) (z : Nat × Nat) : Nat × Nat := match z with
  | (ends_L1, places_L1) => if ((live / 2 ^ i_L1) % 2) = 1 then (if (xu i_L1) = 0 then (if (i_L1 % 6) = 0 then (ends_L1 + ((sb ((xt i_L1) &&& (xt ((xf i_L1) - 1))) 16) + 0), places_L1 + (sb (s_L_used xu xt (i_L1 / 6)) 16)) else (ends_L1 + ((sb ((xt i_L1) &&& (xt ((xf i_L1) - 1))) 16) + 0), places_L1 + 0)) else (if (xu ((xf i_L1) - 1)) = 0 then (if (i_L1 % 6) = 0 then (ends_L1 + ((sb ((xt i_L1) &&& (xt ((xf i_L1) - 1))) 16) + 0), places_L1 + (sb (s_L_used xu xt (i_L1 / 6)) 16)) else (ends_L1 + ((sb ((xt i_L1) &&& (xt ((xf i_L1) - 1))) 16) + 0), places_L1 + 0)) else (if (i_L1 % 6) = 0 then (ends_L1 + ((sb ((xt i_L1) &&& (xt ((xf i_L1) - 1))) 16) + 1), places_L1 + (sb (s_L_used xu xt (i_L1 / 6)) 16)) else (ends_L1 + ((sb ((xt i_L1) &&& (xt ((xf i_L1) - 1))) 16) + 1), places_L1 + 0)))) else (if (i_L1 % 6) = 0 then (ends_L1, places_L1 + (sb (s_L_used xu xt (i_L1 / 6)) 16)) else (ends_L1, places_L1 + 0))
def s_L_loops (xu : Nat → Nat) (xt : Nat → Nat) (xf : Nat → Nat) (live : Nat) : Int32 := ((nI (((lp (s_L_loops_L1 xu xt xf live) 36 (0, 0)).1) / 2) - nI ((lp (s_L_loops_L1 xu xt xf live) 36 (0, 0)).2)) + (nI (s_L_islands xu xt xf live)))
set_option maxHeartbeats 4000000 in
set_option maxRecDepth 100000 in
theorem k_L_loops (l : Launch) (D : va_G) (cI : ClassId) (ua ta fa : Nat) (xu xt xf : Nat → Nat) (live : Nat) (hu : ∀ k, xu k ≤ 15) (ht : ∀ k, xt k < 65536) (hf : ∀ k, xf k ≤ 36) (hli : live < 2 ^ 36) (hlv : ∀ k, k < 36 → live / 2 ^ k % 2 = 1 → ¬ xf k = 0) : Ki l yL_loops wsL_loops 3 87 98 588 D (TI cI) [.ref ua, .ref ta, .ref fa, .long (nJ live)] ([(ua, .inl (cI, 36, .inl (nA xu))), (ta, .inl (cI, 36, .inl (nA xt))), (fa, .inl (cI, 36, .inl (nA xf)))]) ([(ua, .inl (cI, 36, .inl (nA xu))), (ta, .inl (cI, 36, .inl (nA xt))), (fa, .inl (cI, 36, .inl (nA xf)))]) (s_L_loops xu xt xf live) := by
  refine Ki.of (cc := cL_loops) (maxL := 9) (rt := .int) (lv0 := [(0, .ref ua), (1, .ref ta), (2, .ref fa), (3, .long (nJ live))]) (by decide +kernel) rfl (Nat.le_of_ble_eq_true rfl) rfl ?_
  intro p e s m args below meth c A C0 hr hlk hK hA
  refine v_iconst C0 (pc' := 1) (nI 0) (by decide +kernel) dL_loops_0 rfl ?_
  refine v_istore C0 (lv' := [(5, .int (nI 0)), (0, .ref ua), (1, .ref ta), (2, .ref fa), (3, .long (nJ live))]) (pc' := 3) (by decide) rfl dL_loops_1 rfl ?_
  refine v_iconst C0 (pc' := 4) (nI 0) (by decide +kernel) dL_loops_3 rfl ?_
  refine v_istore C0 (lv' := [(6, .int (nI 0)), (5, .int (nI 0)), (0, .ref ua), (1, .ref ta), (2, .ref fa), (3, .long (nJ live))]) (pc' := 6) (by decide) rfl dL_loops_4 rfl ?_
  refine v_iconst C0 (pc' := 7) (nI 0) (by decide +kernel) dL_loops_6 rfl ?_
  refine v_istore C0 (lv' := [(7, .int (nI 0)), (6, .int (nI 0)), (5, .int (nI 0)), (0, .ref ua), (1, .ref ta), (2, .ref fa), (3, .long (nJ live))]) (pc' := 9) (by decide) rfl dL_loops_7 rfl ?_
  suffices LP_L1 : ∀ (j_L1 i_L1 : Nat) (ends_L1 : Nat) (places_L1 : Nat), i_L1 + j_L1 = 36 → (ends_L1, places_L1) = lp (s_L_loops_L1 xu xt xf live) i_L1 (0, 0) → (ends_L1 ≤ 40 * i_L1) → V p l e { frames := 3, cells := 98, slots := 588, locals := 87 } s m args below meth c D A 9 0 0 (MQ below (QI D (TI cI) ([(ua, .inl (cI, 36, .inl (nA xu))), (ta, .inl (cI, 36, .inl (nA xt))), (fa, .inl (cI, 36, .inl (nA xf)))]) A (s_L_loops xu xt xf live)) args s 98 588 A) ([(ua, .inl (cI, 36, .inl (nA xu))), (ta, .inl (cI, 36, .inl (nA xt))), (fa, .inl (cI, 36, .inl (nA xf)))]) [(7, .int (nI i_L1)), (5, .int (nI ends_L1)), (6, .int (nI places_L1)), (0, .ref ua), (1, .ref ta), (2, .ref fa), (3, .long (nJ live))] 9 [] by
    have h0_L1 := LP_L1 36 0 0 0 (Nat.zero_add _) (lp_zero _ _).symm (Nat.zero_le _)
    exact v_sub (lv' := [(7, .int (nI 0)), (5, .int (nI 0)), (6, .int (nI 0)), (0, .ref ua), (1, .ref ta), (2, .ref fa), (3, .long (nJ live))]) [0, 2, 1, 3, 4, 5, 6] rfl h0_L1
  intro j_L1
  induction j_L1 with
  | zero =>
    intro i_L1 ends_L1 places_L1 hi_L1 hs_L1 he_L1
    have hi_L1 : 36 = i_L1 := by omega
    subst hi_L1
    refine v_iload C0 (pc' := 11) 0 rfl dL_loops_9 rfl ?_
    refine v_bipush C0 (pc' := 13) (nI 36) (by decide +kernel) dL_loops_11 rfl ?_
    refine v_icmp_geN C0 108 (pc' := 16) (by omega) (by omega) dL_loops_13 (by decide) rfl (fun h1 => ?_) (fun h1 => ?_)
    · refine v_iload C0 (pc' := 110) 1 rfl dL_loops_108 rfl ?_
      refine v_iconst C0 (pc' := 111) (nI 2) (by decide +kernel) dL_loops_110 rfl ?_
      refine v_idivN C0 (pc' := 112) (by omega) (by decide) (by decide) dL_loops_111 rfl ?_
      refine v_iload C0 (pc' := 114) 2 rfl dL_loops_112 rfl ?_
      refine v_isub C0 (pc' := 115) dL_loops_114 rfl ?_
      refine v_aload_n C0 (pc' := 116) 3 rfl rfl dL_loops_115 rfl ?_
      refine v_aload_n C0 (pc' := 117) 4 rfl rfl dL_loops_116 rfl ?_
      refine v_aload_n C0 (pc' := 118) 5 rfl rfl dL_loops_117 rfl ?_
      refine v_lload_n C0 (pc' := 119) 6 rfl rfl dL_loops_118 rfl ?_
      refine v_callSi C0 (av := [.ref ua, .ref ta, .ref fa, .long (nJ live)]) (rest := [.int (nI (ends_L1 / 2) - nI places_L1)]) (ws' := [(ua, .inl (cI, 36, .inl (nA xu))), (ta, .inl (cI, 36, .inl (nA xt))), (fa, .inl (cI, 36, .inl (nA xf)))]) (pc' := 122) hK hA (k_L_islands l D cI ua ta fa xu xt xf live hu ht hf (by omega) hlv) (va_cwS 4 C0.2.2.2.2 gL_loops_L_islands rfl rfl rfl (by decide +kernel) ⟨Nat.le_of_ble_eq_true rfl, Nat.le_of_ble_eq_true rfl⟩) PLs.all rfl rfl (Nat.le_of_ble_eq_true rfl) ⟨(Nat.le_of_ble_eq_true rfl), (Nat.le_of_ble_eq_true rfl)⟩ dL_loops_119 rfl ?_
      refine v_iadd C0 (pc' := 123) dL_loops_122 rfl ?_
      exact v_iret C0 hr hlk hK (by simp only [s_L_loops, ← hs_L1]) dL_loops_123
    · exact absurd (by omega) h1
  | succ j_L1 ih_L1 =>
    intro i_L1 ends_L1 places_L1 hi_L1 hs_L1 he_L1
    refine v_iload C0 (pc' := 11) 0 rfl dL_loops_9 rfl ?_
    refine v_bipush C0 (pc' := 13) (nI 36) (by decide +kernel) dL_loops_11 rfl ?_
    refine v_icmp_geN C0 108 (pc' := 16) (by omega) (by omega) dL_loops_13 (by decide) rfl (fun h2 => ?_) (fun h2 => ?_)
    · exact absurd h2 (by omega)
    · refine v_lload_n C0 (pc' := 17) 6 rfl rfl dL_loops_16 rfl ?_
      refine v_iload C0 (pc' := 19) 0 rfl dL_loops_17 rfl ?_
      refine v_lshrN C0 (pc' := 20) (by omega) (by omega) dL_loops_19 rfl ?_
      refine v_lconst C0 (pc' := 21) 1 rfl dL_loops_20 rfl ?_
      refine v_land1 C0 (pc' := 22) dL_loops_21 rfl ?_
      refine v_lconst C0 (pc' := 23) 1 rfl dL_loops_22 rfl ?_
      refine v_lc1 C0 72 (pc1 := 24) (pc' := 27) (by omega) dL_loops_23 rfl dL_loops_24 (by decide) rfl (fun h3 => ?_) (fun h3 => ?_)
      · refine v_iload C0 (pc' := 74) 2 rfl dL_loops_72 rfl ?_
        refine v_iload C0 (pc' := 76) 0 rfl dL_loops_74 rfl ?_
        refine v_bipush C0 (pc' := 78) (nI 6) (by decide +kernel) dL_loops_76 rfl ?_
        refine v_iremN C0 (pc' := 79) (by omega) (by decide) (by decide) dL_loops_78 rfl ?_
        refine v_if_neN C0 98 (pc' := 82) (by omega) dL_loops_79 (by decide) rfl (fun h4 => ?_) (fun h4 => ?_)
        · refine v_iconst C0 (pc' := 99) (nI 0) (by decide +kernel) dL_loops_98 rfl ?_
          refine v_iaddN C0 (pc' := 100) dL_loops_99 rfl ?_
          refine v_istore C0 (lv' := [(6, .int (nI (places_L1 + 0))), (7, .int (nI i_L1)), (5, .int (nI ends_L1)), (0, .ref ua), (1, .ref ta), (2, .ref fa), (3, .long (nJ live))]) (pc' := 102) (by decide) rfl dL_loops_100 rfl ?_
          refine v_iincN C0 (lv' := [(7, .int (nI (i_L1 + 1))), (6, .int (nI (places_L1 + 0))), (5, .int (nI ends_L1)), (0, .ref ua), (1, .ref ta), (2, .ref fa), (3, .long (nJ live))]) (y := 1) (pc' := 105) 1 rfl (by decide) rfl dL_loops_102 rfl ?_
          refine v_goto C0 9 dL_loops_105 (by decide) ?_
          have hb := ih_L1 (i_L1 + 1) ends_L1 (places_L1 + 0) (by omega) (by rw [lp_succ, ← hs_L1]; simp only [s_L_loops_L1, if_neg h2, if_neg h3, if_neg h4]) (by omega)
          exact v_sub (lv' := [(7, .int (nI (i_L1 + 1))), (5, .int (nI ends_L1)), (6, .int (nI (places_L1 + 0))), (0, .ref ua), (1, .ref ta), (2, .ref fa), (3, .long (nJ live))]) [0, 2, 1, 3, 4, 5, 6] rfl hb
        · refine v_aload_n C0 (pc' := 83) 3 rfl rfl dL_loops_82 rfl ?_
          refine v_aload_n C0 (pc' := 84) 4 rfl rfl dL_loops_83 rfl ?_
          refine v_iload C0 (pc' := 86) 0 rfl dL_loops_84 rfl ?_
          refine v_bipush C0 (pc' := 88) (nI 6) (by decide +kernel) dL_loops_86 rfl ?_
          refine v_idivN C0 (pc' := 89) (by omega) (by decide) (by decide) dL_loops_88 rfl ?_
          refine v_callSi C0 (av := [.ref ua, .ref ta, .int (nI (i_L1 / 6))]) (rest := [.int (nI places_L1)]) (ws' := [(ua, .inl (cI, 36, .inl (nA xu))), (ta, .inl (cI, 36, .inl (nA xt))), (fa, .inl (cI, 36, .inl (nA xf)))]) (pc' := 92) hK hA (k_L_used l D cI ua ta xu xt (i_L1 / 6) hu ht (by omega)) (va_cwS 3 C0.2.2.2.2 gL_loops_L_used rfl rfl rfl (by decide +kernel) ⟨Nat.le_of_ble_eq_true rfl, Nat.le_of_ble_eq_true rfl⟩) (PLs.of (isC := [0, 1]) (isR := [2]) (isP := [1, 2, 0]) (wr := [(fa, .inl (cI, 36, .inl (nA xf)))]) ⟨rfl, by decide, rfl, by decide, by decide, rfl, by decide⟩) rfl rfl (Nat.le_of_ble_eq_true rfl) ⟨(Nat.le_of_ble_eq_true rfl), (Nat.le_of_ble_eq_true rfl)⟩ dL_loops_89 rfl ?_
          refine v_callSi C0 (av := [.int (nI (s_L_used xu xt (i_L1 / 6)))]) (rest := [.int (nI places_L1)]) (ws' := [(ua, .inl (cI, 36, .inl (nA xu))), (ta, .inl (cI, 36, .inl (nA xt))), (fa, .inl (cI, 36, .inl (nA xf)))]) (pc' := 95) hK hA (k_L_bits l D cI (s_L_used xu xt (i_L1 / 6)) (lt_used hu ht)) (va_cwS 1 C0.2.2.2.2 gL_loops_L_bits rfl rfl rfl (by decide +kernel) ⟨Nat.le_of_ble_eq_true rfl, Nat.le_of_ble_eq_true rfl⟩) PLs.nil rfl rfl (Nat.le_of_ble_eq_true rfl) ⟨(Nat.le_of_ble_eq_true rfl), (Nat.le_of_ble_eq_true rfl)⟩ dL_loops_92 rfl ?_
          refine v_goto C0 99 dL_loops_95 (by decide) ?_
          refine v_iaddN C0 (pc' := 100) dL_loops_99 rfl ?_
          refine v_istore C0 (lv' := [(6, .int (nI (places_L1 + (sb (s_L_used xu xt (i_L1 / 6)) 16)))), (7, .int (nI i_L1)), (5, .int (nI ends_L1)), (0, .ref ua), (1, .ref ta), (2, .ref fa), (3, .long (nJ live))]) (pc' := 102) (by decide) rfl dL_loops_100 rfl ?_
          refine v_iincN C0 (lv' := [(7, .int (nI (i_L1 + 1))), (6, .int (nI (places_L1 + (sb (s_L_used xu xt (i_L1 / 6)) 16)))), (5, .int (nI ends_L1)), (0, .ref ua), (1, .ref ta), (2, .ref fa), (3, .long (nJ live))]) (y := 1) (pc' := 105) 1 rfl (by decide) rfl dL_loops_102 rfl ?_
          refine v_goto C0 9 dL_loops_105 (by decide) ?_
          have hb := ih_L1 (i_L1 + 1) ends_L1 (places_L1 + (sb (s_L_used xu xt (i_L1 / 6)) 16)) (by omega) (by rw [lp_succ, ← hs_L1]; simp only [s_L_loops_L1, if_neg h2, if_neg h3, if_pos h4]) (by omega)
          exact v_sub (lv' := [(7, .int (nI (i_L1 + 1))), (5, .int (nI ends_L1)), (6, .int (nI (places_L1 + (sb (s_L_used xu xt (i_L1 / 6)) 16)))), (0, .ref ua), (1, .ref ta), (2, .ref fa), (3, .long (nJ live))]) [0, 2, 1, 3, 4, 5, 6] rfl hb
      · refine v_aload_n C0 (pc' := 28) 5 rfl rfl dL_loops_27 rfl ?_
        refine v_iload C0 (pc' := 30) 0 rfl dL_loops_28 rfl ?_
        refine v_ialdN C0 hK (pc' := 31) 2 0 rfl rfl (by have := hlv i_L1 (by omega) h3; omega) (by decide) dL_loops_30 rfl ?_
        refine v_iconst C0 (pc' := 32) (nI 1) (by decide +kernel) dL_loops_31 rfl ?_
        refine v_isubN C0 (pc' := 33) (by have := hf i_L1; have := hlv i_L1 (by omega) h3; omega) dL_loops_32 rfl ?_
        refine v_istore C0 (lv' := [(8, .int (nI ((xf i_L1) - 1))), (7, .int (nI i_L1)), (5, .int (nI ends_L1)), (6, .int (nI places_L1)), (0, .ref ua), (1, .ref ta), (2, .ref fa), (3, .long (nJ live))]) (pc' := 35) (by decide) rfl dL_loops_33 rfl ?_
        refine v_iload C0 (pc' := 37) 2 rfl dL_loops_35 rfl ?_
        refine v_aload_n C0 (pc' := 38) 5 rfl rfl dL_loops_37 rfl ?_
        refine v_iload C0 (pc' := 40) 1 rfl dL_loops_38 rfl ?_
        refine v_ialdN C0 hK (pc' := 41) 1 0 rfl rfl (by have := hlv i_L1 (by omega) h3; omega) (by decide) dL_loops_40 rfl ?_
        refine v_aload_n C0 (pc' := 42) 5 rfl rfl dL_loops_41 rfl ?_
        refine v_iload C0 (pc' := 44) 0 rfl dL_loops_42 rfl ?_
        refine v_ialdN C0 hK (pc' := 45) 1 0 rfl rfl (by have := hf i_L1; have := hlv i_L1 (by omega) h3; omega) (by decide) dL_loops_44 rfl ?_
        refine v_iandN C0 (pc' := 46) dL_loops_45 rfl ?_
        refine v_callSi C0 (av := [.int (nI ((xt i_L1) &&& (xt ((xf i_L1) - 1))))]) (rest := [.int (nI ends_L1)]) (ws' := [(ua, .inl (cI, 36, .inl (nA xu))), (ta, .inl (cI, 36, .inl (nA xt))), (fa, .inl (cI, 36, .inl (nA xf)))]) (pc' := 49) hK hA (k_L_bits l D cI ((xt i_L1) &&& (xt ((xf i_L1) - 1))) (Nat.lt_of_le_of_lt Nat.and_le_left (ht _))) (va_cwS 1 C0.2.2.2.2 gL_loops_L_bits rfl rfl rfl (by decide +kernel) ⟨Nat.le_of_ble_eq_true rfl, Nat.le_of_ble_eq_true rfl⟩) PLs.nil rfl rfl (Nat.le_of_ble_eq_true rfl) ⟨(Nat.le_of_ble_eq_true rfl), (Nat.le_of_ble_eq_true rfl)⟩ dL_loops_46 rfl ?_
        refine v_aload_n C0 (pc' := 50) 4 rfl rfl dL_loops_49 rfl ?_
        refine v_iload C0 (pc' := 52) 1 rfl dL_loops_50 rfl ?_
        refine v_ialdN C0 hK (pc' := 53) 0 0 rfl rfl (by have := hlv i_L1 (by omega) h3; omega) (by decide) dL_loops_52 rfl ?_
        refine v_if_leN C0 67 (pc' := 56) (by have := hu i_L1; have := hlv i_L1 (by omega) h3; omega) dL_loops_53 (by decide) rfl (fun h5 => ?_) (fun h5 => ?_)
        · refine v_iconst C0 (pc' := 68) (nI 0) (by decide +kernel) dL_loops_67 rfl ?_
          refine v_iaddN C0 (pc' := 69) dL_loops_68 rfl ?_
          refine v_iaddN C0 (pc' := 70) dL_loops_69 rfl ?_
          refine v_istore C0 (lv' := [(5, .int (nI (ends_L1 + ((sb ((xt i_L1) &&& (xt ((xf i_L1) - 1))) 16) + 0)))), (8, .int (nI ((xf i_L1) - 1))), (7, .int (nI i_L1)), (6, .int (nI places_L1)), (0, .ref ua), (1, .ref ta), (2, .ref fa), (3, .long (nJ live))]) (pc' := 72) (by decide) rfl dL_loops_70 rfl ?_
          refine v_iload C0 (pc' := 74) 3 rfl dL_loops_72 rfl ?_
          refine v_iload C0 (pc' := 76) 2 rfl dL_loops_74 rfl ?_
          refine v_bipush C0 (pc' := 78) (nI 6) (by decide +kernel) dL_loops_76 rfl ?_
          refine v_iremN C0 (pc' := 79) (by have := hlv i_L1 (by omega) h3; omega) (by decide) (by decide) dL_loops_78 rfl ?_
          refine v_if_neN C0 98 (pc' := 82) (by have := hlv i_L1 (by omega) h3; omega) dL_loops_79 (by decide) rfl (fun h6 => ?_) (fun h6 => ?_)
          · refine v_iconst C0 (pc' := 99) (nI 0) (by decide +kernel) dL_loops_98 rfl ?_
            refine v_iaddN C0 (pc' := 100) dL_loops_99 rfl ?_
            refine v_istore C0 (lv' := [(6, .int (nI (places_L1 + 0))), (5, .int (nI (ends_L1 + ((sb ((xt i_L1) &&& (xt ((xf i_L1) - 1))) 16) + 0)))), (8, .int (nI ((xf i_L1) - 1))), (7, .int (nI i_L1)), (0, .ref ua), (1, .ref ta), (2, .ref fa), (3, .long (nJ live))]) (pc' := 102) (by decide) rfl dL_loops_100 rfl ?_
            refine v_iincN C0 (lv' := [(7, .int (nI (i_L1 + 1))), (6, .int (nI (places_L1 + 0))), (5, .int (nI (ends_L1 + ((sb ((xt i_L1) &&& (xt ((xf i_L1) - 1))) 16) + 0)))), (8, .int (nI ((xf i_L1) - 1))), (0, .ref ua), (1, .ref ta), (2, .ref fa), (3, .long (nJ live))]) (y := 1) (pc' := 105) 3 rfl (by decide) rfl dL_loops_102 rfl ?_
            refine v_goto C0 9 dL_loops_105 (by decide) ?_
            have hb := ih_L1 (i_L1 + 1) (ends_L1 + ((sb ((xt i_L1) &&& (xt ((xf i_L1) - 1))) 16) + 0)) (places_L1 + 0) (by omega) (by rw [lp_succ, ← hs_L1]; simp only [s_L_loops_L1, if_neg h2, if_pos h3, if_pos h5, if_neg h6]) (by have := ht i_L1; have := ht ((xf i_L1) - 1); have := hf i_L1; have := hlv i_L1 (by omega) h3; have := sb_le ((xt i_L1) &&& (xt ((xf i_L1) - 1))) 16; omega)
            exact v_sub (lv' := [(7, .int (nI (i_L1 + 1))), (5, .int (nI (ends_L1 + ((sb ((xt i_L1) &&& (xt ((xf i_L1) - 1))) 16) + 0)))), (6, .int (nI (places_L1 + 0))), (0, .ref ua), (1, .ref ta), (2, .ref fa), (3, .long (nJ live))]) [0, 2, 1, 4, 5, 6, 7] rfl hb
          · refine v_aload_n C0 (pc' := 83) 4 rfl rfl dL_loops_82 rfl ?_
            refine v_aload_n C0 (pc' := 84) 5 rfl rfl dL_loops_83 rfl ?_
            refine v_iload C0 (pc' := 86) 2 rfl dL_loops_84 rfl ?_
            refine v_bipush C0 (pc' := 88) (nI 6) (by decide +kernel) dL_loops_86 rfl ?_
            refine v_idivN C0 (pc' := 89) (by have := hlv i_L1 (by omega) h3; omega) (by decide) (by decide) dL_loops_88 rfl ?_
            refine v_callSi C0 (av := [.ref ua, .ref ta, .int (nI (i_L1 / 6))]) (rest := [.int (nI places_L1)]) (ws' := [(ua, .inl (cI, 36, .inl (nA xu))), (ta, .inl (cI, 36, .inl (nA xt))), (fa, .inl (cI, 36, .inl (nA xf)))]) (pc' := 92) hK hA (k_L_used l D cI ua ta xu xt (i_L1 / 6) hu ht (by have := hlv i_L1 (by omega) h3; omega)) (va_cwS 3 C0.2.2.2.2 gL_loops_L_used rfl rfl rfl (by decide +kernel) ⟨Nat.le_of_ble_eq_true rfl, Nat.le_of_ble_eq_true rfl⟩) (PLs.of (isC := [0, 1]) (isR := [2]) (isP := [1, 2, 0]) (wr := [(fa, .inl (cI, 36, .inl (nA xf)))]) ⟨rfl, by decide, rfl, by decide, by decide, rfl, by decide⟩) rfl rfl (Nat.le_of_ble_eq_true rfl) ⟨(Nat.le_of_ble_eq_true rfl), (Nat.le_of_ble_eq_true rfl)⟩ dL_loops_89 rfl ?_
            refine v_callSi C0 (av := [.int (nI (s_L_used xu xt (i_L1 / 6)))]) (rest := [.int (nI places_L1)]) (ws' := [(ua, .inl (cI, 36, .inl (nA xu))), (ta, .inl (cI, 36, .inl (nA xt))), (fa, .inl (cI, 36, .inl (nA xf)))]) (pc' := 95) hK hA (k_L_bits l D cI (s_L_used xu xt (i_L1 / 6)) (lt_used hu ht)) (va_cwS 1 C0.2.2.2.2 gL_loops_L_bits rfl rfl rfl (by decide +kernel) ⟨Nat.le_of_ble_eq_true rfl, Nat.le_of_ble_eq_true rfl⟩) PLs.nil rfl rfl (Nat.le_of_ble_eq_true rfl) ⟨(Nat.le_of_ble_eq_true rfl), (Nat.le_of_ble_eq_true rfl)⟩ dL_loops_92 rfl ?_
            refine v_goto C0 99 dL_loops_95 (by decide) ?_
            refine v_iaddN C0 (pc' := 100) dL_loops_99 rfl ?_
            refine v_istore C0 (lv' := [(6, .int (nI (places_L1 + (sb (s_L_used xu xt (i_L1 / 6)) 16)))), (5, .int (nI (ends_L1 + ((sb ((xt i_L1) &&& (xt ((xf i_L1) - 1))) 16) + 0)))), (8, .int (nI ((xf i_L1) - 1))), (7, .int (nI i_L1)), (0, .ref ua), (1, .ref ta), (2, .ref fa), (3, .long (nJ live))]) (pc' := 102) (by decide) rfl dL_loops_100 rfl ?_
            refine v_iincN C0 (lv' := [(7, .int (nI (i_L1 + 1))), (6, .int (nI (places_L1 + (sb (s_L_used xu xt (i_L1 / 6)) 16)))), (5, .int (nI (ends_L1 + ((sb ((xt i_L1) &&& (xt ((xf i_L1) - 1))) 16) + 0)))), (8, .int (nI ((xf i_L1) - 1))), (0, .ref ua), (1, .ref ta), (2, .ref fa), (3, .long (nJ live))]) (y := 1) (pc' := 105) 3 rfl (by decide) rfl dL_loops_102 rfl ?_
            refine v_goto C0 9 dL_loops_105 (by decide) ?_
            have hb := ih_L1 (i_L1 + 1) (ends_L1 + ((sb ((xt i_L1) &&& (xt ((xf i_L1) - 1))) 16) + 0)) (places_L1 + (sb (s_L_used xu xt (i_L1 / 6)) 16)) (by omega) (by rw [lp_succ, ← hs_L1]; simp only [s_L_loops_L1, if_neg h2, if_pos h3, if_pos h5, if_pos h6]) (by have := ht i_L1; have := ht ((xf i_L1) - 1); have := hf i_L1; have := hlv i_L1 (by omega) h3; have := sb_le ((xt i_L1) &&& (xt ((xf i_L1) - 1))) 16; omega)
            exact v_sub (lv' := [(7, .int (nI (i_L1 + 1))), (5, .int (nI (ends_L1 + ((sb ((xt i_L1) &&& (xt ((xf i_L1) - 1))) 16) + 0)))), (6, .int (nI (places_L1 + (sb (s_L_used xu xt (i_L1 / 6)) 16)))), (0, .ref ua), (1, .ref ta), (2, .ref fa), (3, .long (nJ live))]) [0, 2, 1, 4, 5, 6, 7] rfl hb
        · refine v_aload_n C0 (pc' := 57) 4 rfl rfl dL_loops_56 rfl ?_
          refine v_iload C0 (pc' := 59) 0 rfl dL_loops_57 rfl ?_
          refine v_ialdN C0 hK (pc' := 60) 0 0 rfl rfl (by have := hf i_L1; have := hlv i_L1 (by omega) h3; omega) (by decide) dL_loops_59 rfl ?_
          refine v_if_leN C0 67 (pc' := 63) (by have := hu ((xf i_L1) - 1); have := hf i_L1; have := hlv i_L1 (by omega) h3; omega) dL_loops_60 (by decide) rfl (fun h7 => ?_) (fun h7 => ?_)
          · refine v_iconst C0 (pc' := 68) (nI 0) (by decide +kernel) dL_loops_67 rfl ?_
            refine v_iaddN C0 (pc' := 69) dL_loops_68 rfl ?_
            refine v_iaddN C0 (pc' := 70) dL_loops_69 rfl ?_
            refine v_istore C0 (lv' := [(5, .int (nI (ends_L1 + ((sb ((xt i_L1) &&& (xt ((xf i_L1) - 1))) 16) + 0)))), (8, .int (nI ((xf i_L1) - 1))), (7, .int (nI i_L1)), (6, .int (nI places_L1)), (0, .ref ua), (1, .ref ta), (2, .ref fa), (3, .long (nJ live))]) (pc' := 72) (by decide) rfl dL_loops_70 rfl ?_
            refine v_iload C0 (pc' := 74) 3 rfl dL_loops_72 rfl ?_
            refine v_iload C0 (pc' := 76) 2 rfl dL_loops_74 rfl ?_
            refine v_bipush C0 (pc' := 78) (nI 6) (by decide +kernel) dL_loops_76 rfl ?_
            refine v_iremN C0 (pc' := 79) (by have := hlv i_L1 (by omega) h3; omega) (by decide) (by decide) dL_loops_78 rfl ?_
            refine v_if_neN C0 98 (pc' := 82) (by have := hlv i_L1 (by omega) h3; omega) dL_loops_79 (by decide) rfl (fun h8 => ?_) (fun h8 => ?_)
            · refine v_iconst C0 (pc' := 99) (nI 0) (by decide +kernel) dL_loops_98 rfl ?_
              refine v_iaddN C0 (pc' := 100) dL_loops_99 rfl ?_
              refine v_istore C0 (lv' := [(6, .int (nI (places_L1 + 0))), (5, .int (nI (ends_L1 + ((sb ((xt i_L1) &&& (xt ((xf i_L1) - 1))) 16) + 0)))), (8, .int (nI ((xf i_L1) - 1))), (7, .int (nI i_L1)), (0, .ref ua), (1, .ref ta), (2, .ref fa), (3, .long (nJ live))]) (pc' := 102) (by decide) rfl dL_loops_100 rfl ?_
              refine v_iincN C0 (lv' := [(7, .int (nI (i_L1 + 1))), (6, .int (nI (places_L1 + 0))), (5, .int (nI (ends_L1 + ((sb ((xt i_L1) &&& (xt ((xf i_L1) - 1))) 16) + 0)))), (8, .int (nI ((xf i_L1) - 1))), (0, .ref ua), (1, .ref ta), (2, .ref fa), (3, .long (nJ live))]) (y := 1) (pc' := 105) 3 rfl (by decide) rfl dL_loops_102 rfl ?_
              refine v_goto C0 9 dL_loops_105 (by decide) ?_
              have hb := ih_L1 (i_L1 + 1) (ends_L1 + ((sb ((xt i_L1) &&& (xt ((xf i_L1) - 1))) 16) + 0)) (places_L1 + 0) (by omega) (by rw [lp_succ, ← hs_L1]; simp only [s_L_loops_L1, if_neg h2, if_pos h3, if_neg h5, if_pos h7, if_neg h8]) (by have := ht i_L1; have := ht ((xf i_L1) - 1); have := hf i_L1; have := hlv i_L1 (by omega) h3; have := sb_le ((xt i_L1) &&& (xt ((xf i_L1) - 1))) 16; omega)
              exact v_sub (lv' := [(7, .int (nI (i_L1 + 1))), (5, .int (nI (ends_L1 + ((sb ((xt i_L1) &&& (xt ((xf i_L1) - 1))) 16) + 0)))), (6, .int (nI (places_L1 + 0))), (0, .ref ua), (1, .ref ta), (2, .ref fa), (3, .long (nJ live))]) [0, 2, 1, 4, 5, 6, 7] rfl hb
            · refine v_aload_n C0 (pc' := 83) 4 rfl rfl dL_loops_82 rfl ?_
              refine v_aload_n C0 (pc' := 84) 5 rfl rfl dL_loops_83 rfl ?_
              refine v_iload C0 (pc' := 86) 2 rfl dL_loops_84 rfl ?_
              refine v_bipush C0 (pc' := 88) (nI 6) (by decide +kernel) dL_loops_86 rfl ?_
              refine v_idivN C0 (pc' := 89) (by have := hlv i_L1 (by omega) h3; omega) (by decide) (by decide) dL_loops_88 rfl ?_
              refine v_callSi C0 (av := [.ref ua, .ref ta, .int (nI (i_L1 / 6))]) (rest := [.int (nI places_L1)]) (ws' := [(ua, .inl (cI, 36, .inl (nA xu))), (ta, .inl (cI, 36, .inl (nA xt))), (fa, .inl (cI, 36, .inl (nA xf)))]) (pc' := 92) hK hA (k_L_used l D cI ua ta xu xt (i_L1 / 6) hu ht (by have := hlv i_L1 (by omega) h3; omega)) (va_cwS 3 C0.2.2.2.2 gL_loops_L_used rfl rfl rfl (by decide +kernel) ⟨Nat.le_of_ble_eq_true rfl, Nat.le_of_ble_eq_true rfl⟩) (PLs.of (isC := [0, 1]) (isR := [2]) (isP := [1, 2, 0]) (wr := [(fa, .inl (cI, 36, .inl (nA xf)))]) ⟨rfl, by decide, rfl, by decide, by decide, rfl, by decide⟩) rfl rfl (Nat.le_of_ble_eq_true rfl) ⟨(Nat.le_of_ble_eq_true rfl), (Nat.le_of_ble_eq_true rfl)⟩ dL_loops_89 rfl ?_
              refine v_callSi C0 (av := [.int (nI (s_L_used xu xt (i_L1 / 6)))]) (rest := [.int (nI places_L1)]) (ws' := [(ua, .inl (cI, 36, .inl (nA xu))), (ta, .inl (cI, 36, .inl (nA xt))), (fa, .inl (cI, 36, .inl (nA xf)))]) (pc' := 95) hK hA (k_L_bits l D cI (s_L_used xu xt (i_L1 / 6)) (lt_used hu ht)) (va_cwS 1 C0.2.2.2.2 gL_loops_L_bits rfl rfl rfl (by decide +kernel) ⟨Nat.le_of_ble_eq_true rfl, Nat.le_of_ble_eq_true rfl⟩) PLs.nil rfl rfl (Nat.le_of_ble_eq_true rfl) ⟨(Nat.le_of_ble_eq_true rfl), (Nat.le_of_ble_eq_true rfl)⟩ dL_loops_92 rfl ?_
              refine v_goto C0 99 dL_loops_95 (by decide) ?_
              refine v_iaddN C0 (pc' := 100) dL_loops_99 rfl ?_
              refine v_istore C0 (lv' := [(6, .int (nI (places_L1 + (sb (s_L_used xu xt (i_L1 / 6)) 16)))), (5, .int (nI (ends_L1 + ((sb ((xt i_L1) &&& (xt ((xf i_L1) - 1))) 16) + 0)))), (8, .int (nI ((xf i_L1) - 1))), (7, .int (nI i_L1)), (0, .ref ua), (1, .ref ta), (2, .ref fa), (3, .long (nJ live))]) (pc' := 102) (by decide) rfl dL_loops_100 rfl ?_
              refine v_iincN C0 (lv' := [(7, .int (nI (i_L1 + 1))), (6, .int (nI (places_L1 + (sb (s_L_used xu xt (i_L1 / 6)) 16)))), (5, .int (nI (ends_L1 + ((sb ((xt i_L1) &&& (xt ((xf i_L1) - 1))) 16) + 0)))), (8, .int (nI ((xf i_L1) - 1))), (0, .ref ua), (1, .ref ta), (2, .ref fa), (3, .long (nJ live))]) (y := 1) (pc' := 105) 3 rfl (by decide) rfl dL_loops_102 rfl ?_
              refine v_goto C0 9 dL_loops_105 (by decide) ?_
              have hb := ih_L1 (i_L1 + 1) (ends_L1 + ((sb ((xt i_L1) &&& (xt ((xf i_L1) - 1))) 16) + 0)) (places_L1 + (sb (s_L_used xu xt (i_L1 / 6)) 16)) (by omega) (by rw [lp_succ, ← hs_L1]; simp only [s_L_loops_L1, if_neg h2, if_pos h3, if_neg h5, if_pos h7, if_pos h8]) (by have := ht i_L1; have := ht ((xf i_L1) - 1); have := hf i_L1; have := hlv i_L1 (by omega) h3; have := sb_le ((xt i_L1) &&& (xt ((xf i_L1) - 1))) 16; omega)
              exact v_sub (lv' := [(7, .int (nI (i_L1 + 1))), (5, .int (nI (ends_L1 + ((sb ((xt i_L1) &&& (xt ((xf i_L1) - 1))) 16) + 0)))), (6, .int (nI (places_L1 + (sb (s_L_used xu xt (i_L1 / 6)) 16)))), (0, .ref ua), (1, .ref ta), (2, .ref fa), (3, .long (nJ live))]) [0, 2, 1, 4, 5, 6, 7] rfl hb
          · refine v_iconst C0 (pc' := 64) (nI 1) (by decide +kernel) dL_loops_63 rfl ?_
            refine v_goto C0 68 dL_loops_64 (by decide) ?_
            refine v_iaddN C0 (pc' := 69) dL_loops_68 rfl ?_
            refine v_iaddN C0 (pc' := 70) dL_loops_69 rfl ?_
            refine v_istore C0 (lv' := [(5, .int (nI (ends_L1 + ((sb ((xt i_L1) &&& (xt ((xf i_L1) - 1))) 16) + 1)))), (8, .int (nI ((xf i_L1) - 1))), (7, .int (nI i_L1)), (6, .int (nI places_L1)), (0, .ref ua), (1, .ref ta), (2, .ref fa), (3, .long (nJ live))]) (pc' := 72) (by decide) rfl dL_loops_70 rfl ?_
            refine v_iload C0 (pc' := 74) 3 rfl dL_loops_72 rfl ?_
            refine v_iload C0 (pc' := 76) 2 rfl dL_loops_74 rfl ?_
            refine v_bipush C0 (pc' := 78) (nI 6) (by decide +kernel) dL_loops_76 rfl ?_
            refine v_iremN C0 (pc' := 79) (by have := hlv i_L1 (by omega) h3; omega) (by decide) (by decide) dL_loops_78 rfl ?_
            refine v_if_neN C0 98 (pc' := 82) (by have := hlv i_L1 (by omega) h3; omega) dL_loops_79 (by decide) rfl (fun h9 => ?_) (fun h9 => ?_)
            · refine v_iconst C0 (pc' := 99) (nI 0) (by decide +kernel) dL_loops_98 rfl ?_
              refine v_iaddN C0 (pc' := 100) dL_loops_99 rfl ?_
              refine v_istore C0 (lv' := [(6, .int (nI (places_L1 + 0))), (5, .int (nI (ends_L1 + ((sb ((xt i_L1) &&& (xt ((xf i_L1) - 1))) 16) + 1)))), (8, .int (nI ((xf i_L1) - 1))), (7, .int (nI i_L1)), (0, .ref ua), (1, .ref ta), (2, .ref fa), (3, .long (nJ live))]) (pc' := 102) (by decide) rfl dL_loops_100 rfl ?_
              refine v_iincN C0 (lv' := [(7, .int (nI (i_L1 + 1))), (6, .int (nI (places_L1 + 0))), (5, .int (nI (ends_L1 + ((sb ((xt i_L1) &&& (xt ((xf i_L1) - 1))) 16) + 1)))), (8, .int (nI ((xf i_L1) - 1))), (0, .ref ua), (1, .ref ta), (2, .ref fa), (3, .long (nJ live))]) (y := 1) (pc' := 105) 3 rfl (by decide) rfl dL_loops_102 rfl ?_
              refine v_goto C0 9 dL_loops_105 (by decide) ?_
              have hb := ih_L1 (i_L1 + 1) (ends_L1 + ((sb ((xt i_L1) &&& (xt ((xf i_L1) - 1))) 16) + 1)) (places_L1 + 0) (by omega) (by rw [lp_succ, ← hs_L1]; simp only [s_L_loops_L1, if_neg h2, if_pos h3, if_neg h5, if_neg h7, if_neg h9]) (by have := ht i_L1; have := ht ((xf i_L1) - 1); have := hf i_L1; have := hlv i_L1 (by omega) h3; have := sb_le ((xt i_L1) &&& (xt ((xf i_L1) - 1))) 16; omega)
              exact v_sub (lv' := [(7, .int (nI (i_L1 + 1))), (5, .int (nI (ends_L1 + ((sb ((xt i_L1) &&& (xt ((xf i_L1) - 1))) 16) + 1)))), (6, .int (nI (places_L1 + 0))), (0, .ref ua), (1, .ref ta), (2, .ref fa), (3, .long (nJ live))]) [0, 2, 1, 4, 5, 6, 7] rfl hb
            · refine v_aload_n C0 (pc' := 83) 4 rfl rfl dL_loops_82 rfl ?_
              refine v_aload_n C0 (pc' := 84) 5 rfl rfl dL_loops_83 rfl ?_
              refine v_iload C0 (pc' := 86) 2 rfl dL_loops_84 rfl ?_
              refine v_bipush C0 (pc' := 88) (nI 6) (by decide +kernel) dL_loops_86 rfl ?_
              refine v_idivN C0 (pc' := 89) (by have := hlv i_L1 (by omega) h3; omega) (by decide) (by decide) dL_loops_88 rfl ?_
              refine v_callSi C0 (av := [.ref ua, .ref ta, .int (nI (i_L1 / 6))]) (rest := [.int (nI places_L1)]) (ws' := [(ua, .inl (cI, 36, .inl (nA xu))), (ta, .inl (cI, 36, .inl (nA xt))), (fa, .inl (cI, 36, .inl (nA xf)))]) (pc' := 92) hK hA (k_L_used l D cI ua ta xu xt (i_L1 / 6) hu ht (by have := hlv i_L1 (by omega) h3; omega)) (va_cwS 3 C0.2.2.2.2 gL_loops_L_used rfl rfl rfl (by decide +kernel) ⟨Nat.le_of_ble_eq_true rfl, Nat.le_of_ble_eq_true rfl⟩) (PLs.of (isC := [0, 1]) (isR := [2]) (isP := [1, 2, 0]) (wr := [(fa, .inl (cI, 36, .inl (nA xf)))]) ⟨rfl, by decide, rfl, by decide, by decide, rfl, by decide⟩) rfl rfl (Nat.le_of_ble_eq_true rfl) ⟨(Nat.le_of_ble_eq_true rfl), (Nat.le_of_ble_eq_true rfl)⟩ dL_loops_89 rfl ?_
              refine v_callSi C0 (av := [.int (nI (s_L_used xu xt (i_L1 / 6)))]) (rest := [.int (nI places_L1)]) (ws' := [(ua, .inl (cI, 36, .inl (nA xu))), (ta, .inl (cI, 36, .inl (nA xt))), (fa, .inl (cI, 36, .inl (nA xf)))]) (pc' := 95) hK hA (k_L_bits l D cI (s_L_used xu xt (i_L1 / 6)) (lt_used hu ht)) (va_cwS 1 C0.2.2.2.2 gL_loops_L_bits rfl rfl rfl (by decide +kernel) ⟨Nat.le_of_ble_eq_true rfl, Nat.le_of_ble_eq_true rfl⟩) PLs.nil rfl rfl (Nat.le_of_ble_eq_true rfl) ⟨(Nat.le_of_ble_eq_true rfl), (Nat.le_of_ble_eq_true rfl)⟩ dL_loops_92 rfl ?_
              refine v_goto C0 99 dL_loops_95 (by decide) ?_
              refine v_iaddN C0 (pc' := 100) dL_loops_99 rfl ?_
              refine v_istore C0 (lv' := [(6, .int (nI (places_L1 + (sb (s_L_used xu xt (i_L1 / 6)) 16)))), (5, .int (nI (ends_L1 + ((sb ((xt i_L1) &&& (xt ((xf i_L1) - 1))) 16) + 1)))), (8, .int (nI ((xf i_L1) - 1))), (7, .int (nI i_L1)), (0, .ref ua), (1, .ref ta), (2, .ref fa), (3, .long (nJ live))]) (pc' := 102) (by decide) rfl dL_loops_100 rfl ?_
              refine v_iincN C0 (lv' := [(7, .int (nI (i_L1 + 1))), (6, .int (nI (places_L1 + (sb (s_L_used xu xt (i_L1 / 6)) 16)))), (5, .int (nI (ends_L1 + ((sb ((xt i_L1) &&& (xt ((xf i_L1) - 1))) 16) + 1)))), (8, .int (nI ((xf i_L1) - 1))), (0, .ref ua), (1, .ref ta), (2, .ref fa), (3, .long (nJ live))]) (y := 1) (pc' := 105) 3 rfl (by decide) rfl dL_loops_102 rfl ?_
              refine v_goto C0 9 dL_loops_105 (by decide) ?_
              have hb := ih_L1 (i_L1 + 1) (ends_L1 + ((sb ((xt i_L1) &&& (xt ((xf i_L1) - 1))) 16) + 1)) (places_L1 + (sb (s_L_used xu xt (i_L1 / 6)) 16)) (by omega) (by rw [lp_succ, ← hs_L1]; simp only [s_L_loops_L1, if_neg h2, if_pos h3, if_neg h5, if_neg h7, if_pos h9]) (by have := ht i_L1; have := ht ((xf i_L1) - 1); have := hf i_L1; have := hlv i_L1 (by omega) h3; have := sb_le ((xt i_L1) &&& (xt ((xf i_L1) - 1))) 16; omega)
              exact v_sub (lv' := [(7, .int (nI (i_L1 + 1))), (5, .int (nI (ends_L1 + ((sb ((xt i_L1) &&& (xt ((xf i_L1) - 1))) 16) + 1)))), (6, .int (nI (places_L1 + (sb (s_L_used xu xt (i_L1 / 6)) 16)))), (0, .ref ua), (1, .ref ta), (2, .ref fa), (3, .long (nJ live))]) [0, 2, 1, 4, 5, 6, 7] rfl hb
theorem ac_L_changes : Cond.arrayClass .int ∈ wsL_changes := by decide +kernel
def s_L_changes_L1  (i_L1 : Nat) (da_L1 : Nat → Nat) : Nat → Nat := if (i_L1 % 7) = 0 then (updN da_L1 i_L1 0) else (updN da_L1 i_L1 9999)
def s_L_changes_J1 (xu : Nat → Nat) (xt : Nat → Nat) (xf : Nat → Nat) (one : Nat) (i_L2 : Nat) : Nat := if (xu i_L2) = (xu one) then (if (xu i_L2) = (xu ((xf i_L2) - 1)) then 0 else 9999) else (if (xu ((xf i_L2) - 1)) = (xu one) then (if (xu i_L2) = (xu ((xf i_L2) - 1)) then 0 else 9999) else ((2 - (((xt i_L2) / 2 ^ (xu one)) % 2)) - (((xt ((xf i_L2) - 1)) / 2 ^ (xu one)) % 2)))
theorem le_chJ {xu xt xf : Nat → Nat} {one i : Nat} : s_L_changes_J1 xu xt xf one i ≤ 9999 := by
  unfold s_L_changes_J1
  repeat' split
  all_goals omega
def s_L_changes_L2 (xu : Nat → Nat) (xt : Nat → Nat) (xf : Nat → Nat) (live : Nat) (one : Nat) (i_L2 : Nat) (da_L2 : Nat → Nat) : Nat → Nat := if ((live / 2 ^ i_L2) % 2) = 1 then (if (da_L2 (((i_L2 / 6) * 6) + (((xf i_L2) - 1) / 6))) ≤ (s_L_changes_J1 xu xt xf one i_L2) then (updN da_L2 (((i_L2 / 6) * 6) + (((xf i_L2) - 1) / 6)) (da_L2 (((i_L2 / 6) * 6) + (((xf i_L2) - 1) / 6)))) else (updN da_L2 (((i_L2 / 6) * 6) + (((xf i_L2) - 1) / 6)) (s_L_changes_J1 xu xt xf one i_L2))) else da_L2
def s_L_changes_L3  (i_L3 : Nat) (da_L3 : Nat → Nat) : Nat → Nat := if (da_L3 ((((i_L3 / 6) % 6) * 6) + (i_L3 % 6))) ≤ ((da_L3 ((((i_L3 / 6) % 6) * 6) + (i_L3 / 36))) + (da_L3 (((i_L3 / 36) * 6) + (i_L3 % 6)))) then (updN da_L3 ((((i_L3 / 6) % 6) * 6) + (i_L3 % 6)) (da_L3 ((((i_L3 / 6) % 6) * 6) + (i_L3 % 6)))) else (updN da_L3 ((((i_L3 / 6) % 6) * 6) + (i_L3 % 6)) ((da_L3 ((((i_L3 / 6) % 6) * 6) + (i_L3 / 36))) + (da_L3 (((i_L3 / 36) * 6) + (i_L3 % 6)))))
def s_L_changes (xu : Nat → Nat) (xt : Nat → Nat) (xf : Nat → Nat) (live : Nat) (one : Nat) (two : Nat) : Int32 := if (xu one) = 0 then (-1) else (if (xu two) = (xu one) then (if ((lp s_L_changes_L3 216 (lp (s_L_changes_L2 xu xt xf live one) 36 (lp s_L_changes_L1 36 (fun _ => 0)))) (((one / 6) * 6) + (two / 6))) ≤ 9000 then nI ((lp s_L_changes_L3 216 (lp (s_L_changes_L2 xu xt xf live one) 36 (lp s_L_changes_L1 36 (fun _ => 0)))) (((one / 6) * 6) + (two / 6))) else (-1)) else (-1))
set_option maxHeartbeats 4000000 in
set_option maxRecDepth 100000 in
theorem k_L_changes (l : Launch) (D : va_G) (cI : ClassId) (ua ta fa : Nat) (xu xt xf : Nat → Nat) (live one two : Nat) (hu : ∀ k, xu k ≤ 15) (ht : ∀ k, xt k < 65536) (hf : ∀ k, xf k ≤ 36) (hli : live < 2 ^ 36) (hlv : ∀ k, k < 36 → live / 2 ^ k % 2 = 1 → ¬ xf k = 0) (hOn : one < 36) (hTw : two < 36) : Ki l yL_changes wsL_changes 0 0 1 36 D (TI cI) [.ref ua, .ref ta, .ref fa, .long (nJ live), .int (nI one), .int (nI two)] ([(ua, .inl (cI, 36, .inl (nA xu))), (ta, .inl (cI, 36, .inl (nA xt))), (fa, .inl (cI, 36, .inl (nA xf)))]) ([(ua, .inl (cI, 36, .inl (nA xu))), (ta, .inl (cI, 36, .inl (nA xt))), (fa, .inl (cI, 36, .inl (nA xf)))]) (s_L_changes xu xt xf live one two) := by
  refine Ki.of (cc := cL_changes) (maxL := 13) (rt := .int) (lv0 := [(0, .ref ua), (1, .ref ta), (2, .ref fa), (3, .long (nJ live)), (5, .int (nI one)), (6, .int (nI two))]) (by decide +kernel) rfl (Nat.le_of_ble_eq_true rfl) rfl ?_
  intro p e s m args below meth c A C0 hr hlk hK hA
  refine v_aload_n C0 (pc' := 1) 0 rfl rfl dL_changes_0 rfl ?_
  refine v_iload C0 (pc' := 3) 4 rfl dL_changes_1 rfl ?_
  refine v_ialdN C0 hK (pc' := 4) 0 0 rfl rfl (by omega) (by decide) dL_changes_3 rfl ?_
  refine v_istore C0 (lv' := [(7, .int (nI (xu one))), (0, .ref ua), (1, .ref ta), (2, .ref fa), (3, .long (nJ live)), (5, .int (nI one)), (6, .int (nI two))]) (pc' := 6) (by decide) rfl dL_changes_4 rfl ?_
  refine v_iload C0 (pc' := 8) 0 rfl dL_changes_6 rfl ?_
  refine v_if_eqN C0 20 (pc' := 11) (by have := hu one; omega) dL_changes_8 (by decide) rfl (fun h1 => ?_) (fun h1 => ?_)
  · refine v_iconst C0 (pc' := 21) (-1) (by decide) dL_changes_20 rfl ?_
    refine v_widen (k2 := 1) (n2 := 36) (Nat.le_of_ble_eq_true rfl) (Nat.le_of_ble_eq_true rfl) ?_
    exact v_iret C0 hr hlk hK (by simp only [s_L_changes, if_pos h1]) dL_changes_21
  · refine v_aload_n C0 (pc' := 12) 1 rfl rfl dL_changes_11 rfl ?_
    refine v_iload C0 (pc' := 14) 6 rfl dL_changes_12 rfl ?_
    refine v_ialdN C0 hK (pc' := 15) 0 0 rfl rfl (by omega) (by decide) dL_changes_14 rfl ?_
    refine v_iload C0 (pc' := 17) 0 rfl dL_changes_15 rfl ?_
    refine v_icmp_eqN C0 22 (pc' := 20) (by have := hu two; omega) (by have := hu one; omega) dL_changes_17 (by decide) rfl (fun h2 => ?_) (fun h2 => ?_)
    · refine v_bipush C0 (pc' := 24) (nI 36) (by decide +kernel) dL_changes_22 rfl ?_
      refine v_newN C0 hK hA 0 rfl (N := 36) (pc' := 26) (k' := 1) (n' := 36) (by decide) (Nat.le_of_ble_eq_true rfl) (Nat.le_of_ble_eq_true rfl) ac_L_changes dL_changes_24 rfl rfl rfl (fun da => ?_)
      refine v_astore C0 (lv' := [(8, .ref da), (7, .int (nI (xu one))), (0, .ref ua), (1, .ref ta), (2, .ref fa), (3, .long (nJ live)), (5, .int (nI one)), (6, .int (nI two))]) (pc' := 28) (by decide) rfl dL_changes_26 rfl ?_
      refine v_iconst C0 (pc' := 29) (nI 0) (by decide +kernel) dL_changes_28 rfl ?_
      refine v_istore C0 (lv' := [(9, .int (nI 0)), (8, .ref da), (7, .int (nI (xu one))), (0, .ref ua), (1, .ref ta), (2, .ref fa), (3, .long (nJ live)), (5, .int (nI one)), (6, .int (nI two))]) (pc' := 31) (by decide) rfl dL_changes_29 rfl ?_
      suffices LP_L1 : ∀ (j_L1 i_L1 : Nat) (da_L1 : Nat → Nat), i_L1 + j_L1 = 36 → da_L1 = lp s_L_changes_L1 i_L1 (fun _ => 0) → (∀ k, da_L1 k ≤ 9999) → V p l e { frames := 0, cells := 1, slots := 36, locals := 0 } s m args below meth c D A 13 1 36 (MQ below (QI D (TI cI) ([(ua, .inl (cI, 36, .inl (nA xu))), (ta, .inl (cI, 36, .inl (nA xt))), (fa, .inl (cI, 36, .inl (nA xf)))]) A (s_L_changes xu xt xf live one two)) args s 1 36 A) ([(da, .inl (cI, 36, .inl (nA da_L1))), (ua, .inl (cI, 36, .inl (nA xu))), (ta, .inl (cI, 36, .inl (nA xt))), (fa, .inl (cI, 36, .inl (nA xf)))]) [(9, .int (nI i_L1)), (8, .ref da), (7, .int (nI (xu one))), (0, .ref ua), (1, .ref ta), (2, .ref fa), (3, .long (nJ live)), (5, .int (nI one)), (6, .int (nI two))] 31 [] by
        have h0_L1 := LP_L1 36 0 (fun _ => 0) (Nat.zero_add _) (lp_zero _ _).symm (fun _ => Nat.zero_le _)
        exact v_sub (lv' := [(9, .int (nI 0)), (8, .ref da), (7, .int (nI (xu one))), (0, .ref ua), (1, .ref ta), (2, .ref fa), (3, .long (nJ live)), (5, .int (nI one)), (6, .int (nI two))]) [0, 1, 2, 3, 4, 5, 6, 7, 8] rfl h0_L1
      intro j_L1
      induction j_L1 with
      | zero =>
        intro i_L1 da_L1 hi_L1 hs_L1 hd_L1
        have hi_L1 : 36 = i_L1 := by omega
        subst hi_L1
        refine v_iload C0 (pc' := 33) 0 rfl dL_changes_31 rfl ?_
        refine v_bipush C0 (pc' := 35) (nI 36) (by decide +kernel) dL_changes_33 rfl ?_
        refine v_icmp_geN C0 64 (pc' := 38) (by omega) (by omega) dL_changes_35 (by decide) rfl (fun h3 => ?_) (fun h3 => ?_)
        · refine v_iconst C0 (pc' := 65) (nI 0) (by decide +kernel) dL_changes_64 rfl ?_
          refine v_istore C0 (lv' := [(9, .int (nI 0)), (8, .ref da), (7, .int (nI (xu one))), (0, .ref ua), (1, .ref ta), (2, .ref fa), (3, .long (nJ live)), (5, .int (nI one)), (6, .int (nI two))]) (pc' := 67) (by decide) rfl dL_changes_65 rfl ?_
          suffices LP_L2 : ∀ (j_L2 i_L2 : Nat) (da_L2 : Nat → Nat), i_L2 + j_L2 = 36 → da_L2 = lp (s_L_changes_L2 xu xt xf live one) i_L2 da_L1 → (∀ k, da_L2 k ≤ 9999) → V p l e { frames := 0, cells := 1, slots := 36, locals := 0 } s m args below meth c D A 13 1 36 (MQ below (QI D (TI cI) ([(ua, .inl (cI, 36, .inl (nA xu))), (ta, .inl (cI, 36, .inl (nA xt))), (fa, .inl (cI, 36, .inl (nA xf)))]) A (s_L_changes xu xt xf live one two)) args s 1 36 A) ([(da, .inl (cI, 36, .inl (nA da_L2))), (ua, .inl (cI, 36, .inl (nA xu))), (ta, .inl (cI, 36, .inl (nA xt))), (fa, .inl (cI, 36, .inl (nA xf)))]) [(9, .int (nI i_L2)), (8, .ref da), (7, .int (nI (xu one))), (0, .ref ua), (1, .ref ta), (2, .ref fa), (3, .long (nJ live)), (5, .int (nI one)), (6, .int (nI two))] 67 [] by
            have h0_L2 := LP_L2 36 0 da_L1 (Nat.zero_add _) (lp_zero _ _).symm hd_L1
            exact v_sub (lv' := [(9, .int (nI 0)), (8, .ref da), (7, .int (nI (xu one))), (0, .ref ua), (1, .ref ta), (2, .ref fa), (3, .long (nJ live)), (5, .int (nI one)), (6, .int (nI two))]) [0, 1, 2, 3, 4, 5, 6, 7, 8] rfl h0_L2
          intro j_L2
          induction j_L2 with
          | zero =>
            intro i_L2 da_L2 hi_L2 hs_L2 hd_L2
            have hi_L2 : 36 = i_L2 := by omega
            subst hi_L2
            refine v_iload C0 (pc' := 69) 0 rfl dL_changes_67 rfl ?_
            refine v_bipush C0 (pc' := 71) (nI 36) (by decide +kernel) dL_changes_69 rfl ?_
            refine v_icmp_geN C0 206 (pc' := 74) (by omega) (by omega) dL_changes_71 (by decide) rfl (fun h4 => ?_) (fun h4 => ?_)
            · refine v_iconst C0 (pc' := 207) (nI 0) (by decide +kernel) dL_changes_206 rfl ?_
              refine v_istore C0 (lv' := [(9, .int (nI 0)), (8, .ref da), (7, .int (nI (xu one))), (0, .ref ua), (1, .ref ta), (2, .ref fa), (3, .long (nJ live)), (5, .int (nI one)), (6, .int (nI two))]) (pc' := 209) (by decide) rfl dL_changes_207 rfl ?_
              suffices LP_L3 : ∀ (j_L3 i_L3 : Nat) (da_L3 : Nat → Nat), i_L3 + j_L3 = 216 → da_L3 = lp s_L_changes_L3 i_L3 da_L2 → (∀ k, da_L3 k ≤ 9999) → V p l e { frames := 0, cells := 1, slots := 36, locals := 0 } s m args below meth c D A 13 1 36 (MQ below (QI D (TI cI) ([(ua, .inl (cI, 36, .inl (nA xu))), (ta, .inl (cI, 36, .inl (nA xt))), (fa, .inl (cI, 36, .inl (nA xf)))]) A (s_L_changes xu xt xf live one two)) args s 1 36 A) ([(da, .inl (cI, 36, .inl (nA da_L3))), (ua, .inl (cI, 36, .inl (nA xu))), (ta, .inl (cI, 36, .inl (nA xt))), (fa, .inl (cI, 36, .inl (nA xf)))]) [(9, .int (nI i_L3)), (8, .ref da), (7, .int (nI (xu one))), (0, .ref ua), (1, .ref ta), (2, .ref fa), (3, .long (nJ live)), (5, .int (nI one)), (6, .int (nI two))] 209 [] by
                have h0_L3 := LP_L3 216 0 da_L2 (Nat.zero_add _) (lp_zero _ _).symm hd_L2
                exact v_sub (lv' := [(9, .int (nI 0)), (8, .ref da), (7, .int (nI (xu one))), (0, .ref ua), (1, .ref ta), (2, .ref fa), (3, .long (nJ live)), (5, .int (nI one)), (6, .int (nI two))]) [0, 1, 2, 3, 4, 5, 6, 7, 8] rfl h0_L3
              intro j_L3
              induction j_L3 with
              | zero =>
                intro i_L3 da_L3 hi_L3 hs_L3 hd_L3
                have hi_L3 : 216 = i_L3 := by omega
                subst hi_L3
                refine v_iload C0 (pc' := 211) 0 rfl dL_changes_209 rfl ?_
                refine v_sipush C0 (pc' := 214) (nI 216) (by decide +kernel) dL_changes_211 rfl ?_
                refine v_icmp_geN C0 333 (pc' := 217) (by omega) (by omega) dL_changes_214 (by decide) rfl (fun h5 => ?_) (fun h5 => ?_)
                · refine v_aload C0 (pc' := 335) 1 rfl dL_changes_333 rfl ?_
                  refine v_iload C0 (pc' := 337) 7 rfl dL_changes_335 rfl ?_
                  refine v_bipush C0 (pc' := 339) (nI 6) (by decide +kernel) dL_changes_337 rfl ?_
                  refine v_idivN C0 (pc' := 340) (by omega) (by decide) (by decide) dL_changes_339 rfl ?_
                  refine v_bipush C0 (pc' := 342) (nI 6) (by decide +kernel) dL_changes_340 rfl ?_
                  refine v_imulN C0 (pc' := 343) dL_changes_342 rfl ?_
                  refine v_iload C0 (pc' := 345) 8 rfl dL_changes_343 rfl ?_
                  refine v_bipush C0 (pc' := 347) (nI 6) (by decide +kernel) dL_changes_345 rfl ?_
                  refine v_idivN C0 (pc' := 348) (by omega) (by decide) (by decide) dL_changes_347 rfl ?_
                  refine v_iaddN C0 (pc' := 349) dL_changes_348 rfl ?_
                  refine v_ialdN C0 hK (pc' := 350) 0 0 rfl rfl (by omega) (by decide) dL_changes_349 rfl ?_
                  refine v_istore C0 (lv' := [(9, .int (nI (da_L3 (((one / 6) * 6) + (two / 6))))), (8, .ref da), (7, .int (nI (xu one))), (0, .ref ua), (1, .ref ta), (2, .ref fa), (3, .long (nJ live)), (5, .int (nI one)), (6, .int (nI two))]) (pc' := 352) (by decide) rfl dL_changes_350 rfl ?_
                  refine v_iload C0 (pc' := 354) 0 rfl dL_changes_352 rfl ?_
                  refine v_sipush C0 (pc' := 357) (nI 9000) (by decide +kernel) dL_changes_354 rfl ?_
                  refine v_icmp_leN C0 364 (pc' := 360) (by have := hd_L3 (((one / 6) * 6) + (two / 6)); omega) (by omega) dL_changes_357 (by decide) rfl (fun h6 => ?_) (fun h6 => ?_)
                  · refine v_iload C0 (pc' := 366) 0 rfl dL_changes_364 rfl ?_
                    refine v_tail ?_
                    exact v_iret C0 hr hlk hK (by simp only [s_L_changes, if_neg h1, if_pos h2, if_pos h6, ← hs_L1, ← hs_L2, ← hs_L3]) dL_changes_366
                  · refine v_iconst C0 (pc' := 361) (-1) (by decide) dL_changes_360 rfl ?_
                    refine v_goto C0 366 dL_changes_361 (by decide) ?_
                    refine v_tail ?_
                    exact v_iret C0 hr hlk hK (by simp only [s_L_changes, if_neg h1, if_pos h2, if_neg h6, ← hs_L1, ← hs_L2, ← hs_L3]) dL_changes_366
                · exact absurd (by omega) h5
              | succ j_L3 ih_L3 =>
                intro i_L3 da_L3 hi_L3 hs_L3 hd_L3
                refine v_iload C0 (pc' := 211) 0 rfl dL_changes_209 rfl ?_
                refine v_sipush C0 (pc' := 214) (nI 216) (by decide +kernel) dL_changes_211 rfl ?_
                refine v_icmp_geN C0 333 (pc' := 217) (by omega) (by omega) dL_changes_214 (by decide) rfl (fun h7 => ?_) (fun h7 => ?_)
                · exact absurd h7 (by omega)
                · refine v_aload C0 (pc' := 219) 1 rfl dL_changes_217 rfl ?_
                  refine v_iload C0 (pc' := 221) 0 rfl dL_changes_219 rfl ?_
                  refine v_bipush C0 (pc' := 223) (nI 6) (by decide +kernel) dL_changes_221 rfl ?_
                  refine v_idivN C0 (pc' := 224) (by omega) (by decide) (by decide) dL_changes_223 rfl ?_
                  refine v_bipush C0 (pc' := 226) (nI 6) (by decide +kernel) dL_changes_224 rfl ?_
                  refine v_iremN C0 (pc' := 227) (by omega) (by decide) (by decide) dL_changes_226 rfl ?_
                  refine v_bipush C0 (pc' := 229) (nI 6) (by decide +kernel) dL_changes_227 rfl ?_
                  refine v_imulN C0 (pc' := 230) dL_changes_229 rfl ?_
                  refine v_iload C0 (pc' := 232) 0 rfl dL_changes_230 rfl ?_
                  refine v_bipush C0 (pc' := 234) (nI 36) (by decide +kernel) dL_changes_232 rfl ?_
                  refine v_idivN C0 (pc' := 235) (by omega) (by decide) (by decide) dL_changes_234 rfl ?_
                  refine v_iaddN C0 (pc' := 236) dL_changes_235 rfl ?_
                  refine v_ialdN C0 hK (pc' := 237) 0 0 rfl rfl (by omega) (by decide) dL_changes_236 rfl ?_
                  refine v_aload C0 (pc' := 239) 1 rfl dL_changes_237 rfl ?_
                  refine v_iload C0 (pc' := 241) 0 rfl dL_changes_239 rfl ?_
                  refine v_bipush C0 (pc' := 243) (nI 36) (by decide +kernel) dL_changes_241 rfl ?_
                  refine v_idivN C0 (pc' := 244) (by omega) (by decide) (by decide) dL_changes_243 rfl ?_
                  refine v_bipush C0 (pc' := 246) (nI 6) (by decide +kernel) dL_changes_244 rfl ?_
                  refine v_imulN C0 (pc' := 247) dL_changes_246 rfl ?_
                  refine v_iload C0 (pc' := 249) 0 rfl dL_changes_247 rfl ?_
                  refine v_bipush C0 (pc' := 251) (nI 6) (by decide +kernel) dL_changes_249 rfl ?_
                  refine v_iremN C0 (pc' := 252) (by omega) (by decide) (by decide) dL_changes_251 rfl ?_
                  refine v_iaddN C0 (pc' := 253) dL_changes_252 rfl ?_
                  refine v_ialdN C0 hK (pc' := 254) 0 0 rfl rfl (by omega) (by decide) dL_changes_253 rfl ?_
                  refine v_iaddN C0 (pc' := 255) dL_changes_254 rfl ?_
                  refine v_istore C0 (lv' := [(10, .int (nI ((da_L3 ((((i_L3 / 6) % 6) * 6) + (i_L3 / 36))) + (da_L3 (((i_L3 / 36) * 6) + (i_L3 % 6)))))), (9, .int (nI i_L3)), (8, .ref da), (7, .int (nI (xu one))), (0, .ref ua), (1, .ref ta), (2, .ref fa), (3, .long (nJ live)), (5, .int (nI one)), (6, .int (nI two))]) (pc' := 257) (by decide) rfl dL_changes_255 rfl ?_
                  refine v_aload C0 (pc' := 259) 2 rfl dL_changes_257 rfl ?_
                  refine v_iload C0 (pc' := 261) 1 rfl dL_changes_259 rfl ?_
                  refine v_bipush C0 (pc' := 263) (nI 6) (by decide +kernel) dL_changes_261 rfl ?_
                  refine v_idivN C0 (pc' := 264) (by omega) (by decide) (by decide) dL_changes_263 rfl ?_
                  refine v_bipush C0 (pc' := 266) (nI 6) (by decide +kernel) dL_changes_264 rfl ?_
                  refine v_iremN C0 (pc' := 267) (by omega) (by decide) (by decide) dL_changes_266 rfl ?_
                  refine v_bipush C0 (pc' := 269) (nI 6) (by decide +kernel) dL_changes_267 rfl ?_
                  refine v_imulN C0 (pc' := 270) dL_changes_269 rfl ?_
                  refine v_iload C0 (pc' := 272) 1 rfl dL_changes_270 rfl ?_
                  refine v_bipush C0 (pc' := 274) (nI 6) (by decide +kernel) dL_changes_272 rfl ?_
                  refine v_iremN C0 (pc' := 275) (by omega) (by decide) (by decide) dL_changes_274 rfl ?_
                  refine v_iaddN C0 (pc' := 276) dL_changes_275 rfl ?_
                  refine v_iload C0 (pc' := 278) 0 rfl dL_changes_276 rfl ?_
                  refine v_aload C0 (pc' := 280) 2 rfl dL_changes_278 rfl ?_
                  refine v_iload C0 (pc' := 282) 1 rfl dL_changes_280 rfl ?_
                  refine v_bipush C0 (pc' := 284) (nI 6) (by decide +kernel) dL_changes_282 rfl ?_
                  refine v_idivN C0 (pc' := 285) (by omega) (by decide) (by decide) dL_changes_284 rfl ?_
                  refine v_bipush C0 (pc' := 287) (nI 6) (by decide +kernel) dL_changes_285 rfl ?_
                  refine v_iremN C0 (pc' := 288) (by omega) (by decide) (by decide) dL_changes_287 rfl ?_
                  refine v_bipush C0 (pc' := 290) (nI 6) (by decide +kernel) dL_changes_288 rfl ?_
                  refine v_imulN C0 (pc' := 291) dL_changes_290 rfl ?_
                  refine v_iload C0 (pc' := 293) 1 rfl dL_changes_291 rfl ?_
                  refine v_bipush C0 (pc' := 295) (nI 6) (by decide +kernel) dL_changes_293 rfl ?_
                  refine v_iremN C0 (pc' := 296) (by omega) (by decide) (by decide) dL_changes_295 rfl ?_
                  refine v_iaddN C0 (pc' := 297) dL_changes_296 rfl ?_
                  refine v_ialdN C0 hK (pc' := 298) 0 0 rfl rfl (by omega) (by decide) dL_changes_297 rfl ?_
                  refine v_icmp_geN C0 306 (pc' := 301) (by have := hd_L3 ((((i_L3 / 6) % 6) * 6) + (i_L3 / 36)); have := hd_L3 (((i_L3 / 36) * 6) + (i_L3 % 6)); omega) (by have := hd_L3 ((((i_L3 / 6) % 6) * 6) + (i_L3 % 6)); omega) dL_changes_298 (by decide) rfl (fun h8 => ?_) (fun h8 => ?_)
                  · refine v_aload C0 (pc' := 308) 2 rfl dL_changes_306 rfl ?_
                    refine v_iload C0 (pc' := 310) 1 rfl dL_changes_308 rfl ?_
                    refine v_bipush C0 (pc' := 312) (nI 6) (by decide +kernel) dL_changes_310 rfl ?_
                    refine v_idivN C0 (pc' := 313) (by omega) (by decide) (by decide) dL_changes_312 rfl ?_
                    refine v_bipush C0 (pc' := 315) (nI 6) (by decide +kernel) dL_changes_313 rfl ?_
                    refine v_iremN C0 (pc' := 316) (by omega) (by decide) (by decide) dL_changes_315 rfl ?_
                    refine v_bipush C0 (pc' := 318) (nI 6) (by decide +kernel) dL_changes_316 rfl ?_
                    refine v_imulN C0 (pc' := 319) dL_changes_318 rfl ?_
                    refine v_iload C0 (pc' := 321) 1 rfl dL_changes_319 rfl ?_
                    refine v_bipush C0 (pc' := 323) (nI 6) (by decide +kernel) dL_changes_321 rfl ?_
                    refine v_iremN C0 (pc' := 324) (by omega) (by decide) (by decide) dL_changes_323 rfl ?_
                    refine v_iaddN C0 (pc' := 325) dL_changes_324 rfl ?_
                    refine v_ialdN C0 hK (pc' := 326) 0 0 rfl rfl (by omega) (by decide) dL_changes_325 rfl ?_
                    refine v_iastN C0 hK (ws' := [(da, .inl (cI, 36, .inl (nA (updN da_L3 ((((i_L3 / 6) % 6) * 6) + (i_L3 % 6)) (da_L3 ((((i_L3 / 6) % 6) * 6) + (i_L3 % 6))))))), (ua, .inl (cI, 36, .inl (nA xu))), (ta, .inl (cI, 36, .inl (nA xt))), (fa, .inl (cI, 36, .inl (nA xf)))]) (pc' := 327) 0 0 rfl rfl rfl (by omega) (by decide) dL_changes_326 rfl ?_
                    refine v_iincN C0 (lv' := [(9, .int (nI (i_L3 + 1))), (10, .int (nI ((da_L3 ((((i_L3 / 6) % 6) * 6) + (i_L3 / 36))) + (da_L3 (((i_L3 / 36) * 6) + (i_L3 % 6)))))), (8, .ref da), (7, .int (nI (xu one))), (0, .ref ua), (1, .ref ta), (2, .ref fa), (3, .long (nJ live)), (5, .int (nI one)), (6, .int (nI two))]) (y := 1) (pc' := 330) 1 rfl (by decide) rfl dL_changes_327 rfl ?_
                    refine v_goto C0 209 dL_changes_330 (by decide) ?_
                    have hb := ih_L3 (i_L3 + 1) (updN da_L3 ((((i_L3 / 6) % 6) * 6) + (i_L3 % 6)) (da_L3 ((((i_L3 / 6) % 6) * 6) + (i_L3 % 6)))) (by omega) (by rw [lp_succ, ← hs_L3]; simp only [s_L_changes_L3, if_neg h7, if_pos h8]) (updN_le hd_L3 (by have := hd_L3 ((((i_L3 / 6) % 6) * 6) + (i_L3 % 6)); have := hd_L3 ((((i_L3 / 6) % 6) * 6) + (i_L3 / 36)); have := hd_L3 (((i_L3 / 36) * 6) + (i_L3 % 6)); have := hu two; have := hu one; omega))
                    exact v_sub (lv' := [(9, .int (nI (i_L3 + 1))), (8, .ref da), (7, .int (nI (xu one))), (0, .ref ua), (1, .ref ta), (2, .ref fa), (3, .long (nJ live)), (5, .int (nI one)), (6, .int (nI two))]) [0, 2, 3, 4, 5, 6, 7, 8, 9] rfl hb
                  · refine v_iload C0 (pc' := 303) 0 rfl dL_changes_301 rfl ?_
                    refine v_goto C0 326 dL_changes_303 (by decide) ?_
                    refine v_iastN C0 hK (ws' := [(da, .inl (cI, 36, .inl (nA (updN da_L3 ((((i_L3 / 6) % 6) * 6) + (i_L3 % 6)) ((da_L3 ((((i_L3 / 6) % 6) * 6) + (i_L3 / 36))) + (da_L3 (((i_L3 / 36) * 6) + (i_L3 % 6)))))))), (ua, .inl (cI, 36, .inl (nA xu))), (ta, .inl (cI, 36, .inl (nA xt))), (fa, .inl (cI, 36, .inl (nA xf)))]) (pc' := 327) 0 0 rfl rfl rfl (by omega) (by decide) dL_changes_326 rfl ?_
                    refine v_iincN C0 (lv' := [(9, .int (nI (i_L3 + 1))), (10, .int (nI ((da_L3 ((((i_L3 / 6) % 6) * 6) + (i_L3 / 36))) + (da_L3 (((i_L3 / 36) * 6) + (i_L3 % 6)))))), (8, .ref da), (7, .int (nI (xu one))), (0, .ref ua), (1, .ref ta), (2, .ref fa), (3, .long (nJ live)), (5, .int (nI one)), (6, .int (nI two))]) (y := 1) (pc' := 330) 1 rfl (by decide) rfl dL_changes_327 rfl ?_
                    refine v_goto C0 209 dL_changes_330 (by decide) ?_
                    have hb := ih_L3 (i_L3 + 1) (updN da_L3 ((((i_L3 / 6) % 6) * 6) + (i_L3 % 6)) ((da_L3 ((((i_L3 / 6) % 6) * 6) + (i_L3 / 36))) + (da_L3 (((i_L3 / 36) * 6) + (i_L3 % 6))))) (by omega) (by rw [lp_succ, ← hs_L3]; simp only [s_L_changes_L3, if_neg h7, if_neg h8]) (updN_le hd_L3 (by have := hd_L3 ((((i_L3 / 6) % 6) * 6) + (i_L3 % 6)); have := hd_L3 ((((i_L3 / 6) % 6) * 6) + (i_L3 / 36)); have := hd_L3 (((i_L3 / 36) * 6) + (i_L3 % 6)); have := hu two; have := hu one; omega))
                    exact v_sub (lv' := [(9, .int (nI (i_L3 + 1))), (8, .ref da), (7, .int (nI (xu one))), (0, .ref ua), (1, .ref ta), (2, .ref fa), (3, .long (nJ live)), (5, .int (nI one)), (6, .int (nI two))]) [0, 2, 3, 4, 5, 6, 7, 8, 9] rfl hb
            · exact absurd (by omega) h4
          | succ j_L2 ih_L2 =>
            intro i_L2 da_L2 hi_L2 hs_L2 hd_L2
            refine v_iload C0 (pc' := 69) 0 rfl dL_changes_67 rfl ?_
            refine v_bipush C0 (pc' := 71) (nI 36) (by decide +kernel) dL_changes_69 rfl ?_
            refine v_icmp_geN C0 206 (pc' := 74) (by omega) (by omega) dL_changes_71 (by decide) rfl (fun h9 => ?_) (fun h9 => ?_)
            · exact absurd h9 (by omega)
            · refine v_lload_n C0 (pc' := 75) 6 rfl rfl dL_changes_74 rfl ?_
              refine v_iload C0 (pc' := 77) 0 rfl dL_changes_75 rfl ?_
              refine v_lshrN C0 (pc' := 78) (by omega) (by omega) dL_changes_77 rfl ?_
              refine v_lconst C0 (pc' := 79) 1 rfl dL_changes_78 rfl ?_
              refine v_land1 C0 (pc' := 80) dL_changes_79 rfl ?_
              refine v_lconst C0 (pc' := 81) 1 rfl dL_changes_80 rfl ?_
              refine v_lc1 C0 200 (pc1 := 82) (pc' := 85) (by omega) dL_changes_81 rfl dL_changes_82 (by decide) rfl (fun h10 => ?_) (fun h10 => ?_)
              · refine v_iincN C0 (lv' := [(9, .int (nI (i_L2 + 1))), (8, .ref da), (7, .int (nI (xu one))), (0, .ref ua), (1, .ref ta), (2, .ref fa), (3, .long (nJ live)), (5, .int (nI one)), (6, .int (nI two))]) (y := 1) (pc' := 203) 0 rfl (by decide) rfl dL_changes_200 rfl ?_
                refine v_goto C0 67 dL_changes_203 (by decide) ?_
                have hb := ih_L2 (i_L2 + 1) da_L2 (by omega) (by rw [lp_succ, ← hs_L2]; simp only [s_L_changes_L2, if_neg h9, if_neg h10]) hd_L2
                exact v_sub (lv' := [(9, .int (nI (i_L2 + 1))), (8, .ref da), (7, .int (nI (xu one))), (0, .ref ua), (1, .ref ta), (2, .ref fa), (3, .long (nJ live)), (5, .int (nI one)), (6, .int (nI two))]) [0, 1, 2, 3, 4, 5, 6, 7, 8] rfl hb
              · refine v_aload_n C0 (pc' := 86) 5 rfl rfl dL_changes_85 rfl ?_
                refine v_iload C0 (pc' := 88) 0 rfl dL_changes_86 rfl ?_
                refine v_ialdN C0 hK (pc' := 89) 3 0 rfl rfl (by have := hlv i_L2 (by omega) h10; omega) (by decide) dL_changes_88 rfl ?_
                refine v_iconst C0 (pc' := 90) (nI 1) (by decide +kernel) dL_changes_89 rfl ?_
                refine v_isubN C0 (pc' := 91) (by have := hf i_L2; have := hlv i_L2 (by omega) h10; omega) dL_changes_90 rfl ?_
                refine v_istore C0 (lv' := [(10, .int (nI ((xf i_L2) - 1))), (9, .int (nI i_L2)), (8, .ref da), (7, .int (nI (xu one))), (0, .ref ua), (1, .ref ta), (2, .ref fa), (3, .long (nJ live)), (5, .int (nI one)), (6, .int (nI two))]) (pc' := 93) (by decide) rfl dL_changes_91 rfl ?_
                refine v_iload C0 (pc' := 95) 1 rfl dL_changes_93 rfl ?_
                refine v_bipush C0 (pc' := 97) (nI 6) (by decide +kernel) dL_changes_95 rfl ?_
                refine v_idivN C0 (pc' := 98) (by have := hlv i_L2 (by omega) h10; omega) (by decide) (by decide) dL_changes_97 rfl ?_
                refine v_bipush C0 (pc' := 100) (nI 6) (by decide +kernel) dL_changes_98 rfl ?_
                refine v_imulN C0 (pc' := 101) dL_changes_100 rfl ?_
                refine v_iload C0 (pc' := 103) 0 rfl dL_changes_101 rfl ?_
                refine v_bipush C0 (pc' := 105) (nI 6) (by decide +kernel) dL_changes_103 rfl ?_
                refine v_idivN C0 (pc' := 106) (by have := hf i_L2; have := hlv i_L2 (by omega) h10; omega) (by decide) (by decide) dL_changes_105 rfl ?_
                refine v_iaddN C0 (pc' := 107) dL_changes_106 rfl ?_
                refine v_istore C0 (lv' := [(11, .int (nI (((i_L2 / 6) * 6) + (((xf i_L2) - 1) / 6)))), (10, .int (nI ((xf i_L2) - 1))), (9, .int (nI i_L2)), (8, .ref da), (7, .int (nI (xu one))), (0, .ref ua), (1, .ref ta), (2, .ref fa), (3, .long (nJ live)), (5, .int (nI one)), (6, .int (nI two))]) (pc' := 109) (by decide) rfl dL_changes_107 rfl ?_
                refine v_iconst C0 (pc' := 110) (nI 2) (by decide +kernel) dL_changes_109 rfl ?_
                refine v_aload_n C0 (pc' := 111) 6 rfl rfl dL_changes_110 rfl ?_
                refine v_iload C0 (pc' := 113) 2 rfl dL_changes_111 rfl ?_
                refine v_ialdN C0 hK (pc' := 114) 2 0 rfl rfl (by have := hlv i_L2 (by omega) h10; omega) (by decide) dL_changes_113 rfl ?_
                refine v_iload C0 (pc' := 116) 4 rfl dL_changes_114 rfl ?_
                refine v_ishrN C0 (pc' := 117) (by have := ht i_L2; have := hlv i_L2 (by omega) h10; omega) (by have := hu one; have := hlv i_L2 (by omega) h10; omega) dL_changes_116 rfl ?_
                refine v_iconst C0 (pc' := 118) (nI 1) (by decide +kernel) dL_changes_117 rfl ?_
                refine v_iand1 C0 (pc' := 119) dL_changes_118 rfl ?_
                refine v_isubN C0 (pc' := 120) (by have := hu one; have := ht i_L2; have := hlv i_L2 (by omega) h10; omega) dL_changes_119 rfl ?_
                refine v_aload_n C0 (pc' := 121) 6 rfl rfl dL_changes_120 rfl ?_
                refine v_iload C0 (pc' := 123) 1 rfl dL_changes_121 rfl ?_
                refine v_ialdN C0 hK (pc' := 124) 2 0 rfl rfl (by have := hf i_L2; have := hlv i_L2 (by omega) h10; omega) (by decide) dL_changes_123 rfl ?_
                refine v_iload C0 (pc' := 126) 4 rfl dL_changes_124 rfl ?_
                refine v_ishrN C0 (pc' := 127) (by have := ht ((xf i_L2) - 1); have := hf i_L2; have := hlv i_L2 (by omega) h10; omega) (by have := hu one; have := hlv i_L2 (by omega) h10; omega) dL_changes_126 rfl ?_
                refine v_iconst C0 (pc' := 128) (nI 1) (by decide +kernel) dL_changes_127 rfl ?_
                refine v_iand1 C0 (pc' := 129) dL_changes_128 rfl ?_
                refine v_isubN C0 (pc' := 130) (by have := hu one; have := ht ((xf i_L2) - 1); have := hf i_L2; have := ht i_L2; have := hlv i_L2 (by omega) h10; omega) dL_changes_129 rfl ?_
                refine v_istore C0 (lv' := [(12, .int (nI ((2 - (((xt i_L2) / 2 ^ (xu one)) % 2)) - (((xt ((xf i_L2) - 1)) / 2 ^ (xu one)) % 2)))), (11, .int (nI (((i_L2 / 6) * 6) + (((xf i_L2) - 1) / 6)))), (10, .int (nI ((xf i_L2) - 1))), (9, .int (nI i_L2)), (8, .ref da), (7, .int (nI (xu one))), (0, .ref ua), (1, .ref ta), (2, .ref fa), (3, .long (nJ live)), (5, .int (nI one)), (6, .int (nI two))]) (pc' := 132) (by decide) rfl dL_changes_130 rfl ?_
                suffices J_J1 : V p l e { frames := 0, cells := 1, slots := 36, locals := 0 } s m args below meth c D A 13 1 36 (MQ below (QI D (TI cI) ([(ua, .inl (cI, 36, .inl (nA xu))), (ta, .inl (cI, 36, .inl (nA xt))), (fa, .inl (cI, 36, .inl (nA xf)))]) A (s_L_changes xu xt xf live one two)) args s 1 36 A) ([(da, .inl (cI, 36, .inl (nA da_L2))), (ua, .inl (cI, 36, .inl (nA xu))), (ta, .inl (cI, 36, .inl (nA xt))), (fa, .inl (cI, 36, .inl (nA xf)))]) [(12, .int (nI ((2 - (((xt i_L2) / 2 ^ (xu one)) % 2)) - (((xt ((xf i_L2) - 1)) / 2 ^ (xu one)) % 2)))), (11, .int (nI (((i_L2 / 6) * 6) + (((xf i_L2) - 1) / 6)))), (10, .int (nI ((xf i_L2) - 1))), (9, .int (nI i_L2)), (8, .ref da), (7, .int (nI (xu one))), (0, .ref ua), (1, .ref ta), (2, .ref fa), (3, .long (nJ live)), (5, .int (nI one)), (6, .int (nI two))] 173 [.int (nI (s_L_changes_J1 xu xt xf one i_L2))] by
                  refine v_aload_n C0 (pc' := 133) 6 rfl rfl dL_changes_132 rfl ?_
                  refine v_iload C0 (pc' := 135) 3 rfl dL_changes_133 rfl ?_
                  refine v_ialdN C0 hK (pc' := 136) 1 0 rfl rfl (by have := hlv i_L2 (by omega) h10; omega) (by decide) dL_changes_135 rfl ?_
                  refine v_iload C0 (pc' := 138) 5 rfl dL_changes_136 rfl ?_
                  refine v_icmp_eqN C0 155 (pc' := 141) (by have := hu i_L2; have := hlv i_L2 (by omega) h10; omega) (by have := hu one; have := hlv i_L2 (by omega) h10; omega) dL_changes_138 (by decide) rfl (fun h11 => ?_) (fun h11 => ?_)
                  · refine v_aload_n C0 (pc' := 156) 6 rfl rfl dL_changes_155 rfl ?_
                    refine v_iload C0 (pc' := 158) 3 rfl dL_changes_156 rfl ?_
                    refine v_ialdN C0 hK (pc' := 159) 1 0 rfl rfl (by have := hlv i_L2 (by omega) h10; omega) (by decide) dL_changes_158 rfl ?_
                    refine v_aload_n C0 (pc' := 160) 6 rfl rfl dL_changes_159 rfl ?_
                    refine v_iload C0 (pc' := 162) 2 rfl dL_changes_160 rfl ?_
                    refine v_ialdN C0 hK (pc' := 163) 1 0 rfl rfl (by have := hf i_L2; have := hlv i_L2 (by omega) h10; omega) (by decide) dL_changes_162 rfl ?_
                    refine v_icmp_neN C0 170 (pc' := 166) (by have := hu i_L2; have := hlv i_L2 (by omega) h10; omega) (by have := hu ((xf i_L2) - 1); have := hf i_L2; have := hlv i_L2 (by omega) h10; omega) dL_changes_163 (by decide) rfl (fun h12 => ?_) (fun h12 => ?_)
                    · refine v_sipush C0 (pc' := 173) (nI 9999) (by decide +kernel) dL_changes_170 rfl ?_
                      have e_J1 : s_L_changes_J1 xu xt xf one i_L2 = 9999 := by simp only [s_L_changes_J1, if_pos h11, if_neg h12]
                      rw [e_J1] at J_J1
                      exact v_sub (lv' := [(12, .int (nI ((2 - (((xt i_L2) / 2 ^ (xu one)) % 2)) - (((xt ((xf i_L2) - 1)) / 2 ^ (xu one)) % 2)))), (11, .int (nI (((i_L2 / 6) * 6) + (((xf i_L2) - 1) / 6)))), (10, .int (nI ((xf i_L2) - 1))), (9, .int (nI i_L2)), (8, .ref da), (7, .int (nI (xu one))), (0, .ref ua), (1, .ref ta), (2, .ref fa), (3, .long (nJ live)), (5, .int (nI one)), (6, .int (nI two))]) [0, 1, 2, 3, 4, 5, 6, 7, 8, 9, 10, 11] rfl J_J1
                    · refine v_iconst C0 (pc' := 167) (nI 0) (by decide +kernel) dL_changes_166 rfl ?_
                      refine v_goto C0 173 dL_changes_167 (by decide) ?_
                      have e_J1 : s_L_changes_J1 xu xt xf one i_L2 = 0 := by simp only [s_L_changes_J1, if_pos h11, if_pos h12]
                      rw [e_J1] at J_J1
                      exact v_sub (lv' := [(12, .int (nI ((2 - (((xt i_L2) / 2 ^ (xu one)) % 2)) - (((xt ((xf i_L2) - 1)) / 2 ^ (xu one)) % 2)))), (11, .int (nI (((i_L2 / 6) * 6) + (((xf i_L2) - 1) / 6)))), (10, .int (nI ((xf i_L2) - 1))), (9, .int (nI i_L2)), (8, .ref da), (7, .int (nI (xu one))), (0, .ref ua), (1, .ref ta), (2, .ref fa), (3, .long (nJ live)), (5, .int (nI one)), (6, .int (nI two))]) [0, 1, 2, 3, 4, 5, 6, 7, 8, 9, 10, 11] rfl J_J1
                  · refine v_aload_n C0 (pc' := 142) 6 rfl rfl dL_changes_141 rfl ?_
                    refine v_iload C0 (pc' := 144) 2 rfl dL_changes_142 rfl ?_
                    refine v_ialdN C0 hK (pc' := 145) 1 0 rfl rfl (by have := hf i_L2; have := hlv i_L2 (by omega) h10; omega) (by decide) dL_changes_144 rfl ?_
                    refine v_iload C0 (pc' := 147) 5 rfl dL_changes_145 rfl ?_
                    refine v_icmp_eqN C0 155 (pc' := 150) (by have := hu ((xf i_L2) - 1); have := hf i_L2; have := hlv i_L2 (by omega) h10; omega) (by have := hu one; have := hlv i_L2 (by omega) h10; omega) dL_changes_147 (by decide) rfl (fun h13 => ?_) (fun h13 => ?_)
                    · refine v_aload_n C0 (pc' := 156) 6 rfl rfl dL_changes_155 rfl ?_
                      refine v_iload C0 (pc' := 158) 3 rfl dL_changes_156 rfl ?_
                      refine v_ialdN C0 hK (pc' := 159) 1 0 rfl rfl (by have := hlv i_L2 (by omega) h10; omega) (by decide) dL_changes_158 rfl ?_
                      refine v_aload_n C0 (pc' := 160) 6 rfl rfl dL_changes_159 rfl ?_
                      refine v_iload C0 (pc' := 162) 2 rfl dL_changes_160 rfl ?_
                      refine v_ialdN C0 hK (pc' := 163) 1 0 rfl rfl (by have := hf i_L2; have := hlv i_L2 (by omega) h10; omega) (by decide) dL_changes_162 rfl ?_
                      refine v_icmp_neN C0 170 (pc' := 166) (by have := hu i_L2; have := hlv i_L2 (by omega) h10; omega) (by have := hu ((xf i_L2) - 1); have := hf i_L2; have := hlv i_L2 (by omega) h10; omega) dL_changes_163 (by decide) rfl (fun h14 => ?_) (fun h14 => ?_)
                      · refine v_sipush C0 (pc' := 173) (nI 9999) (by decide +kernel) dL_changes_170 rfl ?_
                        have e_J1 : s_L_changes_J1 xu xt xf one i_L2 = 9999 := by simp only [s_L_changes_J1, if_neg h11, if_pos h13, if_neg h14]
                        rw [e_J1] at J_J1
                        exact v_sub (lv' := [(12, .int (nI ((2 - (((xt i_L2) / 2 ^ (xu one)) % 2)) - (((xt ((xf i_L2) - 1)) / 2 ^ (xu one)) % 2)))), (11, .int (nI (((i_L2 / 6) * 6) + (((xf i_L2) - 1) / 6)))), (10, .int (nI ((xf i_L2) - 1))), (9, .int (nI i_L2)), (8, .ref da), (7, .int (nI (xu one))), (0, .ref ua), (1, .ref ta), (2, .ref fa), (3, .long (nJ live)), (5, .int (nI one)), (6, .int (nI two))]) [0, 1, 2, 3, 4, 5, 6, 7, 8, 9, 10, 11] rfl J_J1
                      · refine v_iconst C0 (pc' := 167) (nI 0) (by decide +kernel) dL_changes_166 rfl ?_
                        refine v_goto C0 173 dL_changes_167 (by decide) ?_
                        have e_J1 : s_L_changes_J1 xu xt xf one i_L2 = 0 := by simp only [s_L_changes_J1, if_neg h11, if_pos h13, if_pos h14]
                        rw [e_J1] at J_J1
                        exact v_sub (lv' := [(12, .int (nI ((2 - (((xt i_L2) / 2 ^ (xu one)) % 2)) - (((xt ((xf i_L2) - 1)) / 2 ^ (xu one)) % 2)))), (11, .int (nI (((i_L2 / 6) * 6) + (((xf i_L2) - 1) / 6)))), (10, .int (nI ((xf i_L2) - 1))), (9, .int (nI i_L2)), (8, .ref da), (7, .int (nI (xu one))), (0, .ref ua), (1, .ref ta), (2, .ref fa), (3, .long (nJ live)), (5, .int (nI one)), (6, .int (nI two))]) [0, 1, 2, 3, 4, 5, 6, 7, 8, 9, 10, 11] rfl J_J1
                    · refine v_iload C0 (pc' := 152) 0 rfl dL_changes_150 rfl ?_
                      refine v_goto C0 173 dL_changes_152 (by decide) ?_
                      have e_J1 : s_L_changes_J1 xu xt xf one i_L2 = (2 - (((xt i_L2) / 2 ^ (xu one)) % 2)) - (((xt ((xf i_L2) - 1)) / 2 ^ (xu one)) % 2) := by simp only [s_L_changes_J1, if_neg h11, if_neg h13]
                      rw [e_J1] at J_J1
                      exact v_sub (lv' := [(12, .int (nI ((2 - (((xt i_L2) / 2 ^ (xu one)) % 2)) - (((xt ((xf i_L2) - 1)) / 2 ^ (xu one)) % 2)))), (11, .int (nI (((i_L2 / 6) * 6) + (((xf i_L2) - 1) / 6)))), (10, .int (nI ((xf i_L2) - 1))), (9, .int (nI i_L2)), (8, .ref da), (7, .int (nI (xu one))), (0, .ref ua), (1, .ref ta), (2, .ref fa), (3, .long (nJ live)), (5, .int (nI one)), (6, .int (nI two))]) [0, 1, 2, 3, 4, 5, 6, 7, 8, 9, 10, 11] rfl J_J1
                refine v_istore C0 (lv' := [(12, .int (nI (s_L_changes_J1 xu xt xf one i_L2))), (11, .int (nI (((i_L2 / 6) * 6) + (((xf i_L2) - 1) / 6)))), (10, .int (nI ((xf i_L2) - 1))), (9, .int (nI i_L2)), (8, .ref da), (7, .int (nI (xu one))), (0, .ref ua), (1, .ref ta), (2, .ref fa), (3, .long (nJ live)), (5, .int (nI one)), (6, .int (nI two))]) (pc' := 175) (by decide) rfl dL_changes_173 rfl ?_
                refine v_aload C0 (pc' := 177) 4 rfl dL_changes_175 rfl ?_
                refine v_iload C0 (pc' := 179) 1 rfl dL_changes_177 rfl ?_
                refine v_iload C0 (pc' := 181) 0 rfl dL_changes_179 rfl ?_
                refine v_aload C0 (pc' := 183) 4 rfl dL_changes_181 rfl ?_
                refine v_iload C0 (pc' := 185) 1 rfl dL_changes_183 rfl ?_
                refine v_ialdN C0 hK (pc' := 186) 0 0 rfl rfl (by have := hf i_L2; have := hlv i_L2 (by omega) h10; omega) (by decide) dL_changes_185 rfl ?_
                refine v_icmp_geN C0 194 (pc' := 189) (by have := hlv i_L2 (by omega) h10; have := @le_chJ xu xt xf one i_L2; omega) (by have := hf i_L2; have := hd_L2 (((i_L2 / 6) * 6) + (((xf i_L2) - 1) / 6)); have := hlv i_L2 (by omega) h10; omega) dL_changes_186 (by decide) rfl (fun h15 => ?_) (fun h15 => ?_)
                · refine v_aload C0 (pc' := 196) 4 rfl dL_changes_194 rfl ?_
                  refine v_iload C0 (pc' := 198) 1 rfl dL_changes_196 rfl ?_
                  refine v_ialdN C0 hK (pc' := 199) 0 0 rfl rfl (by have := hf i_L2; have := hlv i_L2 (by omega) h10; omega) (by decide) dL_changes_198 rfl ?_
                  refine v_iastN C0 hK (ws' := [(da, .inl (cI, 36, .inl (nA (updN da_L2 (((i_L2 / 6) * 6) + (((xf i_L2) - 1) / 6)) (da_L2 (((i_L2 / 6) * 6) + (((xf i_L2) - 1) / 6))))))), (ua, .inl (cI, 36, .inl (nA xu))), (ta, .inl (cI, 36, .inl (nA xt))), (fa, .inl (cI, 36, .inl (nA xf)))]) (pc' := 200) 0 0 rfl rfl rfl (by have := hf i_L2; have := hlv i_L2 (by omega) h10; omega) (by decide) dL_changes_199 rfl ?_
                  refine v_iincN C0 (lv' := [(9, .int (nI (i_L2 + 1))), (12, .int (nI (s_L_changes_J1 xu xt xf one i_L2))), (11, .int (nI (((i_L2 / 6) * 6) + (((xf i_L2) - 1) / 6)))), (10, .int (nI ((xf i_L2) - 1))), (8, .ref da), (7, .int (nI (xu one))), (0, .ref ua), (1, .ref ta), (2, .ref fa), (3, .long (nJ live)), (5, .int (nI one)), (6, .int (nI two))]) (y := 1) (pc' := 203) 3 rfl (by decide) rfl dL_changes_200 rfl ?_
                  refine v_goto C0 67 dL_changes_203 (by decide) ?_
                  have hb := ih_L2 (i_L2 + 1) (updN da_L2 (((i_L2 / 6) * 6) + (((xf i_L2) - 1) / 6)) (da_L2 (((i_L2 / 6) * 6) + (((xf i_L2) - 1) / 6)))) (by omega) (by rw [lp_succ, ← hs_L2]; simp only [s_L_changes_L2, if_neg h9, if_pos h10, if_pos h15]) (updN_le hd_L2 (by have := hf i_L2; have := hd_L2 (((i_L2 / 6) * 6) + (((xf i_L2) - 1) / 6)); have := hu two; have := hu one; have := hlv i_L2 (by omega) h10; have := @le_chJ xu xt xf one i_L2; omega))
                  exact v_sub (lv' := [(9, .int (nI (i_L2 + 1))), (8, .ref da), (7, .int (nI (xu one))), (0, .ref ua), (1, .ref ta), (2, .ref fa), (3, .long (nJ live)), (5, .int (nI one)), (6, .int (nI two))]) [0, 4, 5, 6, 7, 8, 9, 10, 11] rfl hb
                · refine v_iload C0 (pc' := 191) 0 rfl dL_changes_189 rfl ?_
                  refine v_goto C0 199 dL_changes_191 (by decide) ?_
                  refine v_iastN C0 hK (ws' := [(da, .inl (cI, 36, .inl (nA (updN da_L2 (((i_L2 / 6) * 6) + (((xf i_L2) - 1) / 6)) (s_L_changes_J1 xu xt xf one i_L2))))), (ua, .inl (cI, 36, .inl (nA xu))), (ta, .inl (cI, 36, .inl (nA xt))), (fa, .inl (cI, 36, .inl (nA xf)))]) (pc' := 200) 0 0 rfl rfl rfl (by have := hf i_L2; have := hlv i_L2 (by omega) h10; omega) (by decide) dL_changes_199 rfl ?_
                  refine v_iincN C0 (lv' := [(9, .int (nI (i_L2 + 1))), (12, .int (nI (s_L_changes_J1 xu xt xf one i_L2))), (11, .int (nI (((i_L2 / 6) * 6) + (((xf i_L2) - 1) / 6)))), (10, .int (nI ((xf i_L2) - 1))), (8, .ref da), (7, .int (nI (xu one))), (0, .ref ua), (1, .ref ta), (2, .ref fa), (3, .long (nJ live)), (5, .int (nI one)), (6, .int (nI two))]) (y := 1) (pc' := 203) 3 rfl (by decide) rfl dL_changes_200 rfl ?_
                  refine v_goto C0 67 dL_changes_203 (by decide) ?_
                  have hb := ih_L2 (i_L2 + 1) (updN da_L2 (((i_L2 / 6) * 6) + (((xf i_L2) - 1) / 6)) (s_L_changes_J1 xu xt xf one i_L2)) (by omega) (by rw [lp_succ, ← hs_L2]; simp only [s_L_changes_L2, if_neg h9, if_pos h10, if_neg h15]) (updN_le hd_L2 (by have := hf i_L2; have := hd_L2 (((i_L2 / 6) * 6) + (((xf i_L2) - 1) / 6)); have := hu two; have := hu one; have := hlv i_L2 (by omega) h10; have := @le_chJ xu xt xf one i_L2; have := @le_chJ xu xt xf one i_L2; omega))
                  exact v_sub (lv' := [(9, .int (nI (i_L2 + 1))), (8, .ref da), (7, .int (nI (xu one))), (0, .ref ua), (1, .ref ta), (2, .ref fa), (3, .long (nJ live)), (5, .int (nI one)), (6, .int (nI two))]) [0, 4, 5, 6, 7, 8, 9, 10, 11] rfl hb
        · exact absurd (by omega) h3
      | succ j_L1 ih_L1 =>
        intro i_L1 da_L1 hi_L1 hs_L1 hd_L1
        refine v_iload C0 (pc' := 33) 0 rfl dL_changes_31 rfl ?_
        refine v_bipush C0 (pc' := 35) (nI 36) (by decide +kernel) dL_changes_33 rfl ?_
        refine v_icmp_geN C0 64 (pc' := 38) (by omega) (by omega) dL_changes_35 (by decide) rfl (fun h16 => ?_) (fun h16 => ?_)
        · exact absurd h16 (by omega)
        · refine v_aload C0 (pc' := 40) 1 rfl dL_changes_38 rfl ?_
          refine v_iload C0 (pc' := 42) 0 rfl dL_changes_40 rfl ?_
          refine v_iload C0 (pc' := 44) 0 rfl dL_changes_42 rfl ?_
          refine v_bipush C0 (pc' := 46) (nI 7) (by decide +kernel) dL_changes_44 rfl ?_
          refine v_iremN C0 (pc' := 47) (by omega) (by decide) (by decide) dL_changes_46 rfl ?_
          refine v_if_neN C0 54 (pc' := 50) (by omega) dL_changes_47 (by decide) rfl (fun h17 => ?_) (fun h17 => ?_)
          · refine v_sipush C0 (pc' := 57) (nI 9999) (by decide +kernel) dL_changes_54 rfl ?_
            refine v_iastN C0 hK (ws' := [(da, .inl (cI, 36, .inl (nA (updN da_L1 i_L1 9999)))), (ua, .inl (cI, 36, .inl (nA xu))), (ta, .inl (cI, 36, .inl (nA xt))), (fa, .inl (cI, 36, .inl (nA xf)))]) (pc' := 58) 0 0 rfl rfl rfl (by omega) (by decide) dL_changes_57 rfl ?_
            refine v_iincN C0 (lv' := [(9, .int (nI (i_L1 + 1))), (8, .ref da), (7, .int (nI (xu one))), (0, .ref ua), (1, .ref ta), (2, .ref fa), (3, .long (nJ live)), (5, .int (nI one)), (6, .int (nI two))]) (y := 1) (pc' := 61) 0 rfl (by decide) rfl dL_changes_58 rfl ?_
            refine v_goto C0 31 dL_changes_61 (by decide) ?_
            have hb := ih_L1 (i_L1 + 1) (updN da_L1 i_L1 9999) (by omega) (by rw [lp_succ, ← hs_L1]; simp only [s_L_changes_L1, if_neg h16, if_neg h17]) (updN_le hd_L1 (by have := hu two; have := hu one; omega))
            exact v_sub (lv' := [(9, .int (nI (i_L1 + 1))), (8, .ref da), (7, .int (nI (xu one))), (0, .ref ua), (1, .ref ta), (2, .ref fa), (3, .long (nJ live)), (5, .int (nI one)), (6, .int (nI two))]) [0, 1, 2, 3, 4, 5, 6, 7, 8] rfl hb
          · refine v_iconst C0 (pc' := 51) (nI 0) (by decide +kernel) dL_changes_50 rfl ?_
            refine v_goto C0 57 dL_changes_51 (by decide) ?_
            refine v_iastN C0 hK (ws' := [(da, .inl (cI, 36, .inl (nA (updN da_L1 i_L1 0)))), (ua, .inl (cI, 36, .inl (nA xu))), (ta, .inl (cI, 36, .inl (nA xt))), (fa, .inl (cI, 36, .inl (nA xf)))]) (pc' := 58) 0 0 rfl rfl rfl (by omega) (by decide) dL_changes_57 rfl ?_
            refine v_iincN C0 (lv' := [(9, .int (nI (i_L1 + 1))), (8, .ref da), (7, .int (nI (xu one))), (0, .ref ua), (1, .ref ta), (2, .ref fa), (3, .long (nJ live)), (5, .int (nI one)), (6, .int (nI two))]) (y := 1) (pc' := 61) 0 rfl (by decide) rfl dL_changes_58 rfl ?_
            refine v_goto C0 31 dL_changes_61 (by decide) ?_
            have hb := ih_L1 (i_L1 + 1) (updN da_L1 i_L1 0) (by omega) (by rw [lp_succ, ← hs_L1]; simp only [s_L_changes_L1, if_neg h16, if_pos h17]) (updN_le hd_L1 (by have := hu two; have := hu one; omega))
            exact v_sub (lv' := [(9, .int (nI (i_L1 + 1))), (8, .ref da), (7, .int (nI (xu one))), (0, .ref ua), (1, .ref ta), (2, .ref fa), (3, .long (nJ live)), (5, .int (nI one)), (6, .int (nI two))]) [0, 1, 2, 3, 4, 5, 6, 7, 8] rfl hb
    · refine v_iconst C0 (pc' := 21) (-1) (by decide) dL_changes_20 rfl ?_
      refine v_widen (k2 := 1) (n2 := 36) (Nat.le_of_ble_eq_true rfl) (Nat.le_of_ble_eq_true rfl) ?_
      exact v_iret C0 hr hlk hK (by simp only [s_L_changes, if_neg h1, if_neg h2]) dL_changes_21
