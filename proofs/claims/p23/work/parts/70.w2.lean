/-! bits of a set, what comes over a cable, where frames spread -/
theorem sb_half (t : Nat) : ∀ n, sb t (n + 1) = t % 2 + sb (t / 2) n := by
  intro n
  induction n with
  | zero => show 0 + t / 2 ^ 0 % 2 = t % 2 + 0; rw [Nat.pow_zero, Nat.div_one]; omega
  | succ n ih =>
    show sb t (n + 1) + t / 2 ^ (n + 1) % 2 = t % 2 + (sb (t / 2) n + t / 2 / 2 ^ n % 2)
    rw [ih, Nat.div_div_eq_div_mul, show 2 * 2 ^ n = 2 ^ (n + 1) by rw [Nat.pow_succ, Nat.mul_comm]]
    omega
theorem sb_low : ∀ n r, r < 2 ^ n → 0 < r → sb (r &&& (r - 1)) n + 1 = sb r n := by
  intro n
  induction n with
  | zero => intro r h h0; rw [Nat.pow_zero] at h; omega
  | succ n ih =>
    intro r h h0
    have e1 : (r &&& (r - 1)) / 2 = (r / 2) &&& ((r - 1) / 2) := by
      have := Nat.and_div_two_pow (a := r) (b := r - 1) (n := 1)
      simpa using this
    have e2 : (r &&& (r - 1)) % 2 = (r % 2) &&& ((r - 1) % 2) := by
      have := Nat.and_mod_two_pow (a := r) (b := r - 1) (n := 1)
      simpa using this
    rw [sb_half, sb_half, e1, e2]
    have h2 : r / 2 < 2 ^ n := by rw [Nat.pow_succ] at h; omega
    rcases Nat.mod_two_eq_zero_or_one r with q | q
    · have h3 : (r - 1) % 2 = 1 := by omega
      have h4 : (r - 1) / 2 = r / 2 - 1 := by omega
      rw [q, h3, h4]
      have h5 := ih (r / 2) h2 (by omega)
      show 0 + _ + 1 = 0 + _
      omega
    · have h3 : (r - 1) % 2 = 0 := by omega
      have h4 : (r - 1) / 2 = r / 2 := by omega
      rw [q, h3, h4, Nat.and_self]
      show 0 + _ + 1 = 1 + _
      omega
theorem sb_le (t : Nat) : ∀ n, sb t n ≤ n := by
  intro n
  induction n with
  | zero => exact Nat.le_refl 0
  | succ n ih =>
    show sb t n + t / 2 ^ n % 2 ≤ n + 1
    have := Nat.mod_lt (t / 2 ^ n) (show 0 < 2 by decide)
    omega
theorem sb_0 : ∀ n, sb 0 n = 0 := by
  intro n
  induction n with
  | zero => rfl
  | succ n ih => show sb 0 n + 0 / 2 ^ n % 2 = 0; rw [ih, Nat.zero_div]
set_option maxHeartbeats 4000000 in
set_option maxRecDepth 100000 in
theorem k_L_bits (l : Launch) (D : va_G) (cI : ClassId) (x : Nat) (hx : x < 65536) : Ki l yL_bits wsL_bits 0 0 0 0 D (TI cI) [.int (nI x)] [] [] (nI (sb x 16)) := by
  refine Ki.of (cc := cL_bits) (maxL := 3) (rt := .int) (lv0 := [(0, .int (nI x))]) (by decide +kernel) rfl (Nat.le_of_ble_eq_true rfl) rfl ?_
  intro p e s m args below meth c A C0 hr hlk hK hA
  refine v_iconst C0 (pc' := 1) (nI 0) (by decide +kernel) dL_bits_0 rfl ?_
  refine v_istore_n C0 (lv' := [(1, .int (nI 0)), (0, .int (nI x))]) (pc' := 2) rfl (by decide) rfl dL_bits_1 rfl ?_
  refine v_iload_n C0 (pc' := 3) 1 rfl rfl dL_bits_2 rfl ?_
  refine v_istore_n C0 (lv' := [(2, .int (nI x)), (1, .int (nI 0)), (0, .int (nI x))]) (pc' := 4) rfl (by decide) rfl dL_bits_3 rfl ?_
  suffices LP : ∀ (N r mm : Nat), r ≤ N → r < 65536 → mm + sb r 16 = sb x 16 → V p l e { frames := 0, cells := 0, slots := 0, locals := 0 } s m args below meth c D A 3 0 0 (MQ below (QI D (TI cI) [] A (nI (sb x 16))) args s 0 0 A) [] [(2, .int (nI r)), (1, .int (nI mm)), (0, .int (nI x))] 4 [] by
    exact LP x x 0 (Nat.le_refl x) hx (Nat.zero_add _)
  intro N
  induction N with
  | zero =>
    intro r mm h1 h2 h3
    have h4 : r = 0 := by omega
    subst h4
    refine v_iload_n C0 (pc' := 5) 0 rfl rfl dL_bits_4 rfl ?_
    refine v_if_leN C0 20 (pc' := 8) (by omega) dL_bits_5 (by decide) rfl (fun _ => ?_) (fun h => absurd rfl h)
    refine v_iload_n C0 (pc' := 21) 1 rfl rfl dL_bits_20 rfl ?_
    rw [sb_0, Nat.add_zero] at h3
    exact v_iret C0 hr hlk hK (by rw [h3]) dL_bits_21
  | succ N ih =>
    intro r mm h1 h2 h3
    refine v_iload_n C0 (pc' := 5) 0 rfl rfl dL_bits_4 rfl ?_
    refine v_if_leN C0 20 (pc' := 8) (by omega) dL_bits_5 (by decide) rfl (fun h => ?_) (fun h => ?_)
    · refine v_iload_n C0 (pc' := 21) 1 rfl rfl dL_bits_20 rfl ?_
      rw [h, sb_0, Nat.add_zero] at h3
      exact v_iret C0 hr hlk hK (by rw [h3]) dL_bits_21
    · refine v_iincN C0 (lv' := [(1, .int (nI (mm + 1))), (2, .int (nI r)), (0, .int (nI x))]) (y := 1) (pc' := 11) 1 rfl (by decide) rfl dL_bits_8 rfl ?_
      refine v_iload_n C0 (pc' := 12) 1 rfl rfl dL_bits_11 rfl ?_
      refine v_iload_n C0 (pc' := 13) 1 rfl rfl dL_bits_12 rfl ?_
      refine v_iconst C0 (pc' := 14) (nI 1) (by decide +kernel) dL_bits_13 rfl ?_
      refine v_isubN C0 (pc' := 15) (by omega) dL_bits_14 rfl ?_
      refine v_iandN C0 (pc' := 16) dL_bits_15 rfl ?_
      refine v_istore_n C0 (lv' := [(2, .int (nI (r &&& (r - 1)))), (1, .int (nI (mm + 1))), (0, .int (nI x))]) (pc' := 17) rfl (by decide) rfl dL_bits_16 rfl ?_
      refine v_goto C0 4 dL_bits_17 (by decide) ?_
      have h4 := sb_low 16 r (by omega) (by omega)
      have h5 : r &&& (r - 1) ≤ r - 1 := Nat.and_le_right
      exact ih _ _ (by omega) (by omega) (by omega)
def s_L_comes (xu : Nat → Nat) (xt : Nat → Nat) (xf : Nat → Nat) (at9 : Nat) (lanes : Nat) : Nat := if (xu at9) = 0 then ((lanes &&& (xt at9)) &&& (xt ((xf at9) - 1))) else (if (xu ((xf at9) - 1)) = 0 then ((lanes &&& (xt at9)) &&& (xt ((xf at9) - 1))) else (if ((lanes / 2 ^ (xu at9)) % 2) = 1 then (((lanes &&& (xt at9)) &&& (xt ((xf at9) - 1))) ||| (2 ^ (xu ((xf at9) - 1)))) else ((lanes &&& (xt at9)) &&& (xt ((xf at9) - 1)))))
set_option maxHeartbeats 4000000 in
set_option maxRecDepth 100000 in
theorem k_L_comes (l : Launch) (D : va_G) (cI : ClassId) (ua ta fa : Nat) (xu xt xf : Nat → Nat) (at9 lanes : Nat) (hu : ∀ k, xu k ≤ 15) (ht : ∀ k, xt k < 65536) (hf : ∀ k, xf k ≤ 36) (hA9 : at9 < 36) (hz : ¬ xf at9 = 0) (hL : lanes < 65536) : Ki l yL_comes wsL_comes 0 0 0 0 D (TI cI) [.ref ua, .ref ta, .ref fa, .int (nI at9), .int (nI lanes)] ([(ua, .inl (cI, 36, .inl (nA xu))), (ta, .inl (cI, 36, .inl (nA xt))), (fa, .inl (cI, 36, .inl (nA xf)))]) ([(ua, .inl (cI, 36, .inl (nA xu))), (ta, .inl (cI, 36, .inl (nA xt))), (fa, .inl (cI, 36, .inl (nA xf)))]) (nI (s_L_comes xu xt xf at9 lanes)) := by
  refine Ki.of (cc := cL_comes) (maxL := 7) (rt := .int) (lv0 := [(0, .ref ua), (1, .ref ta), (2, .ref fa), (3, .int (nI at9)), (4, .int (nI lanes))]) (by decide +kernel) rfl (Nat.le_of_ble_eq_true rfl) rfl ?_
  intro p e s m args below meth c A C0 hr hlk hK hA
  refine v_aload_n C0 (pc' := 1) 2 rfl rfl dL_comes_0 rfl ?_
  refine v_iload_n C0 (pc' := 2) 3 rfl rfl dL_comes_1 rfl ?_
  refine v_ialdN C0 hK (pc' := 3) 2 0 rfl rfl (by omega) (by decide) dL_comes_2 rfl ?_
  refine v_iconst C0 (pc' := 4) (nI 1) (by decide +kernel) dL_comes_3 rfl ?_
  refine v_isubN C0 (pc' := 5) (by have := hf at9; omega) dL_comes_4 rfl ?_
  refine v_istore C0 (lv' := [(5, .int (nI ((xf at9) - 1))), (0, .ref ua), (1, .ref ta), (2, .ref fa), (3, .int (nI at9)), (4, .int (nI lanes))]) (pc' := 7) (by decide) rfl dL_comes_5 rfl ?_
  refine v_iload C0 (pc' := 9) 5 rfl dL_comes_7 rfl ?_
  refine v_aload_n C0 (pc' := 10) 2 rfl rfl dL_comes_9 rfl ?_
  refine v_iload_n C0 (pc' := 11) 4 rfl rfl dL_comes_10 rfl ?_
  refine v_ialdN C0 hK (pc' := 12) 1 0 rfl rfl (by omega) (by decide) dL_comes_11 rfl ?_
  refine v_iandN C0 (pc' := 13) dL_comes_12 rfl ?_
  refine v_aload_n C0 (pc' := 14) 2 rfl rfl dL_comes_13 rfl ?_
  refine v_iload C0 (pc' := 16) 0 rfl dL_comes_14 rfl ?_
  refine v_ialdN C0 hK (pc' := 17) 1 0 rfl rfl (by have := hf at9; omega) (by decide) dL_comes_16 rfl ?_
  refine v_iandN C0 (pc' := 18) dL_comes_17 rfl ?_
  refine v_istore C0 (lv' := [(6, .int (nI ((lanes &&& (xt at9)) &&& (xt ((xf at9) - 1))))), (5, .int (nI ((xf at9) - 1))), (0, .ref ua), (1, .ref ta), (2, .ref fa), (3, .int (nI at9)), (4, .int (nI lanes))]) (pc' := 20) (by decide) rfl dL_comes_18 rfl ?_
  refine v_aload_n C0 (pc' := 21) 2 rfl rfl dL_comes_20 rfl ?_
  refine v_iload_n C0 (pc' := 22) 5 rfl rfl dL_comes_21 rfl ?_
  refine v_ialdN C0 hK (pc' := 23) 0 0 rfl rfl (by omega) (by decide) dL_comes_22 rfl ?_
  refine v_if_leN C0 57 (pc' := 26) (by have := hu at9; omega) dL_comes_23 (by decide) rfl (fun h1 => ?_) (fun h1 => ?_)
  · refine v_iload C0 (pc' := 59) 0 rfl dL_comes_57 rfl ?_
    exact v_iret C0 hr hlk hK (by simp only [s_L_comes, if_pos h1]) dL_comes_59
  · refine v_aload_n C0 (pc' := 27) 2 rfl rfl dL_comes_26 rfl ?_
    refine v_iload C0 (pc' := 29) 1 rfl dL_comes_27 rfl ?_
    refine v_ialdN C0 hK (pc' := 30) 0 0 rfl rfl (by have := hf at9; omega) (by decide) dL_comes_29 rfl ?_
    refine v_if_leN C0 57 (pc' := 33) (by have := hu ((xf at9) - 1); have := hf at9; omega) dL_comes_30 (by decide) rfl (fun h2 => ?_) (fun h2 => ?_)
    · refine v_iload C0 (pc' := 59) 0 rfl dL_comes_57 rfl ?_
      exact v_iret C0 hr hlk hK (by simp only [s_L_comes, if_neg h1, if_pos h2]) dL_comes_59
    · refine v_iload C0 (pc' := 35) 6 rfl dL_comes_33 rfl ?_
      refine v_aload_n C0 (pc' := 36) 2 rfl rfl dL_comes_35 rfl ?_
      refine v_iload_n C0 (pc' := 37) 5 rfl rfl dL_comes_36 rfl ?_
      refine v_ialdN C0 hK (pc' := 38) 0 0 rfl rfl (by omega) (by decide) dL_comes_37 rfl ?_
      refine v_ishrN C0 (pc' := 39) (by omega) (by have := hu at9; omega) dL_comes_38 rfl ?_
      refine v_iconst C0 (pc' := 40) (nI 1) (by decide +kernel) dL_comes_39 rfl ?_
      refine v_iand1 C0 (pc' := 41) dL_comes_40 rfl ?_
      refine v_iconst C0 (pc' := 42) (nI 1) (by decide +kernel) dL_comes_41 rfl ?_
      refine v_icmp_neN C0 57 (pc' := 45) (by have := hu at9; omega) (by omega) dL_comes_42 (by decide) rfl (fun h3 => ?_) (fun h3 => ?_)
      · refine v_iload C0 (pc' := 59) 0 rfl dL_comes_57 rfl ?_
        exact v_iret C0 hr hlk hK (by simp only [s_L_comes, if_neg h1, if_neg h2, if_neg h3]) dL_comes_59
      · refine v_iload C0 (pc' := 47) 0 rfl dL_comes_45 rfl ?_
        refine v_iconst C0 (pc' := 48) (nI 1) (by decide +kernel) dL_comes_47 rfl ?_
        refine v_aload_n C0 (pc' := 49) 2 rfl rfl dL_comes_48 rfl ?_
        refine v_iload C0 (pc' := 51) 1 rfl dL_comes_49 rfl ?_
        refine v_ialdN C0 hK (pc' := 52) 0 0 rfl rfl (by have := hf at9; omega) (by decide) dL_comes_51 rfl ?_
        refine v_ishlN C0 (pc' := 53) (by have := hu ((xf at9) - 1); have := hf at9; omega) dL_comes_52 rfl ?_
        refine v_iorN C0 (pc' := 54) dL_comes_53 rfl ?_
        refine v_goto C0 59 dL_comes_54 (by decide) ?_
        exact v_iret C0 hr hlk hK (by simp only [s_L_comes, if_neg h1, if_neg h2, if_pos h3]) dL_comes_59
theorem lt_comes {xu xt xf : Nat → Nat} {at9 lanes : Nat} (hu : ∀ k, xu k ≤ 15) (hL : lanes < 65536) : s_L_comes xu xt xf at9 lanes < 65536 := by
  have h1 : (lanes &&& xt at9) &&& xt (xf at9 - 1) < 65536 := Nat.lt_of_le_of_lt (Nat.le_trans Nat.and_le_left Nat.and_le_left) hL
  have h2 : ((lanes &&& xt at9) &&& xt (xf at9 - 1)) ||| 2 ^ xu (xf at9 - 1) < 65536 := Nat.or_lt_two_pow (n := 16) h1 (Nat.pow_lt_pow_right (by decide) (by have := hu (xf at9 - 1); omega))
  unfold s_L_comes
  repeat' split
  all_goals first | exact h1 | exact h2
theorem updN_lt {g : Nat → Nat} {i x B : Nat} (h : ∀ k, g k < B) (hx : x < B) : ∀ k, updN g i x k < B := fun k => by
  unfold updN
  split
  · exact hx
  · exact h k
theorem z16 : ∀ k : Nat, (fun _ => 0 : Nat → Nat) k < 65536 := fun _ => Nat.lt_of_lt_of_le (Nat.zero_lt_one) (by decide)
theorem or_lt16 {a b : Nat} (ha : a < 65536) (hb : b < 65536) : a ||| b < 65536 := Nat.or_lt_two_pow (n := 16) ha hb
theorem pow_lt16 {a : Nat} (ha : a < 16) : 2 ^ a < 65536 := Nat.pow_lt_pow_right (n := 16) (by decide) ha
/-- n times f, while p of it isn't 0 -/
def wl {α : Type} (p : α → Nat) (f : α → α) : Nat → α → α
  | 0, s => s
  | n + 1, s => if p s = 0 then s else wl p f n (f s)
theorem wl_stop {α : Type} {p : α → Nat} {f : α → α} {n : Nat} {s : α} (h : p s = 0) : wl p f (n + 1) s = s := if_pos h
theorem wl_go {α : Type} {p : α → Nat} {f : α → α} {n : Nat} {s : α} (h : ¬ p s = 0) : wl p f (n + 1) s = wl p f n (f s) := if_neg h
theorem ac_L_spreads : Cond.arrayClass .int ∈ wsL_spreads := by decide +kernel
def s_L_spreads_L1 (unit : Nat) (lane : Nat) (i_L1 : Nat) (z : (Nat → Nat) × (Nat → Nat)) : (Nat → Nat) × (Nat → Nat) := match z with
  | (ma_L1, wa_L1) => if i_L1 = unit then (updN ma_L1 i_L1 (2 ^ lane), updN wa_L1 i_L1 (2 ^ lane)) else (updN ma_L1 i_L1 0, updN wa_L1 i_L1 0)
def s_L_spreads_L2 (xu : Nat → Nat) (xt : Nat → Nat) (xf : Nat → Nat) (live : Nat) (ma_B : Nat → Nat) (i_L2 : Nat) (wa_L2 : Nat → Nat) : Nat → Nat := if ((live / 2 ^ i_L2) % 2) = 1 then (updN wa_L2 (((xf i_L2) - 1) / 6) ((wa_L2 (((xf i_L2) - 1) / 6)) ||| (s_L_comes xu xt xf i_L2 (ma_B (i_L2 / 6))))) else wa_L2
def s_L_spreads_L3 (wa_L2 : Nat → Nat) (i_L3 : Nat) (z : Nat × (Nat → Nat)) : Nat × (Nat → Nat) := match z with
  | (grows_L3, ma_L3) => if grows_L3 = 0 then (if (wa_L2 i_L3) = (ma_L3 i_L3) then (0, updN ma_L3 i_L3 (wa_L2 i_L3)) else (1, updN ma_L3 i_L3 (wa_L2 i_L3))) else (1, updN ma_L3 i_L3 (wa_L2 i_L3))
def s_L_spreads_B (xu : Nat → Nat) (xt : Nat → Nat) (xf : Nat → Nat) (live : Nat) (z : (Nat → Nat) × (Nat → Nat) × Nat) : (Nat → Nat) × (Nat → Nat) × Nat := match z with
  | (ma_B, wa_B, grows_B) => (((lp (s_L_spreads_L3 (lp (s_L_spreads_L2 xu xt xf live ma_B) 36 wa_B)) 6 (0, ma_B)).2), (lp (s_L_spreads_L2 xu xt xf live ma_B) 36 wa_B), ((lp (s_L_spreads_L3 (lp (s_L_spreads_L2 xu xt xf live ma_B) 36 wa_B)) 6 (0, ma_B)).1))
def s_L_spreads_xm (xu : Nat → Nat) (xt : Nat → Nat) (xf : Nat → Nat) (live : Nat) (unit : Nat) (lane : Nat) (many : Nat) (xm : Nat → Nat) : Nat → Nat := ((wl (fun z => z.2.2) (s_L_spreads_B xu xt xf live) many (((lp (s_L_spreads_L1 unit lane) 6 (xm, fun _ => 0)).1), ((lp (s_L_spreads_L1 unit lane) 6 (xm, fun _ => 0)).2), 1)).1)
set_option maxHeartbeats 4000000 in
set_option maxRecDepth 100000 in
theorem k_L_spreads (l : Launch) (D : va_G) (cI : ClassId) (ua ta fa ma : Nat) (xu xt xf xm : Nat → Nat) (live unit lane many : Nat) (hu : ∀ k, xu k ≤ 15) (ht : ∀ k, xt k < 65536) (hf : ∀ k, xf k ≤ 36) (hm : ∀ k, xm k < 65536) (hli : live < 2 ^ 36) (hlv : ∀ k, k < 36 → live / 2 ^ k % 2 = 1 → ¬ xf k = 0) (hUn : unit < 6) (hLa : lane < 16) (hMa : many < 2 ^ 31) : Kv l yL_spreads wsL_spreads 1 26 1 6 D (TI cI) [.ref ua, .ref ta, .ref fa, .long (nJ live), .int (nI unit), .int (nI lane), .int (nI many), .ref ma] ([(ua, .inl (cI, 36, .inl (nA xu))), (ta, .inl (cI, 36, .inl (nA xt))), (fa, .inl (cI, 36, .inl (nA xf))), (ma, .inl (cI, 6, .inl (nA xm)))]) ([(ua, .inl (cI, 36, .inl (nA xu))), (ta, .inl (cI, 36, .inl (nA xt))), (fa, .inl (cI, 36, .inl (nA xf))), (ma, .inl (cI, 6, .inl (nA (s_L_spreads_xm xu xt xf live unit lane many xm))))]) := by
  refine Kv.of (cc := cL_spreads) (maxL := 13) (lv0 := [(0, .ref ua), (1, .ref ta), (2, .ref fa), (3, .long (nJ live)), (5, .int (nI unit)), (6, .int (nI lane)), (7, .int (nI many)), (8, .ref ma)]) (by decide +kernel) rfl (Nat.le_of_ble_eq_true rfl) rfl ?_
  intro p e s m args below meth c A C0 hr hlk hK hA
  refine v_bipush C0 (pc' := 2) (nI 6) (by decide +kernel) dL_spreads_0 rfl ?_
  refine v_newN C0 hK hA 0 rfl (N := 6) (pc' := 4) (k' := 1) (n' := 6) (by decide) (Nat.le_of_ble_eq_true rfl) (Nat.le_of_ble_eq_true rfl) ac_L_spreads dL_spreads_2 rfl rfl rfl (fun wa => ?_)
  refine v_astore C0 (lv' := [(9, .ref wa), (0, .ref ua), (1, .ref ta), (2, .ref fa), (3, .long (nJ live)), (5, .int (nI unit)), (6, .int (nI lane)), (7, .int (nI many)), (8, .ref ma)]) (pc' := 6) (by decide) rfl dL_spreads_4 rfl ?_
  refine v_iconst C0 (pc' := 7) (nI 0) (by decide +kernel) dL_spreads_6 rfl ?_
  refine v_istore C0 (lv' := [(10, .int (nI 0)), (9, .ref wa), (0, .ref ua), (1, .ref ta), (2, .ref fa), (3, .long (nJ live)), (5, .int (nI unit)), (6, .int (nI lane)), (7, .int (nI many)), (8, .ref ma)]) (pc' := 9) (by decide) rfl dL_spreads_7 rfl ?_
  suffices LP_L1 : ∀ (j_L1 i_L1 : Nat) (ma_L1 : Nat → Nat) (wa_L1 : Nat → Nat), i_L1 + j_L1 = 6 → (ma_L1, wa_L1) = lp (s_L_spreads_L1 unit lane) i_L1 (xm, fun _ => 0) → (∀ k, ma_L1 k < 65536) → (∀ k, wa_L1 k < 65536) → V p l e { frames := 1, cells := 1, slots := 6, locals := 26 } s m args below meth c D A 13 1 6 (MQ below (QV D (TI cI) ([(ua, .inl (cI, 36, .inl (nA xu))), (ta, .inl (cI, 36, .inl (nA xt))), (fa, .inl (cI, 36, .inl (nA xf))), (ma, .inl (cI, 6, .inl (nA (s_L_spreads_xm xu xt xf live unit lane many xm))))]) A) args s 1 6 A) ([(wa, .inl (cI, 6, .inl (nA wa_L1))), (ua, .inl (cI, 36, .inl (nA xu))), (ta, .inl (cI, 36, .inl (nA xt))), (fa, .inl (cI, 36, .inl (nA xf))), (ma, .inl (cI, 6, .inl (nA ma_L1)))]) [(10, .int (nI i_L1)), (9, .ref wa), (0, .ref ua), (1, .ref ta), (2, .ref fa), (3, .long (nJ live)), (5, .int (nI unit)), (6, .int (nI lane)), (7, .int (nI many)), (8, .ref ma)] 9 [] by
    have h0_L1 := LP_L1 6 0 xm (fun _ => 0) (Nat.zero_add _) (lp_zero _ _).symm hm z16
    exact v_sub (lv' := [(10, .int (nI 0)), (9, .ref wa), (0, .ref ua), (1, .ref ta), (2, .ref fa), (3, .long (nJ live)), (5, .int (nI unit)), (6, .int (nI lane)), (7, .int (nI many)), (8, .ref ma)]) [0, 1, 2, 3, 4, 5, 6, 7, 8, 9] rfl h0_L1
  intro j_L1
  induction j_L1 with
  | zero =>
    intro i_L1 ma_L1 wa_L1 hi_L1 hs_L1 hm_L1 hw_L1
    have hi_L1 : 6 = i_L1 := by omega
    subst hi_L1
    refine v_iload C0 (pc' := 11) 0 rfl dL_spreads_9 rfl ?_
    refine v_bipush C0 (pc' := 13) (nI 6) (by decide +kernel) dL_spreads_11 rfl ?_
    refine v_icmp_geN C0 52 (pc' := 16) (by omega) (by omega) dL_spreads_13 (by decide) rfl (fun h1 => ?_) (fun h1 => ?_)
    · refine v_iconst C0 (pc' := 53) (nI 1) (by decide +kernel) dL_spreads_52 rfl ?_
      refine v_istore C0 (lv' := [(10, .int (nI 1)), (9, .ref wa), (0, .ref ua), (1, .ref ta), (2, .ref fa), (3, .long (nJ live)), (5, .int (nI unit)), (6, .int (nI lane)), (7, .int (nI many)), (8, .ref ma)]) (pc' := 55) (by decide) rfl dL_spreads_53 rfl ?_
      refine v_iconst C0 (pc' := 56) (nI 0) (by decide +kernel) dL_spreads_55 rfl ?_
      refine v_istore C0 (lv' := [(11, .int (nI 0)), (10, .int (nI 1)), (9, .ref wa), (0, .ref ua), (1, .ref ta), (2, .ref fa), (3, .long (nJ live)), (5, .int (nI unit)), (6, .int (nI lane)), (7, .int (nI many)), (8, .ref ma)]) (pc' := 58) (by decide) rfl dL_spreads_56 rfl ?_
      suffices LP_B : ∀ (j_B i_B : Nat) (ma_B : Nat → Nat) (wa_B : Nat → Nat) (grows_B : Nat), i_B + j_B = many → wl (fun z => z.2.2) (s_L_spreads_B xu xt xf live) many (ma_L1, wa_L1, 1) = wl (fun z => z.2.2) (s_L_spreads_B xu xt xf live) j_B (ma_B, wa_B, grows_B) → (∀ k, ma_B k < 65536) → (∀ k, wa_B k < 65536) → (grows_B ≤ 1) → V p l e { frames := 1, cells := 1, slots := 6, locals := 26 } s m args below meth c D A 13 1 6 (MQ below (QV D (TI cI) ([(ua, .inl (cI, 36, .inl (nA xu))), (ta, .inl (cI, 36, .inl (nA xt))), (fa, .inl (cI, 36, .inl (nA xf))), (ma, .inl (cI, 6, .inl (nA (s_L_spreads_xm xu xt xf live unit lane many xm))))]) A) args s 1 6 A) ([(wa, .inl (cI, 6, .inl (nA wa_B))), (ua, .inl (cI, 36, .inl (nA xu))), (ta, .inl (cI, 36, .inl (nA xt))), (fa, .inl (cI, 36, .inl (nA xf))), (ma, .inl (cI, 6, .inl (nA ma_B)))]) [(11, .int (nI i_B)), (10, .int (nI grows_B)), (9, .ref wa), (0, .ref ua), (1, .ref ta), (2, .ref fa), (3, .long (nJ live)), (5, .int (nI unit)), (6, .int (nI lane)), (7, .int (nI many)), (8, .ref ma)] 58 [] by
        exact v_sub (lv' := [(11, .int (nI 0)), (10, .int (nI 1)), (9, .ref wa), (0, .ref ua), (1, .ref ta), (2, .ref fa), (3, .long (nJ live)), (5, .int (nI unit)), (6, .int (nI lane)), (7, .int (nI many)), (8, .ref ma)]) [0, 1, 2, 3, 4, 5, 6, 7, 8, 9, 10] rfl (LP_B many 0 ma_L1 wa_L1 1 (Nat.zero_add _) rfl hm_L1 hw_L1 (Nat.le_refl 1))
      intro j_B
      induction j_B with
      | zero =>
        intro i_B ma_B wa_B grows_B hi_B hs_B hm_B hw_B hg_B
        have he_B : (ma_B, wa_B, grows_B) = wl (fun z => z.2.2) (s_L_spreads_B xu xt xf live) many (ma_L1, wa_L1, 1) := hs_B.symm
        refine v_iload C0 (pc' := 60) 0 rfl dL_spreads_58 rfl ?_
        refine v_iload C0 (pc' := 62) 9 rfl dL_spreads_60 rfl ?_
        refine v_icmp_geN C0 188 (pc' := 65) (by omega) (by omega) dL_spreads_62 (by decide) rfl (fun h2 => ?_) (fun h2 => ?_)
        · refine v_tail ?_
          refine v_world (ws' := [(ua, .inl (cI, 36, .inl (nA xu))), (ta, .inl (cI, 36, .inl (nA xt))), (fa, .inl (cI, 36, .inl (nA xf))), (ma, .inl (cI, 6, .inl (nA (s_L_spreads_xm xu xt xf live unit lane many xm))))]) (by simp only [s_L_spreads_xm, if_pos h2, ← hs_L1, ← he_B]) ?_
          exact v_vret C0 hr hlk hK dL_spreads_188
        · exact absurd (by omega) h2
      | succ j_B ih_B =>
        intro i_B ma_B wa_B grows_B hi_B hs_B hm_B hw_B hg_B
        refine v_iload C0 (pc' := 60) 0 rfl dL_spreads_58 rfl ?_
        refine v_iload C0 (pc' := 62) 9 rfl dL_spreads_60 rfl ?_
        refine v_icmp_geN C0 188 (pc' := 65) (by omega) (by omega) dL_spreads_62 (by decide) rfl (fun h3 => ?_) (fun h3 => ?_)
        · exact absurd h3 (by omega)
        · refine v_iload C0 (pc' := 67) 1 rfl dL_spreads_65 rfl ?_
          refine v_if_eqN C0 188 (pc' := 70) (by omega) dL_spreads_67 (by decide) rfl (fun h4 => ?_) (fun h4 => ?_)
          · have he_B : (ma_B, wa_B, grows_B) = wl (fun z => z.2.2) (s_L_spreads_B xu xt xf live) many (ma_L1, wa_L1, 1) := by rw [hs_B]; exact (wl_stop (p := (fun z => z.2.2)) (s := (ma_B, wa_B, grows_B)) h4).symm
            refine v_tail ?_
            refine v_world (ws' := [(ua, .inl (cI, 36, .inl (nA xu))), (ta, .inl (cI, 36, .inl (nA xt))), (fa, .inl (cI, 36, .inl (nA xf))), (ma, .inl (cI, 6, .inl (nA (s_L_spreads_xm xu xt xf live unit lane many xm))))]) (by simp only [s_L_spreads_xm, if_neg h3, if_pos h4, ← hs_L1, ← he_B]) ?_
            exact v_vret C0 hr hlk hK dL_spreads_188
          · refine v_iconst C0 (pc' := 71) (nI 0) (by decide +kernel) dL_spreads_70 rfl ?_
            refine v_istore C0 (lv' := [(12, .int (nI 0)), (11, .int (nI i_B)), (10, .int (nI grows_B)), (9, .ref wa), (0, .ref ua), (1, .ref ta), (2, .ref fa), (3, .long (nJ live)), (5, .int (nI unit)), (6, .int (nI lane)), (7, .int (nI many)), (8, .ref ma)]) (pc' := 73) (by decide) rfl dL_spreads_71 rfl ?_
            suffices LP_L2 : ∀ (j_L2 i_L2 : Nat) (wa_L2 : Nat → Nat), i_L2 + j_L2 = 36 → wa_L2 = lp (s_L_spreads_L2 xu xt xf live ma_B) i_L2 wa_B → (∀ k, wa_L2 k < 65536) → V p l e { frames := 1, cells := 1, slots := 6, locals := 26 } s m args below meth c D A 13 1 6 (MQ below (QV D (TI cI) ([(ua, .inl (cI, 36, .inl (nA xu))), (ta, .inl (cI, 36, .inl (nA xt))), (fa, .inl (cI, 36, .inl (nA xf))), (ma, .inl (cI, 6, .inl (nA (s_L_spreads_xm xu xt xf live unit lane many xm))))]) A) args s 1 6 A) ([(wa, .inl (cI, 6, .inl (nA wa_L2))), (ua, .inl (cI, 36, .inl (nA xu))), (ta, .inl (cI, 36, .inl (nA xt))), (fa, .inl (cI, 36, .inl (nA xf))), (ma, .inl (cI, 6, .inl (nA ma_B)))]) [(12, .int (nI i_L2)), (11, .int (nI i_B)), (9, .ref wa), (0, .ref ua), (1, .ref ta), (2, .ref fa), (3, .long (nJ live)), (5, .int (nI unit)), (6, .int (nI lane)), (7, .int (nI many)), (8, .ref ma)] 73 [] by
              have h0_L2 := LP_L2 36 0 wa_B (Nat.zero_add _) (lp_zero _ _).symm hw_B
              exact v_sub (lv' := [(12, .int (nI 0)), (11, .int (nI i_B)), (9, .ref wa), (0, .ref ua), (1, .ref ta), (2, .ref fa), (3, .long (nJ live)), (5, .int (nI unit)), (6, .int (nI lane)), (7, .int (nI many)), (8, .ref ma)]) [0, 1, 3, 4, 5, 6, 7, 8, 9, 10, 11] rfl h0_L2
            intro j_L2
            induction j_L2 with
            | zero =>
              intro i_L2 wa_L2 hi_L2 hs_L2 hw_L2
              have hi_L2 : 36 = i_L2 := by omega
              subst hi_L2
              refine v_iload C0 (pc' := 75) 0 rfl dL_spreads_73 rfl ?_
              refine v_bipush C0 (pc' := 77) (nI 36) (by decide +kernel) dL_spreads_75 rfl ?_
              refine v_icmp_geN C0 128 (pc' := 80) (by omega) (by omega) dL_spreads_77 (by decide) rfl (fun h5 => ?_) (fun h5 => ?_)
              · refine v_iconst C0 (pc' := 129) (nI 0) (by decide +kernel) dL_spreads_128 rfl ?_
                refine v_istore C0 (lv' := [(10, .int (nI 0)), (12, .int (nI 36)), (11, .int (nI i_B)), (9, .ref wa), (0, .ref ua), (1, .ref ta), (2, .ref fa), (3, .long (nJ live)), (5, .int (nI unit)), (6, .int (nI lane)), (7, .int (nI many)), (8, .ref ma)]) (pc' := 131) (by decide) rfl dL_spreads_129 rfl ?_
                refine v_iconst C0 (pc' := 132) (nI 0) (by decide +kernel) dL_spreads_131 rfl ?_
                refine v_istore C0 (lv' := [(12, .int (nI 0)), (10, .int (nI 0)), (11, .int (nI i_B)), (9, .ref wa), (0, .ref ua), (1, .ref ta), (2, .ref fa), (3, .long (nJ live)), (5, .int (nI unit)), (6, .int (nI lane)), (7, .int (nI many)), (8, .ref ma)]) (pc' := 134) (by decide) rfl dL_spreads_132 rfl ?_
                suffices LP_L3 : ∀ (j_L3 i_L3 : Nat) (grows_L3 : Nat) (ma_L3 : Nat → Nat), i_L3 + j_L3 = 6 → (grows_L3, ma_L3) = lp (s_L_spreads_L3 wa_L2) i_L3 (0, ma_B) → (grows_L3 ≤ 1) → (∀ k, ma_L3 k < 65536) → V p l e { frames := 1, cells := 1, slots := 6, locals := 26 } s m args below meth c D A 13 1 6 (MQ below (QV D (TI cI) ([(ua, .inl (cI, 36, .inl (nA xu))), (ta, .inl (cI, 36, .inl (nA xt))), (fa, .inl (cI, 36, .inl (nA xf))), (ma, .inl (cI, 6, .inl (nA (s_L_spreads_xm xu xt xf live unit lane many xm))))]) A) args s 1 6 A) ([(wa, .inl (cI, 6, .inl (nA wa_L2))), (ua, .inl (cI, 36, .inl (nA xu))), (ta, .inl (cI, 36, .inl (nA xt))), (fa, .inl (cI, 36, .inl (nA xf))), (ma, .inl (cI, 6, .inl (nA ma_L3)))]) [(12, .int (nI i_L3)), (10, .int (nI grows_L3)), (11, .int (nI i_B)), (9, .ref wa), (0, .ref ua), (1, .ref ta), (2, .ref fa), (3, .long (nJ live)), (5, .int (nI unit)), (6, .int (nI lane)), (7, .int (nI many)), (8, .ref ma)] 134 [] by
                  have h0_L3 := LP_L3 6 0 0 ma_B (Nat.zero_add _) (lp_zero _ _).symm (Nat.zero_le 1) hm_B
                  exact v_sub (lv' := [(12, .int (nI 0)), (10, .int (nI 0)), (11, .int (nI i_B)), (9, .ref wa), (0, .ref ua), (1, .ref ta), (2, .ref fa), (3, .long (nJ live)), (5, .int (nI unit)), (6, .int (nI lane)), (7, .int (nI many)), (8, .ref ma)]) [0, 1, 2, 3, 4, 5, 6, 7, 8, 9, 10, 11] rfl h0_L3
                intro j_L3
                induction j_L3 with
                | zero =>
                  intro i_L3 grows_L3 ma_L3 hi_L3 hs_L3 hg_L3 hm_L3
                  have hi_L3 : 6 = i_L3 := by omega
                  subst hi_L3
                  refine v_iload C0 (pc' := 136) 0 rfl dL_spreads_134 rfl ?_
                  refine v_bipush C0 (pc' := 138) (nI 6) (by decide +kernel) dL_spreads_136 rfl ?_
                  refine v_icmp_geN C0 182 (pc' := 141) (by omega) (by omega) dL_spreads_138 (by decide) rfl (fun h6 => ?_) (fun h6 => ?_)
                  · refine v_iincN C0 (lv' := [(11, .int (nI (i_B + 1))), (12, .int (nI 6)), (10, .int (nI grows_L3)), (9, .ref wa), (0, .ref ua), (1, .ref ta), (2, .ref fa), (3, .long (nJ live)), (5, .int (nI unit)), (6, .int (nI lane)), (7, .int (nI many)), (8, .ref ma)]) (y := 1) (pc' := 185) 2 rfl (by decide) rfl dL_spreads_182 rfl ?_
                    refine v_goto C0 58 dL_spreads_185 (by decide) ?_
                    exact v_sub (lv' := [(11, .int (nI (i_B + 1))), (10, .int (nI grows_L3)), (9, .ref wa), (0, .ref ua), (1, .ref ta), (2, .ref fa), (3, .long (nJ live)), (5, .int (nI unit)), (6, .int (nI lane)), (7, .int (nI many)), (8, .ref ma)]) [0, 2, 3, 4, 5, 6, 7, 8, 9, 10, 11] rfl (ih_B (i_B + 1) ma_L3 wa_L2 grows_L3 (by omega) (by rw [hs_B, wl_go (p := (fun z => z.2.2)) (s := (ma_B, wa_B, grows_B)) h4]; simp only [s_L_spreads_B, if_neg h3, ← hs_L2, ← hs_L3]) hm_L3 hw_L2 hg_L3)
                  · exact absurd (by omega) h6
                | succ j_L3 ih_L3 =>
                  intro i_L3 grows_L3 ma_L3 hi_L3 hs_L3 hg_L3 hm_L3
                  refine v_iload C0 (pc' := 136) 0 rfl dL_spreads_134 rfl ?_
                  refine v_bipush C0 (pc' := 138) (nI 6) (by decide +kernel) dL_spreads_136 rfl ?_
                  refine v_icmp_geN C0 182 (pc' := 141) (by omega) (by omega) dL_spreads_138 (by decide) rfl (fun h7 => ?_) (fun h7 => ?_)
                  · exact absurd h7 (by omega)
                  · refine v_iload C0 (pc' := 143) 1 rfl dL_spreads_141 rfl ?_
                    refine v_if_neN C0 159 (pc' := 146) (by omega) dL_spreads_143 (by decide) rfl (fun h8 => ?_) (fun h8 => ?_)
                    · refine v_iconst C0 (pc' := 160) (nI 1) (by decide +kernel) dL_spreads_159 rfl ?_
                      refine v_goto C0 164 dL_spreads_160 (by decide) ?_
                      refine v_istore C0 (lv' := [(10, .int (nI 1)), (12, .int (nI i_L3)), (11, .int (nI i_B)), (9, .ref wa), (0, .ref ua), (1, .ref ta), (2, .ref fa), (3, .long (nJ live)), (5, .int (nI unit)), (6, .int (nI lane)), (7, .int (nI many)), (8, .ref ma)]) (pc' := 166) (by decide) rfl dL_spreads_164 rfl ?_
                      refine v_aload C0 (pc' := 168) 11 rfl dL_spreads_166 rfl ?_
                      refine v_iload C0 (pc' := 170) 1 rfl dL_spreads_168 rfl ?_
                      refine v_aload C0 (pc' := 172) 3 rfl dL_spreads_170 rfl ?_
                      refine v_iload C0 (pc' := 174) 1 rfl dL_spreads_172 rfl ?_
                      refine v_ialdN C0 hK (pc' := 175) 0 0 rfl rfl (by omega) (by decide) dL_spreads_174 rfl ?_
                      refine v_iastN C0 hK (ws' := [(wa, .inl (cI, 6, .inl (nA wa_L2))), (ua, .inl (cI, 36, .inl (nA xu))), (ta, .inl (cI, 36, .inl (nA xt))), (fa, .inl (cI, 36, .inl (nA xf))), (ma, .inl (cI, 6, .inl (nA (updN ma_L3 i_L3 (wa_L2 i_L3)))))]) (pc' := 176) 4 0 rfl rfl rfl (by omega) (by decide) dL_spreads_175 rfl ?_
                      refine v_iincN C0 (lv' := [(12, .int (nI (i_L3 + 1))), (10, .int (nI 1)), (11, .int (nI i_B)), (9, .ref wa), (0, .ref ua), (1, .ref ta), (2, .ref fa), (3, .long (nJ live)), (5, .int (nI unit)), (6, .int (nI lane)), (7, .int (nI many)), (8, .ref ma)]) (y := 1) (pc' := 179) 1 rfl (by decide) rfl dL_spreads_176 rfl ?_
                      refine v_goto C0 134 dL_spreads_179 (by decide) ?_
                      have hb := ih_L3 (i_L3 + 1) 1 (updN ma_L3 i_L3 (wa_L2 i_L3)) (by omega) (by rw [lp_succ, ← hs_L3]; simp only [s_L_spreads_L3, if_neg h7, if_neg h8]) (by omega) (updN_lt hm_L3 (hw_L2 _))
                      exact v_sub (lv' := [(12, .int (nI (i_L3 + 1))), (10, .int (nI 1)), (11, .int (nI i_B)), (9, .ref wa), (0, .ref ua), (1, .ref ta), (2, .ref fa), (3, .long (nJ live)), (5, .int (nI unit)), (6, .int (nI lane)), (7, .int (nI many)), (8, .ref ma)]) [0, 1, 2, 3, 4, 5, 6, 7, 8, 9, 10, 11] rfl hb
                    · refine v_aload C0 (pc' := 148) 3 rfl dL_spreads_146 rfl ?_
                      refine v_iload C0 (pc' := 150) 0 rfl dL_spreads_148 rfl ?_
                      refine v_ialdN C0 hK (pc' := 151) 0 0 rfl rfl (by omega) (by decide) dL_spreads_150 rfl ?_
                      refine v_aload C0 (pc' := 153) 11 rfl dL_spreads_151 rfl ?_
                      refine v_iload C0 (pc' := 155) 0 rfl dL_spreads_153 rfl ?_
                      refine v_ialdN C0 hK (pc' := 156) 4 0 rfl rfl (by omega) (by decide) dL_spreads_155 rfl ?_
                      refine v_icmp_eqN C0 163 (pc' := 159) (by have := hw_L2 i_L3; omega) (by have := hm_L3 i_L3; omega) dL_spreads_156 (by decide) rfl (fun h9 => ?_) (fun h9 => ?_)
                      · refine v_iconst C0 (pc' := 164) (nI 0) (by decide +kernel) dL_spreads_163 rfl ?_
                        refine v_istore C0 (lv' := [(10, .int (nI 0)), (12, .int (nI i_L3)), (11, .int (nI i_B)), (9, .ref wa), (0, .ref ua), (1, .ref ta), (2, .ref fa), (3, .long (nJ live)), (5, .int (nI unit)), (6, .int (nI lane)), (7, .int (nI many)), (8, .ref ma)]) (pc' := 166) (by decide) rfl dL_spreads_164 rfl ?_
                        refine v_aload C0 (pc' := 168) 11 rfl dL_spreads_166 rfl ?_
                        refine v_iload C0 (pc' := 170) 1 rfl dL_spreads_168 rfl ?_
                        refine v_aload C0 (pc' := 172) 3 rfl dL_spreads_170 rfl ?_
                        refine v_iload C0 (pc' := 174) 1 rfl dL_spreads_172 rfl ?_
                        refine v_ialdN C0 hK (pc' := 175) 0 0 rfl rfl (by omega) (by decide) dL_spreads_174 rfl ?_
                        refine v_iastN C0 hK (ws' := [(wa, .inl (cI, 6, .inl (nA wa_L2))), (ua, .inl (cI, 36, .inl (nA xu))), (ta, .inl (cI, 36, .inl (nA xt))), (fa, .inl (cI, 36, .inl (nA xf))), (ma, .inl (cI, 6, .inl (nA (updN ma_L3 i_L3 (wa_L2 i_L3)))))]) (pc' := 176) 4 0 rfl rfl rfl (by omega) (by decide) dL_spreads_175 rfl ?_
                        refine v_iincN C0 (lv' := [(12, .int (nI (i_L3 + 1))), (10, .int (nI 0)), (11, .int (nI i_B)), (9, .ref wa), (0, .ref ua), (1, .ref ta), (2, .ref fa), (3, .long (nJ live)), (5, .int (nI unit)), (6, .int (nI lane)), (7, .int (nI many)), (8, .ref ma)]) (y := 1) (pc' := 179) 1 rfl (by decide) rfl dL_spreads_176 rfl ?_
                        refine v_goto C0 134 dL_spreads_179 (by decide) ?_
                        have hb := ih_L3 (i_L3 + 1) 0 (updN ma_L3 i_L3 (wa_L2 i_L3)) (by omega) (by rw [lp_succ, ← hs_L3]; simp only [s_L_spreads_L3, if_neg h7, if_pos h8, if_pos h9]) (by omega) (updN_lt hm_L3 (hw_L2 _))
                        exact v_sub (lv' := [(12, .int (nI (i_L3 + 1))), (10, .int (nI 0)), (11, .int (nI i_B)), (9, .ref wa), (0, .ref ua), (1, .ref ta), (2, .ref fa), (3, .long (nJ live)), (5, .int (nI unit)), (6, .int (nI lane)), (7, .int (nI many)), (8, .ref ma)]) [0, 1, 2, 3, 4, 5, 6, 7, 8, 9, 10, 11] rfl hb
                      · refine v_iconst C0 (pc' := 160) (nI 1) (by decide +kernel) dL_spreads_159 rfl ?_
                        refine v_goto C0 164 dL_spreads_160 (by decide) ?_
                        refine v_istore C0 (lv' := [(10, .int (nI 1)), (12, .int (nI i_L3)), (11, .int (nI i_B)), (9, .ref wa), (0, .ref ua), (1, .ref ta), (2, .ref fa), (3, .long (nJ live)), (5, .int (nI unit)), (6, .int (nI lane)), (7, .int (nI many)), (8, .ref ma)]) (pc' := 166) (by decide) rfl dL_spreads_164 rfl ?_
                        refine v_aload C0 (pc' := 168) 11 rfl dL_spreads_166 rfl ?_
                        refine v_iload C0 (pc' := 170) 1 rfl dL_spreads_168 rfl ?_
                        refine v_aload C0 (pc' := 172) 3 rfl dL_spreads_170 rfl ?_
                        refine v_iload C0 (pc' := 174) 1 rfl dL_spreads_172 rfl ?_
                        refine v_ialdN C0 hK (pc' := 175) 0 0 rfl rfl (by omega) (by decide) dL_spreads_174 rfl ?_
                        refine v_iastN C0 hK (ws' := [(wa, .inl (cI, 6, .inl (nA wa_L2))), (ua, .inl (cI, 36, .inl (nA xu))), (ta, .inl (cI, 36, .inl (nA xt))), (fa, .inl (cI, 36, .inl (nA xf))), (ma, .inl (cI, 6, .inl (nA (updN ma_L3 i_L3 (wa_L2 i_L3)))))]) (pc' := 176) 4 0 rfl rfl rfl (by omega) (by decide) dL_spreads_175 rfl ?_
                        refine v_iincN C0 (lv' := [(12, .int (nI (i_L3 + 1))), (10, .int (nI 1)), (11, .int (nI i_B)), (9, .ref wa), (0, .ref ua), (1, .ref ta), (2, .ref fa), (3, .long (nJ live)), (5, .int (nI unit)), (6, .int (nI lane)), (7, .int (nI many)), (8, .ref ma)]) (y := 1) (pc' := 179) 1 rfl (by decide) rfl dL_spreads_176 rfl ?_
                        refine v_goto C0 134 dL_spreads_179 (by decide) ?_
                        have hb := ih_L3 (i_L3 + 1) 1 (updN ma_L3 i_L3 (wa_L2 i_L3)) (by omega) (by rw [lp_succ, ← hs_L3]; simp only [s_L_spreads_L3, if_neg h7, if_pos h8, if_neg h9]) (by omega) (updN_lt hm_L3 (hw_L2 _))
                        exact v_sub (lv' := [(12, .int (nI (i_L3 + 1))), (10, .int (nI 1)), (11, .int (nI i_B)), (9, .ref wa), (0, .ref ua), (1, .ref ta), (2, .ref fa), (3, .long (nJ live)), (5, .int (nI unit)), (6, .int (nI lane)), (7, .int (nI many)), (8, .ref ma)]) [0, 1, 2, 3, 4, 5, 6, 7, 8, 9, 10, 11] rfl hb
              · exact absurd (by omega) h5
            | succ j_L2 ih_L2 =>
              intro i_L2 wa_L2 hi_L2 hs_L2 hw_L2
              refine v_iload C0 (pc' := 75) 0 rfl dL_spreads_73 rfl ?_
              refine v_bipush C0 (pc' := 77) (nI 36) (by decide +kernel) dL_spreads_75 rfl ?_
              refine v_icmp_geN C0 128 (pc' := 80) (by omega) (by omega) dL_spreads_77 (by decide) rfl (fun h10 => ?_) (fun h10 => ?_)
              · exact absurd h10 (by omega)
              · refine v_lload_n C0 (pc' := 81) 6 rfl rfl dL_spreads_80 rfl ?_
                refine v_iload C0 (pc' := 83) 0 rfl dL_spreads_81 rfl ?_
                refine v_lshrN C0 (pc' := 84) (by omega) (by omega) dL_spreads_83 rfl ?_
                refine v_lconst C0 (pc' := 85) 1 rfl dL_spreads_84 rfl ?_
                refine v_land1 C0 (pc' := 86) dL_spreads_85 rfl ?_
                refine v_lconst C0 (pc' := 87) 1 rfl dL_spreads_86 rfl ?_
                refine v_lc1 C0 122 (pc1 := 88) (pc' := 91) (by omega) dL_spreads_87 rfl dL_spreads_88 (by decide) rfl (fun h11 => ?_) (fun h11 => ?_)
                · refine v_iincN C0 (lv' := [(12, .int (nI (i_L2 + 1))), (11, .int (nI i_B)), (9, .ref wa), (0, .ref ua), (1, .ref ta), (2, .ref fa), (3, .long (nJ live)), (5, .int (nI unit)), (6, .int (nI lane)), (7, .int (nI many)), (8, .ref ma)]) (y := 1) (pc' := 125) 0 rfl (by decide) rfl dL_spreads_122 rfl ?_
                  refine v_goto C0 73 dL_spreads_125 (by decide) ?_
                  have hb := ih_L2 (i_L2 + 1) wa_L2 (by omega) (by rw [lp_succ, ← hs_L2]; simp only [s_L_spreads_L2, if_neg h10, if_neg h11]) hw_L2
                  exact v_sub (lv' := [(12, .int (nI (i_L2 + 1))), (11, .int (nI i_B)), (9, .ref wa), (0, .ref ua), (1, .ref ta), (2, .ref fa), (3, .long (nJ live)), (5, .int (nI unit)), (6, .int (nI lane)), (7, .int (nI many)), (8, .ref ma)]) [0, 1, 2, 3, 4, 5, 6, 7, 8, 9, 10] rfl hb
                · refine v_aload C0 (pc' := 93) 2 rfl dL_spreads_91 rfl ?_
                  refine v_aload_n C0 (pc' := 94) 5 rfl rfl dL_spreads_93 rfl ?_
                  refine v_iload C0 (pc' := 96) 0 rfl dL_spreads_94 rfl ?_
                  refine v_ialdN C0 hK (pc' := 97) 3 0 rfl rfl (by have := hlv i_L2 (by omega) h11; omega) (by decide) dL_spreads_96 rfl ?_
                  refine v_iconst C0 (pc' := 98) (nI 1) (by decide +kernel) dL_spreads_97 rfl ?_
                  refine v_isub C0 (pc' := 99) dL_spreads_98 rfl ?_
                  refine v_bipush C0 (pc' := 101) (nI 6) (by decide +kernel) dL_spreads_99 rfl ?_
                  refine v_idivP C0 (pc' := 102) (by have := hf i_L2; have := hlv i_L2 (by omega) h11; omega) dL_spreads_101 rfl ?_
                  refine v_dup2 C0 (pc' := 103) rfl rfl dL_spreads_102 rfl ?_
                  refine v_ialdN C0 hK (pc' := 104) 0 0 rfl rfl (by have := hf i_L2; have := hlv i_L2 (by omega) h11; omega) (by decide) dL_spreads_103 rfl ?_
                  refine v_aload_n C0 (pc' := 105) 3 rfl rfl dL_spreads_104 rfl ?_
                  refine v_aload_n C0 (pc' := 106) 4 rfl rfl dL_spreads_105 rfl ?_
                  refine v_aload_n C0 (pc' := 107) 5 rfl rfl dL_spreads_106 rfl ?_
                  refine v_iload C0 (pc' := 109) 0 rfl dL_spreads_107 rfl ?_
                  refine v_aload C0 (pc' := 111) 10 rfl dL_spreads_109 rfl ?_
                  refine v_iload C0 (pc' := 113) 0 rfl dL_spreads_111 rfl ?_
                  refine v_bipush C0 (pc' := 115) (nI 6) (by decide +kernel) dL_spreads_113 rfl ?_
                  refine v_idivN C0 (pc' := 116) (by have := hlv i_L2 (by omega) h11; omega) (by decide) (by decide) dL_spreads_115 rfl ?_
                  refine v_ialdN C0 hK (pc' := 117) 4 0 rfl rfl (by have := hlv i_L2 (by omega) h11; omega) (by decide) dL_spreads_116 rfl ?_
                  refine v_callSi C0 (av := [.ref ua, .ref ta, .ref fa, .int (nI i_L2), .int (nI (ma_B (i_L2 / 6)))]) (rest := [.int (nI (wa_L2 (((xf i_L2) - 1) / 6))), .int (nI (((xf i_L2) - 1) / 6)), .ref wa]) (ws' := [(wa, .inl (cI, 6, .inl (nA wa_L2))), (ua, .inl (cI, 36, .inl (nA xu))), (ta, .inl (cI, 36, .inl (nA xt))), (fa, .inl (cI, 36, .inl (nA xf))), (ma, .inl (cI, 6, .inl (nA ma_B)))]) (pc' := 120) hK hA (k_L_comes l D cI ua ta fa xu xt xf i_L2 (ma_B (i_L2 / 6)) hu ht hf (by have := hlv i_L2 (by omega) h11; omega) (by have := hf i_L2; have := hlv i_L2 (by omega) h11; omega) (by have := hm_B (i_L2 / 6); have := hlv i_L2 (by omega) h11; omega)) (va_cwS 5 C0.2.2.2.2 gL_spreads_L_comes rfl rfl rfl (by decide +kernel) ⟨Nat.le_of_ble_eq_true rfl, Nat.le_of_ble_eq_true rfl⟩) (PLs.of (isC := [1, 2, 3]) (isR := [0, 4]) (isP := [0, 2, 3, 4, 1]) (wr := [(wa, .inl (cI, 6, .inl (nA wa_L2))), (ma, .inl (cI, 6, .inl (nA ma_B)))]) ⟨rfl, by decide, rfl, by decide, by decide, rfl, by decide⟩) rfl rfl (Nat.le_of_ble_eq_true rfl) ⟨(Nat.le_of_ble_eq_true rfl), (Nat.le_of_ble_eq_true rfl)⟩ dL_spreads_117 rfl ?_
                  refine v_iorN C0 (pc' := 121) dL_spreads_120 rfl ?_
                  refine v_iastN C0 hK (ws' := [(wa, .inl (cI, 6, .inl (nA (updN wa_L2 (((xf i_L2) - 1) / 6) ((wa_L2 (((xf i_L2) - 1) / 6)) ||| (s_L_comes xu xt xf i_L2 (ma_B (i_L2 / 6)))))))), (ua, .inl (cI, 36, .inl (nA xu))), (ta, .inl (cI, 36, .inl (nA xt))), (fa, .inl (cI, 36, .inl (nA xf))), (ma, .inl (cI, 6, .inl (nA ma_B)))]) (pc' := 122) 0 0 rfl rfl rfl (by have := hf i_L2; have := hlv i_L2 (by omega) h11; omega) (by decide) dL_spreads_121 rfl ?_
                  refine v_iincN C0 (lv' := [(12, .int (nI (i_L2 + 1))), (11, .int (nI i_B)), (9, .ref wa), (0, .ref ua), (1, .ref ta), (2, .ref fa), (3, .long (nJ live)), (5, .int (nI unit)), (6, .int (nI lane)), (7, .int (nI many)), (8, .ref ma)]) (y := 1) (pc' := 125) 0 rfl (by decide) rfl dL_spreads_122 rfl ?_
                  refine v_goto C0 73 dL_spreads_125 (by decide) ?_
                  have hb := ih_L2 (i_L2 + 1) (updN wa_L2 (((xf i_L2) - 1) / 6) ((wa_L2 (((xf i_L2) - 1) / 6)) ||| (s_L_comes xu xt xf i_L2 (ma_B (i_L2 / 6))))) (by omega) (by rw [lp_succ, ← hs_L2]; simp only [s_L_spreads_L2, if_neg h10, if_pos h11]) (updN_lt hw_L2 (or_lt16 (hw_L2 _) (lt_comes hu (hm_B _))))
                  exact v_sub (lv' := [(12, .int (nI (i_L2 + 1))), (11, .int (nI i_B)), (9, .ref wa), (0, .ref ua), (1, .ref ta), (2, .ref fa), (3, .long (nJ live)), (5, .int (nI unit)), (6, .int (nI lane)), (7, .int (nI many)), (8, .ref ma)]) [0, 1, 2, 3, 4, 5, 6, 7, 8, 9, 10] rfl hb
    · exact absurd (by omega) h1
  | succ j_L1 ih_L1 =>
    intro i_L1 ma_L1 wa_L1 hi_L1 hs_L1 hm_L1 hw_L1
    refine v_iload C0 (pc' := 11) 0 rfl dL_spreads_9 rfl ?_
    refine v_bipush C0 (pc' := 13) (nI 6) (by decide +kernel) dL_spreads_11 rfl ?_
    refine v_icmp_geN C0 52 (pc' := 16) (by omega) (by omega) dL_spreads_13 (by decide) rfl (fun h12 => ?_) (fun h12 => ?_)
    · exact absurd h12 (by omega)
    · refine v_aload C0 (pc' := 18) 9 rfl dL_spreads_16 rfl ?_
      refine v_iload C0 (pc' := 20) 0 rfl dL_spreads_18 rfl ?_
      refine v_iload C0 (pc' := 22) 0 rfl dL_spreads_20 rfl ?_
      refine v_iload C0 (pc' := 24) 6 rfl dL_spreads_22 rfl ?_
      refine v_icmp_neN C0 34 (pc' := 27) (by omega) (by omega) dL_spreads_24 (by decide) rfl (fun h13 => ?_) (fun h13 => ?_)
      · refine v_iconst C0 (pc' := 35) (nI 0) (by decide +kernel) dL_spreads_34 rfl ?_
        refine v_iastN C0 hK (ws' := [(wa, .inl (cI, 6, .inl (nA wa_L1))), (ua, .inl (cI, 36, .inl (nA xu))), (ta, .inl (cI, 36, .inl (nA xt))), (fa, .inl (cI, 36, .inl (nA xf))), (ma, .inl (cI, 6, .inl (nA (updN ma_L1 i_L1 0))))]) (pc' := 36) 4 0 rfl rfl rfl (by omega) (by decide) dL_spreads_35 rfl ?_
        refine v_aload C0 (pc' := 38) 1 rfl dL_spreads_36 rfl ?_
        refine v_iload C0 (pc' := 40) 0 rfl dL_spreads_38 rfl ?_
        refine v_aload C0 (pc' := 42) 9 rfl dL_spreads_40 rfl ?_
        refine v_iload C0 (pc' := 44) 0 rfl dL_spreads_42 rfl ?_
        refine v_ialdN C0 hK (pc' := 45) 4 0 rfl rfl (by omega) (by decide) dL_spreads_44 rfl ?_
        refine v_eqn (y := 0) updN_s ?_
        refine v_iastN C0 hK (ws' := [(wa, .inl (cI, 6, .inl (nA (updN wa_L1 i_L1 0)))), (ua, .inl (cI, 36, .inl (nA xu))), (ta, .inl (cI, 36, .inl (nA xt))), (fa, .inl (cI, 36, .inl (nA xf))), (ma, .inl (cI, 6, .inl (nA (updN ma_L1 i_L1 0))))]) (pc' := 46) 0 0 rfl rfl rfl (by omega) (by decide) dL_spreads_45 rfl ?_
        refine v_iincN C0 (lv' := [(10, .int (nI (i_L1 + 1))), (9, .ref wa), (0, .ref ua), (1, .ref ta), (2, .ref fa), (3, .long (nJ live)), (5, .int (nI unit)), (6, .int (nI lane)), (7, .int (nI many)), (8, .ref ma)]) (y := 1) (pc' := 49) 0 rfl (by decide) rfl dL_spreads_46 rfl ?_
        refine v_goto C0 9 dL_spreads_49 (by decide) ?_
        have hb := ih_L1 (i_L1 + 1) (updN ma_L1 i_L1 0) (updN wa_L1 i_L1 0) (by omega) (by rw [lp_succ, ← hs_L1]; simp only [s_L_spreads_L1, if_neg h12, if_neg h13]) (updN_lt hm_L1 (by decide)) (updN_lt hw_L1 (by decide))
        exact v_sub (lv' := [(10, .int (nI (i_L1 + 1))), (9, .ref wa), (0, .ref ua), (1, .ref ta), (2, .ref fa), (3, .long (nJ live)), (5, .int (nI unit)), (6, .int (nI lane)), (7, .int (nI many)), (8, .ref ma)]) [0, 1, 2, 3, 4, 5, 6, 7, 8, 9] rfl hb
      · refine v_iconst C0 (pc' := 28) (nI 1) (by decide +kernel) dL_spreads_27 rfl ?_
        refine v_iload C0 (pc' := 30) 7 rfl dL_spreads_28 rfl ?_
        refine v_ishlN C0 (pc' := 31) (by omega) dL_spreads_30 rfl ?_
        refine v_goto C0 35 dL_spreads_31 (by decide) ?_
        refine v_iastN C0 hK (ws' := [(wa, .inl (cI, 6, .inl (nA wa_L1))), (ua, .inl (cI, 36, .inl (nA xu))), (ta, .inl (cI, 36, .inl (nA xt))), (fa, .inl (cI, 36, .inl (nA xf))), (ma, .inl (cI, 6, .inl (nA (updN ma_L1 i_L1 (2 ^ lane)))))]) (pc' := 36) 4 0 rfl rfl rfl (by omega) (by decide) dL_spreads_35 rfl ?_
        refine v_aload C0 (pc' := 38) 1 rfl dL_spreads_36 rfl ?_
        refine v_iload C0 (pc' := 40) 0 rfl dL_spreads_38 rfl ?_
        refine v_aload C0 (pc' := 42) 9 rfl dL_spreads_40 rfl ?_
        refine v_iload C0 (pc' := 44) 0 rfl dL_spreads_42 rfl ?_
        refine v_ialdN C0 hK (pc' := 45) 4 0 rfl rfl (by omega) (by decide) dL_spreads_44 rfl ?_
        refine v_eqn (y := 2 ^ lane) updN_s ?_
        refine v_iastN C0 hK (ws' := [(wa, .inl (cI, 6, .inl (nA (updN wa_L1 i_L1 (2 ^ lane))))), (ua, .inl (cI, 36, .inl (nA xu))), (ta, .inl (cI, 36, .inl (nA xt))), (fa, .inl (cI, 36, .inl (nA xf))), (ma, .inl (cI, 6, .inl (nA (updN ma_L1 i_L1 (2 ^ lane)))))]) (pc' := 46) 0 0 rfl rfl rfl (by omega) (by decide) dL_spreads_45 rfl ?_
        refine v_iincN C0 (lv' := [(10, .int (nI (i_L1 + 1))), (9, .ref wa), (0, .ref ua), (1, .ref ta), (2, .ref fa), (3, .long (nJ live)), (5, .int (nI unit)), (6, .int (nI lane)), (7, .int (nI many)), (8, .ref ma)]) (y := 1) (pc' := 49) 0 rfl (by decide) rfl dL_spreads_46 rfl ?_
        refine v_goto C0 9 dL_spreads_49 (by decide) ?_
        have hb := ih_L1 (i_L1 + 1) (updN ma_L1 i_L1 (2 ^ lane)) (updN wa_L1 i_L1 (2 ^ lane)) (by omega) (by rw [lp_succ, ← hs_L1]; simp only [s_L_spreads_L1, if_neg h12, if_pos h13]) (updN_lt hm_L1 (pow_lt16 hLa)) (updN_lt hw_L1 (pow_lt16 hLa))
        exact v_sub (lv' := [(10, .int (nI (i_L1 + 1))), (9, .ref wa), (0, .ref ua), (1, .ref ta), (2, .ref fa), (3, .long (nJ live)), (5, .int (nI unit)), (6, .int (nI lane)), (7, .int (nI many)), (8, .ref ma)]) [0, 1, 2, 3, 4, 5, 6, 7, 8, 9] rfl hb
