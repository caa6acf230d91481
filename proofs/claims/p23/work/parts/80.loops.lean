/-! loops, and what ports and cables tell one by one -/
theorem bc_sb {x : Nat} (hx : x < 65536) : s_J6_bitCount_0f7a4 (nI x) = nI (sb x 16) := by
  have hh : x / 256 < 256 := by omega
  have hl : x % 256 < 256 := Nat.mod_lt _ (by decide)
  obtain ⟨p1, p2, p3⟩ := b12 hh hl
  rw [Nat.div_add_mod] at p1 p2 p3
  obtain ⟨r1, r2, r3⟩ := by3 _ hh
  obtain ⟨t1, t2, t3⟩ := by3 _ hl
  obtain ⟨w1, w2, w3⟩ := b345 _ (show nb (x / 256) / 16 < 5 by omega) _ (show nb (x / 256) % 16 < 5 by omega) _ (show nb (x % 256) / 16 < 5 by omega) _ (show nb (x % 256) % 16 < 5 by omega)
  rw [Nat.div_add_mod, Nat.div_add_mod, ← p3] at w1 w2 w3
  have w0 : b2 (b1 x) < 65536 := by rw [p3]; omega
  have i1 : bc1 (nI x) = nI (b1 x) := by
    unfold bc1
    rw [show (1 : Int32) = nI 1 from rfl, nx_ush hx (by decide), show (1431655765 : Int32) = nI 1431655765 from rfl, nx_and]
    exact sub_nI p1
  have i2 : bc2 (nI (b1 x)) = nI (b2 (b1 x)) := by
    unfold bc2
    rw [show (2 : Int32) = nI 2 from rfl, nx_ush p2 (by decide), show (858993459 : Int32) = nI 858993459 from rfl, nx_and, nx_and, nI_add]
    rfl
  have i3 : bc3 (nI (b2 (b1 x))) = nI (b3 (b2 (b1 x))) := by
    unfold bc3
    rw [show (4 : Int32) = nI 4 from rfl, nx_ush w0 (by decide), show (252645135 : Int32) = nI 252645135 from rfl, nI_add, nx_and]
    rfl
  have i4 : bc4 (nI (b3 (b2 (b1 x)))) = nI (b4 (b3 (b2 (b1 x)))) := by
    unfold bc4
    rw [show (8 : Int32) = nI 8 from rfl, nx_ush w1 (by decide), nI_add]
    rfl
  have i5 : bc5 (nI (b4 (b3 (b2 (b1 x))))) = nI (b5 (b4 (b3 (b2 (b1 x))))) := by
    unfold bc5
    rw [show (16 : Int32) = nI 16 from rfl, nx_ush w2 (by decide), nI_add]
    rfl
  unfold s_J6_bitCount_0f7a4
  rw [i1, i2, i3, i4, i5, show (63 : Int32) = nI 63 from rfl, nx_and]
  have e : sb x 16 = Nat.land (b5 (b4 (b3 (b2 (b1 x))))) 63 := by
    rw [w3, ← sb_split x 8 (Nat.le_refl 8)]
    omega
  rw [e]
  rfl
theorem sm_swapN (g : Nat → Nat → Nat) (m : Nat) : ∀ n, fb_sm (fun i => fb_sm (g i) m) n = fb_sm (fun j => fb_sm (fun i => g i j) n) m := by
  intro n
  induction n with
  | zero =>
    have h : fb_sm (fun _ => 0) m = 0 := by rw [fb_sm_const, Nat.mul_zero]
    exact h.symm
  | succ n ih =>
    rw [fb_sm_succ, ih, ← fb_sm_add]
    rfl
theorem sm_ind (a x : Nat) : ∀ n, fb_sm (fun j => if j = a then x else 0) n = if a < n then x else 0 := by
  intro n
  induction n with
  | zero => rfl
  | succ n ih =>
    rw [fb_sm_succ, ih]
    by_cases h : a < n
    · rw [if_pos h, if_neg (by omega), if_pos (by omega), Nat.add_zero]
    · rw [if_neg h]
      by_cases e : n = a
      · rw [if_pos e, if_pos (by omega), Nat.zero_add]
      · rw [if_neg e, if_neg (by omega)]
section LPS
variable {xu xt xf xc : Nat → Nat} {F WU : Nat → Int32} {TR : Int32} {live : Nat}
/-- the lanes that go over a cable, tagged and bare -/
def ww (xu xt xf : Nat → Nat) (s : Nat) : Nat := sb (xt s &&& xt (xf s - 1)) 16 + (if xu s = 0 then 0 else (if xu (xf s - 1) = 0 then 0 else 1))
def eE (xu xt xf : Nat → Nat) (live s : Nat) : Nat := if live / 2 ^ s % 2 = 1 then ww xu xt xf s else 0
def eH (xu xt xf : Nat → Nat) (live s : Nat) : Nat := if live / 2 ^ s % 2 = 1 ∧ s < xf s - 1 then ww xu xt xf s else 0
def eL (xu xt xf : Nat → Nat) (live s : Nat) : Nat := if live / 2 ^ s % 2 = 1 ∧ xf s - 1 < s then ww xu xt xf s else 0
def pP (xu xt : Nat → Nat) (s : Nat) : Nat := if s % 6 = 0 then sb (s_L_used xu xt (s / 6)) 16 else 0
theorem loops_lp : ∀ n, lp (s_L_loops_L1 xu xt xf live) n (0, 0) = (fb_sm (eE xu xt xf live) n, fb_sm (pP xu xt) n) := by
  intro n
  induction n with
  | zero => rfl
  | succ n ih =>
    rw [lp_succ, ih, fb_sm_succ, fb_sm_succ]
    unfold s_L_loops_L1 eE pP ww
    by_cases q1 : live / 2 ^ n % 2 = 1
    · by_cases q2 : xu n = 0
      · by_cases q4 : n % 6 = 0
        · simp only [if_pos q1, if_pos q2, if_pos q4]
        · simp only [if_pos q1, if_pos q2, if_neg q4]
      · by_cases q3 : xu (xf n - 1) = 0
        · by_cases q4 : n % 6 = 0
          · simp only [if_pos q1, if_neg q2, if_pos q3, if_pos q4]
          · simp only [if_pos q1, if_neg q2, if_pos q3, if_neg q4]
        · by_cases q4 : n % 6 = 0
          · simp only [if_pos q1, if_neg q2, if_neg q3, if_pos q4]
          · simp only [if_pos q1, if_neg q2, if_neg q3, if_neg q4]
    · by_cases q4 : n % 6 = 0
      · simp only [if_neg q1, if_pos q4, Nat.add_zero]
      · simp only [if_neg q1, if_neg q4, Nat.add_zero]
theorem places_sm : fb_sm (pP xu xt) 36 = fb_sm (fun u => sb (s_L_used xu xt u) 16) 6 := by
  have key : ∀ n, fb_sm (pP xu xt) (6 * n) = fb_sm (fun u => sb (s_L_used xu xt u) 16) n := by
    intro n
    induction n with
    | zero => rfl
    | succ n ih =>
      have e0 : pP xu xt (6 * n) = sb (s_L_used xu xt n) 16 := by unfold pP; rw [if_pos (by omega), show 6 * n / 6 = n by omega]
      have e1 : ∀ i, 1 ≤ i → i < 6 → pP xu xt (6 * n + i) = 0 := fun i h1 h2 => by unfold pP; rw [if_neg (by omega)]
      show fb_sm (pP xu xt) (6 * n) + pP xu xt (6 * n) + pP xu xt (6 * n + 1) + pP xu xt (6 * n + 2) + pP xu xt (6 * n + 3) + pP xu xt (6 * n + 4) + pP xu xt (6 * n + 5) = _
      rw [ih, e0, e1 1 (by decide) (by decide), e1 2 (by decide) (by decide), e1 3 (by decide) (by decide), e1 4 (by decide) (by decide), e1 5 (by decide) (by decide)]
      rfl
  exact key 6
theorem live_back (hf : ∀ k, xf k ≤ 36) (hS : FS xf xc) (hX : FX xf F) (hL : LV F WU TR live) {s : Nat} (hs : s < 36) (h : live / 2 ^ s % 2 = 1) : xf s - 1 < 36 ∧ live / 2 ^ (xf s - 1) % 2 = 1 ∧ xf (xf s - 1) - 1 = s ∧ xf s - 1 ≠ s := by
  have h0 := LV_f hf hX hL s hs h
  have h1 := hf s
  obtain ⟨g1, g2, -, -⟩ := hS s hs h0
  have hj : xf s - 1 < 36 := by omega
  have e1 := FX1 hX hs h0
  have e2 := FX1 hX hj (by rw [g1]; omega)
  rw [g1, Nat.add_sub_cancel] at e2
  exact ⟨hj, (hL _ hj).mpr (live_sym hs hj e1 e2 ((hL s hs).mp h)), by omega, fun z => g2 (by rw [z])⟩
theorem ww_sym {s : Nat} (h : xf (xf s - 1) - 1 = s) : ww xu xt xf (xf s - 1) = ww xu xt xf s := by
  unfold ww
  rw [h, Nat.and_comm]
  by_cases q1 : xu s = 0
  · by_cases q2 : xu (xf s - 1) = 0
    · simp only [if_pos q1, if_pos q2]
    · simp only [if_pos q1, if_neg q2]
  · by_cases q2 : xu (xf s - 1) = 0
    · simp only [if_neg q1, if_pos q2]
    · simp only [if_neg q1, if_neg q2]
theorem ends_two (hf : ∀ k, xf k ≤ 36) (hS : FS xf xc) (hX : FX xf F) (hL : LV F WU TR live) : fb_sm (eE xu xt xf live) 36 = 2 * fb_sm (eH xu xt xf live) 36 := by
  have e : fb_sm (eE xu xt xf live) 36 = fb_sm (eH xu xt xf live) 36 + fb_sm (eL xu xt xf live) 36 := by
    rw [← fb_sm_add]
    refine fb_sm_cong fun s hs => ?_
    unfold eE eH eL
    by_cases q : live / 2 ^ s % 2 = 1
    · obtain ⟨-, -, -, g⟩ := live_back hf hS hX hL hs q
      rw [if_pos q]
      by_cases q2 : s < xf s - 1
      · rw [if_pos ⟨q, q2⟩, if_neg (fun z => by have := z.2; omega), Nat.add_zero]
      · rw [if_neg (fun z => q2 z.2), if_pos ⟨q, by omega⟩, Nat.zero_add]
    · rw [if_neg q, if_neg (fun z => q z.1), if_neg (fun z => q z.1)]
  have e2 : fb_sm (eL xu xt xf live) 36 = fb_sm (eH xu xt xf live) 36 := by
    have a1 : fb_sm (eL xu xt xf live) 36 = fb_sm (fun s => fb_sm (fun j => if j = xf s - 1 then eL xu xt xf live s else 0) 36) 36 := by
      refine fb_sm_cong fun s hs => ?_
      rw [sm_ind]
      by_cases q : xf s - 1 < 36
      · rw [if_pos q]
      · rw [if_neg q]
        unfold eL
        rw [if_neg (fun z => q (live_back hf hS hX hL hs z.1).1)]
    have a2 : fb_sm (eH xu xt xf live) 36 = fb_sm (fun j => fb_sm (fun s => if s = xf j - 1 then eH xu xt xf live j else 0) 36) 36 := by
      refine fb_sm_cong fun s hs => ?_
      rw [sm_ind]
      by_cases q : xf s - 1 < 36
      · rw [if_pos q]
      · rw [if_neg q]
        unfold eH
        rw [if_neg (fun z => q (live_back hf hS hX hL hs z.1).1)]
    rw [a1, a2, sm_swapN]
    refine fb_sm_cong fun j hj => fb_sm_cong fun s hs => ?_
    by_cases q1 : live / 2 ^ s % 2 = 1 ∧ j = xf s - 1
    · obtain ⟨g1, g2, g3, g4⟩ := live_back hf hS hX hL hs q1.1
      rw [← q1.2] at g2 g3
      rw [if_pos q1.2, if_pos g3.symm]
      unfold eL eH
      have hw := ww_sym (xu := xu) (xt := xt) (xf := xf) (s := s) (by rw [← q1.2]; exact g3)
      rw [← q1.2] at hw
      rw [← q1.2, g3]
      by_cases q2 : j < s
      · rw [if_pos ⟨q1.1, q2⟩, if_pos ⟨g2, q2⟩, hw]
      · rw [if_neg (fun z => q2 z.2), if_neg (fun z => q2 z.2)]
    · have z1 : (if j = xf s - 1 then eL xu xt xf live s else 0) = 0 := by
        by_cases q2 : j = xf s - 1
        · rw [if_pos q2]; unfold eL; rw [if_neg (fun z => q1 ⟨z.1, q2⟩)]
        · rw [if_neg q2]
      rw [z1]
      by_cases q2 : s = xf j - 1
      · rw [if_pos q2]
        unfold eH
        by_cases q3 : live / 2 ^ j % 2 = 1
        · obtain ⟨g1, g2, g3, g4⟩ := live_back hf hS hX hL hj q3
          rw [← q2] at g2 g3
          exact absurd ⟨g2, g3.symm⟩ q1
        · rw [if_neg (fun z => q3 z.1)]
      · rw [if_neg q2]
  rw [e, e2]; omega
theorem ways_nI (hu : ∀ k, xu k ≤ 15) (ht : ∀ k, xt k < 65536) (hf : ∀ k, xf k ≤ 36) (hX : FX xf F) (hL : LV F WU TR live) : ∀ n, n ≤ 36 → lp (s_X0_countWays_L1 (nA xu) (nA xt) F WU TR) n 0 = nI (fb_sm (eH xu xt xf live) n) := by
  intro n
  induction n with
  | zero => intro _; rfl
  | succ n ih =>
    intro hn
    rw [lp_succ, ih (by omega), fb_sm_succ]
    have hs : n < 36 := by omega
    unfold s_X0_countWays_L1 eH
    by_cases q : live / 2 ^ n % 2 = 1
    · have h0 := LV_f hf hX hL n hs q
      have h1 := hf n
      have hj : xf n - 1 < 36 := by omega
      rw [if_neg ((hL n hs).mp q), xAt_nI (f := F) hs (by decide), FX1 hX hs h0]
      by_cases q2 : n < xf n - 1
      · rw [if_neg (nI_ge q2 (by omega)), if_pos ⟨q, q2⟩, ← nI_add]
        refine congrArg _ ?_
        have hb : s_J6_bitCount_0f7a4 (nI (xt n) &&& nI (xt (xf n - 1))) = nI (sb (xt n &&& xt (xf n - 1)) 16) := by
          rw [nx_and, bc_sb (Nat.lt_of_le_of_lt Nat.and_le_left (ht n))]
        unfold s_X0_waysOver ww
        rw [xAt_nI (f := nA xu) hs (by decide), xAt_nI (f := nA xu) hj (by decide), xAt_nI (f := nA xt) hs (by decide), xAt_nI (f := nA xt) hj (by decide)]
        show (if nI (xu n) = 0 then s_J6_bitCount_0f7a4 (nI (xt n) &&& nI (xt (xf n - 1))) else (if nI (xu (xf n - 1)) = 0 then s_J6_bitCount_0f7a4 (nI (xt n) &&& nI (xt (xf n - 1))) else s_J6_bitCount_0f7a4 (nI (xt n) &&& nI (xt (xf n - 1))) + 1)) = _
        rw [hb]
        by_cases q3 : xu n = 0
        · rw [if_pos q3, if_pos (by rw [q3]; rfl), Nat.add_zero]
        · rw [if_neg q3, if_neg (nI_ne0 (by omega) (by have := hu n; omega))]
          by_cases q4 : xu (xf n - 1) = 0
          · rw [if_pos q4, if_pos (by rw [q4]; rfl), Nat.add_zero]
          · rw [if_neg q4, if_neg (nI_ne0 (by omega) (by have := hu (xf n - 1); omega)), nI_1]
      · rw [if_pos (nI_le (by omega) (by omega)), if_neg (fun z => q2 z.2), Nat.add_zero]
    · have q0 : s_X0_hasLiveCable F WU TR (nI n) = 0 := Classical.byContradiction fun z => q ((hL n hs).mpr z)
      rw [if_pos q0, if_neg (fun z => q z.1), Nat.add_zero]
theorem usedP_nI (hu : ∀ k, xu k ≤ 15) (hG : TG xu xt) : s_X0_countUsedPlaces (nA xu) (nA xt) = nI (fb_sm (fun u => sb (s_L_used xu xt u) 16) 6) := by
  have inner : ∀ u, u < 6 → ∀ n, n ≤ 15 → ∀ z, lp (s_X0_countUsedPlaces_L2 (nA xu) (nA xt) u) n (nI z) = nI (z + fb_ct (fun l => (s_L_used xu xt u).testBit (1 + l)) n) := by
    intro u hU n
    induction n with
    | zero => intro _ z; rfl
    | succ n ih =>
      intro hn z
      rw [lp_succ, ih (by omega), fb_ct_succ]
      have hp : 16 * u + (n + 1) < 96 := by omega
      have e1 : (16 * u + (n + 1)) / 16 = u := by omega
      have e2 : (16 * u + (n + 1)) % 16 = n + 1 := by omega
      have h1 := used0 (U := nA xu) (T := nA xt) hp
      have h2 := used_iff hu hG hp
      rw [e1, e2] at h1 h2
      unfold s_X0_countUsedPlaces_L2
      rw [Nat.add_comm 1 n]
      by_cases q : s_X0_isUsed (nA xu) (nA xt) (nI u) (nI (n + 1)) = 0
      · rw [if_pos q, if_neg (fun z => (h1.mp q) (h2.mp z).1), Nat.add_zero]
      · have hb : (s_L_used xu xt u).testBit (n + 1) = true := h2.mpr ⟨Classical.byContradiction fun z => q (h1.mpr z), by omega⟩
        rw [if_neg q, if_pos hb, nI_1, Nat.add_assoc]
  have outer : ∀ n, n ≤ 6 → lp (s_X0_countUsedPlaces_L1 (nA xu) (nA xt)) n 0 = nI (fb_sm (fun u => sb (s_L_used xu xt u) 16) n) := by
    intro n
    induction n with
    | zero => intro _; rfl
    | succ n ih =>
      intro hn
      rw [lp_succ, ih (by omega), fb_sm_succ]
      unfold s_X0_countUsedPlaces_L1
      rw [inner n (by omega) 15 (Nat.le_refl 15), sb_ct]
      have e := fb_ct_split (fun k => (s_L_used xu xt n).testBit k) 1 15
      have e0 : fb_ct (fun k => (s_L_used xu xt n).testBit k) 1 = 0 := by
        refine fb_ct_zero.mpr fun k hk => ?_
        have h0 : k = 0 := by omega
        subst h0
        cases g : (s_L_used xu xt n).testBit 0
        · rfl
        · have h2 := used_iff (p := 16 * n) hu hG (by omega)
          rw [show 16 * n / 16 = n by omega, show 16 * n % 16 = 0 by omega] at h2
          have := (h2.mp g).2
          omega
      have e3 : fb_ct (fun k => (s_L_used xu xt n).testBit k) 16 = fb_ct (fun k => (s_L_used xu xt n).testBit k) 1 + fb_ct (fun k => (s_L_used xu xt n).testBit (1 + k)) 15 := e
      rw [e3, e0, Nat.zero_add]
  exact outer 6 (Nat.le_refl 6)
theorem loops_eq (hu : ∀ k, xu k ≤ 15) (ht : ∀ k, xt k < 65536) (hG : TG xu xt) (hf : ∀ k, xf k ≤ 36) (hS : FS xf xc) (hX : FX xf F) (hF : WF F) (hL : LV F WU TR live) (ST RP : Nat → Int32) : s_X0_loops (nA xu) (nA xt) F WU ST RP TR = s_L_loops xu xt xf live := by
  unfold s_X0_loops s_L_loops
  rw [islands_eq hu ht hG hf hX hF hL, usedP_nI hu hG, loops_lp, places_sm]
  have h1 : s_X0_countWays (nA xu) (nA xt) F WU TR = nI (fb_sm (eH xu xt xf live) 36) := ways_nI hu ht hf hX hL 36 (Nat.le_refl 36)
  rw [h1, ends_two hf hS hX hL, Nat.mul_div_cancel_left _ (by decide)]
/-! port by port -/
theorem bit_nI (hL : LV F WU TR live) {k : Nat} (hk : k < 36) : s_X0_hasLiveCable F WU TR (nI k) = nI (live / 2 ^ k % 2) := by
  have h1 : live / 2 ^ k % 2 < 2 := Nat.mod_lt _ (by decide)
  rcases b_X0_hasLiveCable F WU TR (nI k) with e | e
  · have h2 : ¬ live / 2 ^ k % 2 = 1 := fun z => (hL k hk).mp z e
    rw [e, show live / 2 ^ k % 2 = 0 by omega]; rfl
  · have h2 := (hL k hk).mpr (by rw [e]; decide)
    rw [e, h2]; rfl
theorem one_eq (ht : ∀ k, xt k < 65536) (hf : ∀ k, xf k ≤ 36) (hX : FX xf F) {k : Nat} (hk : k < 36) (h0 : ¬ xf k = 0) : s_J6_bitCount_0f7a4 (xAt 36 (nA xt) (nI k) ^^^ xAt 36 (nA xt) (xAt 36 F (nI k))) = nI (sb (xt k ^^^ xt (xf k - 1)) 16) := by
  rw [xAt_nI (f := F) hk (by decide), FX1 hX hk h0, xAt_nI (f := nA xt) hk (by decide), xAt_nI (f := nA xt) (show xf k - 1 < 36 by have := hf k; omega) (by decide)]
  show s_J6_bitCount_0f7a4 (nI (xt k) ^^^ nI (xt (xf k - 1))) = _
  rw [nx_xor, bc_sb]
  exact Nat.xor_lt_two_pow (n := 16) (ht k) (ht _)
/-- the lane, or none (16 and more) -/
def aI (x : Nat) : Int32 := if x < 16 then nI x else -1
def asF (come i a : Nat) : Nat := if come / 2 ^ (i + 1) % 2 = 1 then i + 1 else a
theorem as_none {come : Nat} : ∀ n, (∀ k, k < n → ¬ come.testBit (k + 1) = true) → ∀ a, lp (asF come) n a = a := by
  intro n
  induction n with
  | zero => intro _ a; rfl
  | succ n ih =>
    intro h a
    rw [lp_succ, ih (fun k hk => h k (by omega))]
    unfold asF
    rw [if_neg (fun z => h n (Nat.lt_succ_self n) (bit_iff.mp z))]
theorem as_one {come c : Nat} (h1 : 1 ≤ c) (hc : ∀ k, come.testBit (k + 1) = true ↔ k + 1 = c) : ∀ n, c ≤ n → ∀ a, lp (asF come) n a = c := by
  intro n
  induction n with
  | zero => intro h; omega
  | succ n ih =>
    intro h a
    rw [lp_succ]
    by_cases e : n + 1 = c
    · unfold asF
      rw [if_pos (bit_iff.mpr ((hc n).mpr e)), e]
    · rw [ih (by omega)]
      unfold asF
      rw [if_neg (fun z => e ((hc n).mp (bit_iff.mp z)))]
theorem comesAs_eq (hu : ∀ k, xu k ≤ 15) (hG : TG xu xt) (hf : ∀ k, xf k ≤ 36) (hX : FX xf F) (hF : WF F) {k l : Nat} (hk : k < 36) (h0 : ¬ xf k = 0) (hl1 : 1 ≤ l) (hl : l < 16) : s_X0_laneBeyond (nA xu) (nA xt) F (nI k) (nI l) = aI (lp (asF (s_L_comes xu xt xf k (2 ^ l))) 15 16) := by
  have hb : ∀ c, (s_L_comes xu xt xf k (2 ^ l)).testBit c = true ↔ ((xt k).testBit l = true ∧ (xt (xf k - 1)).testBit l = true ∧ c = l) ∨ ((xt k).testBit l = false ∧ xu k = l ∧ ¬ xu (xf k - 1) = 0 ∧ c = xu (xf k - 1)) := by
    intro c
    rw [comes_bit, Nat.testBit_two_pow, Nat.testBit_two_pow, decide_eq_true_iff, decide_eq_true_iff]
    constructor
    · rintro (⟨z1, z2, z3⟩ | ⟨z1, z2, z3, z4⟩)
      · subst z1; exact Or.inl ⟨z2, z3, rfl⟩
      · refine Or.inr ⟨?_, z3.symm, z2, z4⟩
        rw [z3]; exact (hG k hk).2 (by omega)
    · rintro (⟨z1, z2, z3⟩ | ⟨z1, z2, z3, z4⟩)
      · subst z3; exact Or.inl ⟨rfl, z1, z2⟩
      · exact Or.inr ⟨by omega, z3, z2.symm, z4⟩
  by_cases q : ∃ c, (s_L_comes xu xt xf k (2 ^ l)).testBit c = true
  · obtain ⟨c, hc⟩ := q
    have h1 := (hb c).mp hc
    have hc16 : c < 16 ∧ 1 ≤ c := by
      rcases h1 with ⟨-, -, e⟩ | ⟨-, -, e1, e⟩
      · omega
      · have := hu (xf k - 1); omega
    have uniq : ∀ i, (s_L_comes xu xt xf k (2 ^ l)).testBit (i + 1) = true ↔ i + 1 = c := by
      intro i
      refine ⟨fun z => ?_, fun z => by rw [z]; exact hc⟩
      have h2 := (hb (i + 1)).mp z
      rcases h1 with ⟨g1, g2, g3⟩ | ⟨g1, g2, g3, g4⟩
      · rcases h2 with ⟨k1, k2, k3⟩ | ⟨k1, k2, k3, k4⟩
        · omega
        · rw [k1] at g1; cases g1
      · rcases h2 with ⟨k1, k2, k3⟩ | ⟨k1, k2, k3, k4⟩
        · rw [k1] at g1; cases g1
        · omega
    rw [as_one hc16.2 uniq 15 (by omega)]
    unfold aI
    rw [if_pos hc16.1]
    exact (lane_iff hu hf hX hk h0 hl hc16.1).mpr h1
  · rw [as_none 15 (fun i _ z => q ⟨_, z⟩)]
    show _ = (-1 : Int32)
    rcases beyond_or (T := nA xt) (U := nA xu) (F := F) (k := k) (l := l) hF (WU_of hu) hk hl (by rw [FX1 hX hk h0]; exact nI_m1 (by have := hf k; omega)) with e | ⟨c, hc, e⟩
    · exact e
    · exact absurd ⟨c, (hb c).mpr ((lane_iff hu hf hX hk h0 hl hc).mp e)⟩ q
end LPS
