/-! the two objects just made: one picture -/
theorem start_rows : ∀ n, n ≤ 36 → lp s_X1_init_L1 n ((fun _ => 0), (fun _ => 0)) = (xFill (fun _ => 0) (-1) n, xFill (fun _ => 0) (-1) n) := by
  intro n
  induction n with
  | zero => intro _; rw [lp_zero, xFill_0]
  | succ n ih =>
    intro hn
    rw [lp_succ, ih (by omega)]
    unfold s_X1_init_L1
    simp only [nI_clamp (n := n) (by omega), xFill_s]
theorem fill_at {f : Nat → Int32} {x : Int32} {k : Nat} (h : k < 36) : xFill f x 36 k = x := by unfold xFill; rw [if_pos h]
theorem start_WF : WF (xFill (fun _ => 0) (-1) 36) := fun _ hk => Or.inl (fill_at hk)
theorem start_WC : WC (xFill (fun _ => 0) (-1) 36) (fun _ => 0) (fun _ => 0) := fun _ hk hn => absurd (fill_at hk) hn
theorem start_IV (RU RC WU WT : Nat → Int32) : IV (fun _ => 0) (fun _ => 0) (xFill (fun _ => 0) (-1) 36) (fun _ => 0) (xFill (fun _ => 0) (-1) 36) (s_X0_growTree_RU (xFill (fun _ => 0) (-1) 36) RU WT) (s_X0_growTree_RC (xFill (fun _ => 0) (-1) 36) (fun _ => 0) RU RC WT) (s_X0_growTree_WU (xFill (fun _ => 0) (-1) 36) (fun _ => 0) RU RC WU WT) 0 0 (fun _ => 0) (xFill (fun _ => 0) (-1) 36) 0 :=
  ⟨start_WF, fun _ _ => ⟨0, by decide, nI_0.symm⟩, fun _ _ => ⟨0, by decide, nI_0.symm, Nat.zero_testBit 0, fun u _ _ _ => Nat.zero_testBit u⟩, start_WC, fun _ hk => Or.inl ⟨fill_at hk, fill_at hk⟩, Or.inl rfl, rfl, TV_grow start_WF start_WC RU RC WU WT⟩
theorem WP.x0 {cI : ClassId} {ad bd : Nat → Nat} {wx wy : va_W} {TH : Int32} (h : WP cI ad bd wx wy TH) : ∃ fs, wx[0]? = some (ad 0, .inr (0, fs)) := by
  obtain ⟨U, T, F, C, B, RU, RC, WU, ST, RP, RN, WT, SS, CC, TR, C', B', CM, RO, WY, SU, ST', QU, QN, FE, rfl, rfl, hI⟩ := h
  exact ⟨_, rfl⟩
theorem WP.y0 {cI : ClassId} {ad bd : Nat → Nat} {wx wy : va_W} {TH : Int32} (h : WP cI ad bd wx wy TH) : ∃ fs, wy[0]? = some (bd 0, .inr (1, fs)) := by
  obtain ⟨U, T, F, C, B, RU, RC, WU, ST, RP, RN, WT, SS, CC, TR, C', B', CM, RO, WY, SU, ST', QU, QN, FE, rfl, rfl, hI⟩ := h
  exact ⟨_, rfl⟩
theorem WP.th (l : Launch) (D : va_G) {cI : ClassId} {ad bd : Nat → Nat} {wx wy : va_W} {TH : Int32} (h : WP cI ad bd wx wy TH) : Ki l yX1_thrown wsX1_thrown 0 0 0 0 D (TI cI) [.ref (bd 0)] wy wy TH := by
  obtain ⟨U, T, F, C, B, RU, RC, WU, ST, RP, RN, WT, SS, CC, TR, C', B', CM, RO, WY, SU, ST', QU, QN, FE, rfl, rfl, hI⟩ := h
  have k := k_X1_thrown l D cI bd U T F C' B' CM TR RO WY SU TH ST' QU QN FE
  rw [s_X1_thrown] at k
  exact k
