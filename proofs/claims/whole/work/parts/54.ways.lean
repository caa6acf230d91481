/-! ways up -/
theorem lay6v {f : Nat → (Nat → Int32) → Nat → Int32} {y : Nat → Int32} (hf : ∀ i, i < 6 → ∀ S, f i S i = y i ∧ ∀ v, v < 6 → v ≠ i → f i S v = S v) (S : Nat → Int32) {v : Nat} (hv : v < 6) : lp f 6 S v = y v := by
  have key : ∀ n, n ≤ 6 → ∀ v, v < n → lp f n S v = y v := by
    intro n
    induction n with
    | zero => intro _ v hv; omega
    | succ n ih =>
      intro hn v hv
      rw [lp_succ]
      by_cases q : v = n
      · subst q; exact (hf v (by omega) _).1
      · rw [(hf n (by omega) _).2 v (by omega) q]; exact ih (by omega) v (by omega)
  exact key 6 (Nat.le_refl 6) v hv
theorem slotX {u i : Nat} : nI u * 6 + nI i = nI (i + 6 * u) := by
  rw [show (6 : Int32) = nI 6 from rfl, pk_mul, nI_add, Nat.mul_comm, Nat.add_comm]
/-- both searches, port by port -/
def WW (F : Nat → Int32) (u : Nat) (W0 : Nat → Int32) (z : Int32 × Int32) (W : Nat → Int32) : Prop := (∀ v, v < 6 → v ≠ u → W v = W0 v) ∧ ((z = (-1, 6) ∧ W u = -1) ∨ ∃ s j, s < 36 ∧ s / 6 = u ∧ j < 36 ∧ F s = nI j ∧ z = (nI s, nI (j / 6)) ∧ W u = nI s)
theorem WW_self {F W0 W : Nat → Int32} {u : Nat} {z : Int32 × Int32} (hu : u < 6) (h : WW F u W0 z W) : WW F u W0 z (xPut 6 W (nI u) (W u)) := by
  rw [xPut_nI hu (by decide)]
  have e : upd W u (W u) = W := by
    funext v
    by_cases q : v = u
    · subst q; rw [pk_us]
    · rw [pk_un q]
  rw [e]; exact h
theorem WW_put {F W0 W : Nat → Int32} {u s j : Nat} {z : Int32 × Int32} (hu : u < 6) (h : WW F u W0 z W) (hs : s < 36) (hsu : s / 6 = u) (hj : j < 36) (e : F s = nI j) : WW F u W0 (nI s, nI (j / 6)) (xPut 6 W (nI u) (nI s)) := by
  rw [xPut_nI hu (by decide)]
  exact ⟨fun v hv hn => by rw [pk_un hn]; exact h.1 v hv hn, Or.inr ⟨s, j, hs, hsu, hj, e, rfl, pk_us⟩⟩
theorem way_step {F C C' RCx SUx : Nat → Int32} {k : Nat → Nat} (hF : WF F) (hC : WC F C C') (hX : SM RCx k) (hY : SM SUx k) (hk : ∀ v, v < 6 → k v ≤ 100) {u : Nat} (hu : u < 6) {i : Nat} (hi : i < 6) {W0 : Nat → Int32} {z : Int32 × Int32} {W : Nat → Int32} (h : WW F u W0 z W) : WW F u W0 (s_X0_bestWayUp_L1 F C RCx (nI u) i z) (s_X1_layTree_L6 F C' u SUx i W) := by
  obtain ⟨best, bu⟩ := z
  unfold s_X0_bestWayUp_L1 s_X1_layTree_L6
  have hs : i + 6 * u < 36 := by omega
  have hsu : (i + 6 * u) / 6 = u := by omega
  simp only [slotX]
  generalize i + 6 * u = s at hs hsu ⊢
  rw [xAt_nI hs (by decide), xAt_nI hs (by decide), xAt_nI hs (by decide), xAt_nI (f := W) hu (by decide), SM_at hX hu, SM_at hY hu]
  rcases hF s hs with h1 | ⟨j, hj, h1, h2, h3⟩
  · rw [if_pos h1, if_pos h1]; exact WW_self hu h
  · obtain ⟨c, c1, c2, c3, c4, -⟩ := hC s hs (by rw [h1]; exact nI_m1 (by omega))
    have b1 := hk (j / 6) (by omega)
    have b2 := hk u hu
    rw [h1, if_neg (nI_m1 (show j < 2 ^ 31 by omega)), if_neg (nI_m1 (show j < 2 ^ 31 by omega)), nI_d6 hj, SM_at hX (show j / 6 < 6 by omega), SM_at hY (show j / 6 < 6 by omega), c3, c4, nI_add]
    by_cases q : nI (c + k (j / 6)) = nI (k u)
    · rw [if_pos q, if_pos q]
      rcases h.2 with ⟨g1, g2⟩ | ⟨s2, j2, g1, g2, g3, g4, g5, g6⟩
      · cases g1
        rw [if_pos g2, if_neg (show ¬ (6 : Int32) ≤ nI (j / 6) from nI_ge (b := 6) (by omega) (by decide))]
        exact WW_put hu h hs hsu hj h1
      · cases g5
        rw [g6, if_neg (nI_m1 (show s2 < 2 ^ 31 by omega)), xAt_nI g1 (by decide), g4, nI_d6 g3]
        by_cases q2 : nI (j2 / 6) ≤ nI (j / 6)
        · rw [if_pos q2, if_pos q2]
          have h7 := WW_self hu h
          rw [g6] at h7
          exact h7
        · rw [if_neg q2, if_neg q2]; exact WW_put hu h hs hsu hj h1
    · rw [if_neg q, if_neg q]; exact WW_self hu h
theorem way_root {F C C' RCx : Nat → Int32} {k : Nat → Nat} (hF : WF F) (hC : WC F C C') (hX : SM RCx k) (hk : ∀ v, v < 6 → k v ≤ 100) {u : Nat} (hu : u < 6) (h0 : k u = 0) : s_X0_bestWayUp F C RCx (nI u) = -1 := by
  unfold s_X0_bestWayUp
  have h := lp_inv (fun z => z = ((-1 : Int32), (6 : Int32))) (f := s_X0_bestWayUp_L1 F C RCx (nI u)) 6 (fun i hi a ha => ?_) _ rfl
  · rw [h]
  · subst ha
    unfold s_X0_bestWayUp_L1
    have hs : i + 6 * u < 36 := by omega
    simp only [slotX]
    generalize i + 6 * u = s at hs ⊢
    rw [xAt_nI hs (by decide), xAt_nI hs (by decide), SM_at hX hu]
    rcases hF s hs with h1 | ⟨j, hj, h1, -, -⟩
    · rw [if_pos h1]
    · obtain ⟨c, c1, c2, c3, c4, -⟩ := hC s hs (by rw [h1]; exact nI_m1 (by omega))
      have b1 := hk (j / 6) (by omega)
      rw [h1, if_neg (nI_m1 (show j < 2 ^ 31 by omega)), nI_d6 hj, SM_at hX (show j / 6 < 6 by omega), c3, nI_add, h0, if_neg]
      intro q
      have := (nI_eq (by omega) (by omega)).mp q
      omega
/-- the way up of switch u: none, or a slot of its own with a cable -/
def WS (F : Nat → Int32) (u : Nat) (x : Int32) : Prop := x = -1 ∨ ∃ s, s < 36 ∧ s / 6 = u ∧ x = nI s ∧ ¬ F s = -1
theorem way_eq {F C C' : Nat → Int32} (hF : WF F) (hC : WC F C C') (RU RC WU WT RO WY SU : Nat → Int32) {v : Nat} (hv : v < 6) : s_X0_growTree_WU F C RU RC WU WT v = s_X1_layTree_WY F C' RO WY SU v ∧ WS F v (s_X0_growTree_WU F C RU RC WU WT v) := by
  have hX : SM (s_X0_growTree_RC F C RU RC WT) (costN F C) := costX hF hC RU RC WT
  have hY : SM (s_X1_layTree_SU F C' RO SU) (costN F C) := costY hF hC RO SU
  have hR : SM (s_X1_layTree_RO F RO) (rootN F) := rootY hF RO
  have hk : ∀ v, v < 6 → costN F C v ≤ 100 := fun v hv => cost_le hF hC hv
  have e1 : s_X0_growTree_WU F C RU RC WU WT v = s_X0_bestWayUp F C (s_X0_growTree_RC F C RU RC WT) (nI v) := by
    unfold s_X0_growTree_WU
    refine lay6v (y := fun v => s_X0_bestWayUp F C (s_X0_growTree_RC F C RU RC WT) (nI v)) (fun i hi S => ?_) WU hv
    have e : s_X0_growTree_L1 F C RU RC WT i S = upd S i (s_X0_bestWayUp F C (s_X0_growTree_RC F C RU RC WT) (nI i)) := by
      show xPut 6 S (nI i) _ = _
      rw [xPut_nI hi (by decide)]; rfl
    rw [e]
    exact ⟨pk_us, fun v _ hn => pk_un hn⟩
  have key : ∀ (u : Nat) (W : Nat → Int32), u < 6 → s_X1_layTree_L5 F C' (s_X1_layTree_RO F RO) (s_X1_layTree_SU F C' RO SU) u W u = s_X0_bestWayUp F C (s_X0_growTree_RC F C RU RC WT) (nI u) ∧ (∀ v, v < 6 → v ≠ u → s_X1_layTree_L5 F C' (s_X1_layTree_RO F RO) (s_X1_layTree_SU F C' RO SU) u W v = W v) ∧ WS F u (s_X0_bestWayUp F C (s_X0_growTree_RC F C RU RC WT) (nI u)) := by
    intro u W hu
    unfold s_X1_layTree_L5
    rw [SM_at hR hu]
    have h0 := root_le F u
    by_cases q : rootN F u = u
    · have h1 := way_root hF hC hX hk hu (cost_root q)
      rw [if_pos (by rw [q]), h1, xPut_nI hu (by decide)]
      exact ⟨pk_us, fun v _ hn => pk_un hn, Or.inl rfl⟩
    · rw [if_neg (fun z => q ((nI_eq (by omega) (by omega)).mp z))]
      have hW : WW F u W (-1, 6) (xPut 6 W (nI u) (-1)) := by
        rw [xPut_nI hu (by decide)]
        exact ⟨fun v _ hn => pk_un hn, Or.inl ⟨rfl, pk_us⟩⟩
      have h2 := lp_rel (WW F u W) 6 (fun i hi a b hab => way_step hF hC hX hY hk hu hi hab) _ _ hW
      refine ⟨?_, h2.1, ?_⟩
      · unfold s_X0_bestWayUp
        rcases h2.2 with ⟨g1, g2⟩ | ⟨s, j, -, -, -, -, g1, g2⟩
        · rw [g1, g2]
        · rw [g1, g2]
      · unfold s_X0_bestWayUp
        rcases h2.2 with ⟨g1, g2⟩ | ⟨s, j, g0, g3, g4, g5, g1, g2⟩
        · rw [g1]; exact Or.inl rfl
        · rw [g1]; exact Or.inr ⟨s, g0, g3, rfl, by rw [g5]; exact nI_m1 (by omega)⟩
  refine ⟨?_, ?_⟩
  · rw [e1]
    refine Eq.symm (lay6v (f := s_X1_layTree_L5 F C' (s_X1_layTree_RO F RO) (s_X1_layTree_SU F C' RO SU)) (y := fun v => s_X0_bestWayUp F C (s_X0_growTree_RC F C RU RC WT) (nI v)) (fun i hi S => ?_) WY hv)
    exact ⟨(key i S hi).1, (key i S hi).2.1⟩
  · rw [e1]; exact (key v WU hv).2.2
