/-! the two walks alike, step by step -/
theorem d16 {p : Nat} (h : p < 96) : nI p / 16 = nI (p / 16) := by
  rw [show (16 : Int32) = nI 16 from rfl, pk_div (by omega) (by decide) (by decide)]
theorem m16 {p : Nat} (h : p < 96) : nI p - nI p / 16 * 16 = nI (p % 16) := by
  rw [show (16 : Int32) = nI 16 from rfl, pk_rem (by omega) (by decide) (by decide)]
theorem slot16 {p i : Nat} : nI (p / 16) * 6 + nI i = nI (p / 16 * 6 + i) := by
  rw [show (6 : Int32) = nI 6 from rfl, pk_mul, nI_add]
theorem live_0 {F WU : Nat → Int32} {TR : Int32} {k : Nat} (hk : k < 36) (h : F k = -1) : s_X0_hasLiveCable F WU TR (nI k) = 0 := by
  unfold s_X0_hasLiveCable
  rw [xAt_nI hk (by decide), if_pos h]
/-- the place beyond port s in lane l, as a number: none is 96 -/
def pbN (U T F WU : Nat → Int32) (TR : Int32) (s l : Nat) : Nat := if s_X0_placeBeyond U T F WU TR (nI s) (nI l) = -1 then 96 else (s_X0_placeBeyond U T F WU TR (nI s) (nI l)).toNatClampNeg
theorem pb_or {U T F WU : Nat → Int32} {TR : Int32} (hF : WF F) (hU : WU_ U) {s l : Nat} (hs : s < 36) (hl : l < 16) : (s_X0_placeBeyond U T F WU TR (nI s) (nI l) = -1 ∧ (s_X0_hasLiveCable F WU TR (nI s) = 0 ∨ s_X0_laneBeyond U T F (nI s) (nI l) = -1)) ∨ ∃ j c, j < 36 ∧ c < 16 ∧ F s = nI j ∧ ¬ s_X0_hasLiveCable F WU TR (nI s) = 0 ∧ s_X0_laneBeyond U T F (nI s) (nI l) = nI c ∧ s_X0_placeBeyond U T F WU TR (nI s) (nI l) = nI (16 * (j / 6) + c) := by
  unfold s_X0_placeBeyond
  by_cases h : s_X0_hasLiveCable F WU TR (nI s) = 0
  · rw [if_pos h]; exact Or.inl ⟨rfl, Or.inl h⟩
  · rw [if_neg h]
    rcases hF s hs with h1 | ⟨j, hj, h1, -, -⟩
    · exact absurd (live_0 hs h1) h
    · rcases beyond_or (T := T) hF hU hs hl (by rw [h1]; exact nI_m1 (by omega)) with h2 | ⟨c, hc, h2⟩
      · rw [if_pos h2]; exact Or.inl ⟨rfl, Or.inr h2⟩
      · rw [h2, if_neg (nI_m1 (by omega))]
        refine Or.inr ⟨j, c, hj, hc, h1, h, rfl, ?_⟩
        rw [xAt_nI hs (by decide), h1, nI_d6 hj, show (16 : Int32) = nI 16 from rfl, pk_mul, nI_add, Nat.mul_comm]
abbrev WK : Type := (Nat → Int32) × (Nat → Int32) × Int32
/-- the same steps, the same queue of q places; queue place k0 holds pp; fr is there -/
def RW (f0 : Nat) (z1 z2 : WK) (q : Nat) : Prop := z1.2.2 = nI q ∧ z2.2.2 = nI q ∧ BI z1.1 z1.2.1 q ∧ (∀ j, j < 96 → z1.1 j = z2.1 j) ∧ (∀ j, j < q → z1.2.1 j = z2.2.1 j) ∧ ¬ z1.1 f0 = -1
def RK (f0 k0 pp : Nat) (z1 z2 : WK) : Prop := ∃ q, RW f0 z1 z2 q ∧ k0 < q ∧ z1.2.1 k0 = nI pp
section SP
variable {U T F C WU : Nat → Int32} {TR : Int32} {RO WY SU : Nat → Int32} {f0 : Nat}
theorem RK_step (hF : WF F) (hU : WU_ U) (hT : WT_ U T) (hW : ∀ v, v < 6 → s_X1_layTree_WY F C RO WY SU v = WU v) (hf : f0 < 96) {k0 pp : Nat} (hp : pp < 96) {i : Nat} (hi : i < 6) {z1 z2 : WK} (h : RK f0 k0 pp z1 z2) : RK f0 k0 pp (s_X1_spread_L2 U T F C TR RO WY SU (nI f0) k0 i z1) (s_X0_reachNeighbours_L1 U T F WU TR (nI pp) i z2) := by
  obtain ⟨S1, Q1, N1⟩ := z1
  obtain ⟨S2, Q2, N2⟩ := z2
  obtain ⟨q, ⟨h1, h2, h3, h4, h5, h6⟩, hk, h7⟩ := h
  dsimp only at h1 h2 h3 h4 h5 h6 h7
  have hq := h3.1
  have hs : pp / 16 * 6 + i < 36 := by omega
  have hl : pp % 16 < 16 := Nat.mod_lt _ (by decide)
  have same : RK f0 k0 pp (S1, Q1, N1) (S2, Q2, N2) := ⟨q, ⟨h1, h2, h3, h4, h5, h6⟩, hk, h7⟩
  unfold s_X1_spread_L2 s_X0_reachNeighbours_L1
  dsimp only
  rw [xAt_nI (f := Q1) (show k0 < 96 by omega) (by decide), h7, m16 hp, d16 hp, slot16, xAt_nI hf (by decide), if_neg h6, live_eq hF hW hs]
  generalize pp / 16 * 6 + i = s at hs ⊢
  generalize pp % 16 = l at hl ⊢
  rcases pb_or (T := T) (WU := WU) (TR := TR) hF hU hs hl with ⟨e1, e2⟩ | ⟨j, c, hj, hc, e1, e2, e3, e4⟩
  · rw [if_pos e1]
    by_cases hL : s_X0_hasLiveCable F WU TR (nI s) = 0
    · rw [if_pos hL]; exact same
    · rcases hF s hs with g1 | ⟨j, hj, g1, -, -⟩
      · exact absurd (live_0 hs g1) hL
      · rw [if_neg hL, carried_eq hF hU hT hs hl (by rw [g1]; exact nI_m1 (by omega)), if_pos (e2.resolve_left hL)]
        exact same
  · rw [if_neg e2, carried_eq hF hU hT hs hl (by rw [e1]; exact nI_m1 (by omega)), e3, if_neg (nI_m1 (by omega)), e4, if_neg (nI_m1 (by omega)), xAt_nI hs (by decide), e1, nI_d6 hj]
    have e5 : s_X1_place (nI (j / 6)) (nI c) = nI (16 * (j / 6) + c) := by
      unfold s_X1_place
      rw [show (16 : Int32) = nI 16 from rfl, pk_mul, nI_add]
    rw [e5]
    have ht : 16 * (j / 6) + c < 96 := by omega
    generalize 16 * (j / 6) + c = t at ht ⊢
    rw [xAt_nI ht (by decide), xAt_nI ht (by decide), ← h4 t ht]
    by_cases hn : S1 t = -1
    · rw [if_pos hn, if_pos hn]
      obtain ⟨hq1, hne⟩ := BI_more h3 ht hn
      have hb := BK_add (t := nI t) ⟨q, h1, h3, hk⟩ (vp_in_nI ht (by decide)) (by rw [xAt_nI ht (by decide)]; exact hn)
      rw [xAt_nI (f := Q1) (show k0 < 96 by omega) (by decide), h7] at hb
      obtain ⟨q2, b1, b2, b3⟩ := hb
      have hq2 : q2 = q + 1 := by
        rw [h1, nI_1] at b1
        exact ((nI_eq (by omega) (by have := b2.1; omega)).mp b1).symm
      subst hq2
      unfold s_X0_reach_ST s_X0_reach_RP s_X0_reach_RN
      refine ⟨q + 1, ⟨b1, by rw [h2]; exact nI_1 q, b2, fun a ha => ?_, fun a ha => ?_, ?_⟩, by omega, ?_⟩
      · show xPut 96 S1 (nI t) _ a = xPut 96 S2 (nI t) _ a
        rw [xPut_nI ht (by decide), xPut_nI ht (by decide), xAt_nI hp (by decide), xAt_nI hp (by decide), h4 pp hp]
        by_cases q3 : a = t
        · subst q3; rw [pk_us, pk_us]
        · rw [pk_un q3, pk_un q3]; exact h4 a ha
      · show xPut 96 Q1 N1 _ a = xPut 96 Q2 N2 _ a
        rw [h1, h2, xPut_nI hq1 (by decide), xPut_nI hq1 (by decide)]
        by_cases q3 : a = q
        · subst q3; rw [pk_us, pk_us]
        · rw [pk_un q3, pk_un q3]; exact h5 a (by omega)
      · show ¬ xPut 96 S1 (nI t) _ f0 = -1
        rw [xPut_nI ht (by decide), pk_un (fun e => h6 (by rw [e]; exact hn))]
        exact h6
      · show xPut 96 Q1 N1 _ k0 = nI pp
        rw [h1, xPut_nI hq1 (by decide), pk_un (by omega)]
        exact h7
    · rw [if_neg hn, if_neg hn]; exact same
theorem sp_eq (hF : WF F) (hU : WU_ U) (hT : WT_ U T) (hW : ∀ v, v < 6 → s_X1_layTree_WY F C RO WY SU v = WU v) (hf : f0 < 96) : ∀ n m k (z1 z2 : WK) (q : Nat), RW f0 z1 z2 q → k ≤ q → 97 ≤ n + k → 97 ≤ m + k → ∃ q2, RW f0 (s_sp U T F C TR RO WY SU (nI f0) n k z1) (s_walk U T F WU TR m (nI k) z2) q2 := by
  intro n
  induction n with
  | zero => intro m k z1 z2 q h hk hn; have := h.2.2.1.1; omega
  | succ n ih =>
    intro m k z1 z2 q h hk hn hm
    obtain ⟨S1, Q1, N1⟩ := z1
    obtain ⟨S2, Q2, N2⟩ := z2
    have hq := h.2.2.1.1
    obtain ⟨m, rfl⟩ : ∃ z, m = z + 1 := ⟨m - 1, by omega⟩
    have hN1 : N1 = nI q := h.1
    have hN2 : N2 = nI q := h.2.1
    unfold s_sp s_walk
    by_cases hlt : k < q
    · have a1 : ¬ nI q ≤ nI k := nI_ge hlt (by omega)
      have a2 : ¬ (96 : Int32) ≤ nI k := nI_ge (b := 96) (by omega) (by decide)
      rw [hN1, hN2, if_neg a1, if_neg a1, if_neg a2, nI_1]
      obtain ⟨pp, d, hp, -, e1, -⟩ := h.2.2.1.2.1 k hlt
      have e1 : Q1 k = nI pp := e1
      have e2 : Q2 k = nI pp := by rw [← e1]; exact (h.2.2.2.2.1 k hlt).symm
      have hr := lp_rel (RK f0 k pp) (f := s_X1_spread_L2 U T F C TR RO WY SU (nI f0) k) (g := s_X0_reachNeighbours_L1 U T F WU TR (nI pp)) 6 (fun i hi a b hab => RK_step hF hU hT hW hf hp hi hab) (S1, Q1, nI q) (S2, Q2, nI q) ⟨q, ⟨rfl, rfl, h.2.2⟩, hlt, e1⟩
      obtain ⟨q3, h3, h4, -⟩ := hr
      rw [xAt_nI (f := Q2) (show k < 96 by omega) (by decide), e2]
      unfold s_X0_reachNeighbours_ST s_X0_reachNeighbours_RP s_X0_reachNeighbours_RN
      generalize lp (s_X0_reachNeighbours_L1 U T F WU TR (nI pp)) 6 (S2, Q2, nI q) = Z2 at h3 ⊢
      generalize lp (s_X1_spread_L2 U T F C TR RO WY SU (nI f0) k) 6 (S1, Q1, nI q) = Z1 at h3 h4 ⊢
      obtain ⟨c1, c2, c3⟩ := Z2
      exact ih m (k + 1) Z1 (c1, c2, c3) q3 h3 (by omega) (by omega) (by omega)
    · have a1 : nI q ≤ nI k := nI_le (by omega) (by omega)
      rw [hN1, hN2, if_pos a1, if_pos a1]
      exact ⟨q, rfl, rfl, h.2.2⟩
theorem sp_start {S1 S2 Q1 Q2 : Nat → Int32} (hS : ∀ j, j < 96 → S1 j = -1 ∧ S2 j = -1) (hf : f0 < 96) : RW f0 (xPut 96 S1 (nI f0) 0, xPut 96 Q1 0 (nI f0), 1) (s_X0_reach_ST S2 (nI f0) 0, s_X0_reach_RP Q2 0 (nI f0), s_X0_reach_RN 0) 1 := by
  obtain ⟨q, e, hb, -⟩ := BI_start (ST := S1) (QU := Q1) (vp_in_nI hf (by decide))
  have hq : q = 1 := ((nI_eq (a := 1) (by decide) (by have := hb.1; omega)).mp e).symm
  subst hq
  refine ⟨rfl, rfl, hb, fun j hj => ?_, fun j hj => ?_, ?_⟩
  · show xPut 96 S1 (nI f0) 0 j = xPut 96 S2 (nI f0) 0 j
    rw [xPut_nI hf (by decide), xPut_nI hf (by decide)]
    by_cases h : j = f0
    · subst h; rw [pk_us, pk_us]
    · rw [pk_un h, pk_un h, (hS j hj).1, (hS j hj).2]
  · have h0 : j = 0 := by omega
    subst h0
    show xPut 96 Q1 (nI 0) (nI f0) 0 = xPut 96 Q2 (nI 0) (nI f0) 0
    rw [xPut_nI (by decide) (by decide), xPut_nI (by decide) (by decide), pk_us, pk_us]
  · show ¬ xPut 96 S1 (nI f0) 0 f0 = -1
    rw [xPut_nI hf (by decide), pk_us]
    decide
theorem spread_0 (S1 : Nat → Int32) : ∀ j, j < 96 → lp s_X1_spread_L1 96 S1 j = -1 := by
  have key : ∀ n, n ≤ 96 → ∀ j, j < n → lp s_X1_spread_L1 n S1 j = -1 := by
    intro n
    induction n with
    | zero => intro _ j hj; omega
    | succ n ih =>
      intro hn j hj
      rw [lp_succ]
      show xPut 96 _ (nI n) (-1) j = -1
      rw [xPut_nI (by omega) (by decide)]
      by_cases h : j = n
      · subst h; rw [pk_us]
      · rw [pk_un h]; exact ih (by omega) j (by omega)
  exact key 96 (Nat.le_refl _)
theorem spread_go (hF : WF F) (hU : WU_ U) (hT : WT_ U T) (hW : ∀ v, v < 6 → s_X1_layTree_WY F C RO WY SU v = WU v) (hf : f0 < 96) (n m : Nat) (hn : 97 ≤ n) (hm : 97 ≤ m) (S1 S2 Q1 Q2 : Nat → Int32) (hS : ∀ j, j < 96 → S1 j = -1 ∧ S2 j = -1) : ∃ q, RW f0 (s_sp U T F C TR RO WY SU (nI f0) n 0 (xPut 96 S1 (nI f0) 0, xPut 96 Q1 0 (nI f0), 1)) (s_walk U T F WU TR m 0 (s_X0_reach_ST S2 (nI f0) 0, s_X0_reach_RP Q2 0 (nI f0), s_X0_reach_RN 0)) q := by
  have h := sp_eq (TR := TR) hF hU hT hW hf n m 0 _ _ 1 (sp_start (Q1 := Q1) (Q2 := Q2) hS hf) (by decide) (by omega) (by omega)
  rw [nI_0] at h
  exact h
theorem FU_ok : 97 ≤ s_FU := by unfold s_FU; exact Nat.le_of_ble_eq_true rfl
/-- spread and a walk from forgotten walks: the same steps, the same count -/
theorem spread_eq (hF : WF F) (hU : WU_ U) (hT : WT_ U T) (hW : ∀ v, v < 6 → s_X1_layTree_WY F C RO WY SU v = WU v) (hf : f0 < 96) (S1 Q1 S2 Q2 : Nat → Int32) : ∃ (q : Nat) (Z1 Z2 : WK), RW f0 Z1 Z2 q ∧ s_X1_spread_ST U T F C TR RO WY SU S1 Q1 (nI f0) = Z1.1 ∧ s_X1_spread_QN U T F C TR RO WY SU S1 Q1 (nI f0) = Z1.2.2 ∧ s_X0_walkFrom_ST U T F WU (s_X0_forgetWalks_ST S2) Q2 s_X0_forgetWalks_RN TR (nI f0) = Z2.1 ∧ s_X0_walkFrom_RN U T F WU (s_X0_forgetWalks_ST S2) Q2 s_X0_forgetWalks_RN TR (nI f0) = Z2.2.2 := by
  obtain ⟨q, h⟩ := spread_go (TR := TR) hF hU hT hW hf 97 s_FU (Nat.le_refl 97) FU_ok (lp s_X1_spread_L1 96 S1) (s_X0_forgetWalks_ST S2) Q1 Q2 (fun j hj => ⟨spread_0 S1 j hj, by show xFill S2 (-1) 96 j = -1; unfold xFill; rw [if_pos hj]⟩)
  refine ⟨q, _, _, h, ?_, ?_, ?_, ?_⟩
  · rw [s_X1_spread_ST]
  · rw [s_X1_spread_QN]
  · rw [s_X0_walkFrom_ST, s_X0_forgetWalks_RN]
  · rw [s_X0_walkFrom_RN, s_X0_forgetWalks_RN]
end SP
