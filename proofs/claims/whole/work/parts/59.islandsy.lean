section IY
variable {U T F C WU : Nat → Int32} {TR : Int32}
/-- the reference's question: no lower place has a step -/
theorem low_iff (S : Nat → Int32) : ∀ n, n ≤ 96 → (lp (s_X1_islandMany_L2 S) n 1 = 0 ↔ ¬ ∀ p', p' < n → S p' = -1) ∧ (lp (s_X1_islandMany_L2 S) n 1 = 0 ∨ lp (s_X1_islandMany_L2 S) n 1 = 1) := by
  intro n
  induction n with
  | zero => intro _; exact ⟨⟨fun h => absurd (show (1 : Int32) = 0 from h) (by decide), fun h => absurd (fun p' h' => absurd h' (Nat.not_lt_zero p')) h⟩, Or.inr rfl⟩
  | succ n ih =>
    intro hn
    obtain ⟨i1, i2⟩ := ih (by omega)
    rw [lp_succ]
    generalize lp (s_X1_islandMany_L2 S) n 1 = r at i1 i2
    unfold s_X1_islandMany_L2
    rw [xAt_nI (f := S) (show n < 96 by omega) (by decide)]
    by_cases h0 : r = 0
    · rw [if_pos h0]
      exact ⟨⟨fun _ g => i1.mp h0 (fun p' h' => g p' (by omega)), fun _ => rfl⟩, Or.inl rfl⟩
    · rw [if_neg h0]
      by_cases h1 : S n = -1
      · rw [if_pos h1]
        refine ⟨⟨fun z => absurd z (by decide), fun z => absurd (i1.mpr (fun g => z (fun p' h' => ?_))) h0⟩, Or.inr rfl⟩
        by_cases e : p' = n
        · subst e; exact h1
        · exact g p' (by omega)
      · rw [if_neg h1]
        exact ⟨⟨fun _ g => h1 (g n (by omega)), fun _ => rfl⟩, Or.inl rfl⟩
theorem low_0 (S : Nat → Int32) : ∀ n, lp (s_X1_islandMany_L2 S) n 0 = 0 := by
  intro n
  induction n with
  | zero => rfl
  | succ n ih => rw [lp_succ, ih]; unfold s_X1_islandMany_L2; rw [if_pos rfl]
/-- where the reference's spread comes -/
theorem spread_reach (hF : WF F) (hU : WU_ U) (hT : WT_ U T) {RO WY SU : Nat → Int32} (hW : ∀ v, v < 6 → s_X1_layTree_WY F C RO WY SU v = WU v) {p0 : Nat} (hp0 : p0 < 96) (S1 Q1 : Nat → Int32) : ∀ p, p < 96 → (¬ s_X1_spread_ST U T F C TR RO WY SU S1 Q1 (nI p0) p = -1 ↔ Rch U T F WU TR p0 p) := by
  obtain ⟨q, Z1, Z2, h, e1, -, e2, -⟩ := spread_eq (TR := TR) hF hU hT hW hp0 S1 Q1 (fun _ => 0) (fun _ => 0)
  have none : ∀ p, p < 96 → s_X0_forgetWalks_ST (fun _ => 0) p = -1 := fun p hp => by
    show xFill (fun _ => 0) (-1) 96 p = -1; unfold xFill; rw [if_pos hp]
  obtain ⟨q', Z, e3, -, -, -, k4⟩ := walk_reach (U := U) (T := T) (WU := WU) (TR := TR) (S := s_X0_forgetWalks_ST (fun _ => 0)) (R := fun _ => 0) (q0 := 0) hF hU ⟨⟨by decide, fun j hj => by omega, fun a b _ hb => by omega⟩, fun p hp h => absurd (none p hp) h⟩ (fun p hp h => absurd (none p hp) h) hp0 (none p0 hp0) s_FU FU_ok
  have e4 : Z2.1 = Z.1 := by
    rw [← e2, ← e3]
    unfold s_X0_walkFrom_ST
    rfl
  intro p hp
  rw [e1, h.2.2.2.1 p hp, e4, k4 p hp]
  exact ⟨fun z => z.elim (fun z => absurd (none p hp) z) id, Or.inr⟩
theorem islands_Y (hF : WF F) (hU : WU_ U) (hT : WT_ U T) (hW : ∀ RO WY SU v, v < 6 → s_X1_layTree_WY F C RO WY SU v = WU v) (RO WY SU ST QU : Nat → Int32) (QN : Int32) : CI U T F WU TR 96 (s_X1_islandMany U T F C TR RO WY SU ST QU QN) := by
  unfold s_X1_islandMany
  refine lp_invi (fun P (z : Int32 × (Nat → Int32) × (Nat → Int32) × (Nat → Int32) × (Nat → Int32) × (Nat → Int32) × Int32) => CI U T F WU TR P z.1) 96 (fun P hP z hz => ?_) _ rfl
  obtain ⟨n, RO, WY, SU, ST, QU, QN⟩ := z
  have hz : CI U T F WU TR P n := hz
  unfold s_X1_islandMany_L1
  dsimp only
  rcases used1 (T := T) hT hP with ⟨u1, u2⟩ | ⟨u1, u2⟩
  · rw [u1, if_pos rfl, low_0, if_pos rfl]
    exact ⟨n, hz, Or.inr ⟨fun z => u2 z.1, Int32.add_zero n⟩⟩
  · rw [u1, if_neg (show ¬ (1 : Int32) = 0 by decide)]
    have hr := spread_reach (TR := TR) hF hU hT (hW RO WY SU) hP ST QU
    generalize s_X1_spread_ST U T F C TR RO WY SU ST QU (nI P) = S at hr ⊢
    have hl := (low_iff S P (by omega)).1
    have hn := New_iff (WU := WU) (TR := TR) hF hU hT hP u2
    have hc : (∀ p', p' < P → S p' = -1) ↔ New U T F WU TR P := by
      refine Iff.trans ⟨fun g p' a r => (hr p' (by omega)).mpr r (g p' a), fun g p' a => ?_⟩ hn.symm
      by_cases e : S p' = -1
      · exact e
      · exact absurd ((hr p' (by omega)).mp e) (g p' a)
    by_cases q : lp (s_X1_islandMany_L2 S) P 1 = 0
    · rw [if_pos q]
      exact ⟨n, hz, Or.inr ⟨fun z => hl.mp q (hc.mpr z), Int32.add_zero n⟩⟩
    · rw [if_neg q]
      refine ⟨n, hz, Or.inl ⟨?_, rfl⟩⟩
      by_cases z : New U T F WU TR P
      · exact z
      · exact absurd (hl.mpr (fun g => z (hc.mp g))) q
/-- both count the same islands -/
theorem islands_eq (hF : WF F) (hU : WU_ U) (hT : WT_ U T) (hW : ∀ RO WY SU v, v < 6 → s_X1_layTree_WY F C RO WY SU v = WU v) (ST' RP' RO WY SU ST QU : Nat → Int32) (QN : Int32) : s_X1_islandMany U T F C TR RO WY SU ST QU QN = s_X0_islands U T F WU ST' RP' TR :=
  CI_one 96 _ _ (islands_Y hF hU hT hW RO WY SU ST QU QN) (islands_X hF hU ST' RP')
end IY
