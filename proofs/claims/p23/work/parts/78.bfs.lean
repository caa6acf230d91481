/-! THE WALK'S STEPS ARE THE FEWEST: the queue holds the places by their distance -/
section BFS
variable {U T F WU : Nat → Int32} {TR : Int32}
/-- the queue: place P j, Dq j cables from p0; no place twice; the distances don't fall -/
def QD (U T F WU : Nat → Int32) (TR : Int32) (p0 : Nat) (ST RP : Nat → Int32) (q : Nat) (P Dq : Nat → Nat) : Prop := (0 < q ∧ P 0 = p0 ∧ Dq 0 = 0) ∧ (∀ j, j < q → P j < 96 ∧ RP j = nI (P j) ∧ ST (P j) = nI (Dq j) ∧ Rn U T F WU TR (Dq j) p0 (P j) ∧ Dq j ≤ j) ∧ (∀ i j, i < j → j < q → P i ≠ P j) ∧ (∀ p, p < 96 → ¬ ST p = -1 → ∃ j, j < q ∧ P j = p) ∧ ∀ i j, i ≤ j → j < q → Dq i ≤ Dq j
theorem QD.q96 {p0 : Nat} {ST RP : Nat → Int32} {q : Nat} {P Dq : Nat → Nat} (h : QD U T F WU TR p0 ST RP q P Dq) : q ≤ 96 := fb_holes 96 q P (fun i hi => (h.2.1 i hi).1) (fun i j hij hj => h.2.2.1 i j hij hj)
/-- a place more -/
theorem QD_add {p0 : Nat} {ST RP : Nat → Int32} {q : Nat} {P Dq : Nat → Nat} (h : QD U T F WU TR p0 ST RP q P Dq) {t d : Nat} (ht : t < 96) (hn : ST t = -1) (hd : d ≤ q) (hr : Rn U T F WU TR d p0 t) (hm : ∀ j, j < q → Dq j ≤ d) : q < 96 ∧ QD U T F WU TR p0 (upd ST t (nI d)) (upd RP q (nI t)) (q + 1) (updN P q t) (updN Dq q d) := by
  obtain ⟨h0, h1, h2, h3, h4⟩ := h
  have hne : ∀ j, j < q → P j ≠ t := by
    intro j hj e
    have g := (h1 j hj).2.2.1
    rw [e, hn] at g
    exact nI_m1 (by have := (h1 j hj).2.2.2.2; have := QD.q96 ⟨h0, h1, h2, h3, h4⟩; omega) g.symm
  have hq : q < 96 := by
    have := fb_holes 96 (q + 1) (updN P q t) (fun i hi => by
      unfold updN
      split
      · exact ht
      · exact (h1 i (by omega)).1) (fun i j hij hj => by
      unfold updN
      by_cases e : j = q
      · rw [if_pos e, if_neg (by omega)]; exact hne i (by omega)
      · rw [if_neg e, if_neg (by omega)]; exact h2 i j hij (by omega))
    omega
  refine ⟨hq, ⟨by omega, ?_, ?_⟩, fun j hj => ?_, fun i j hij hj => ?_, fun p hp hs => ?_, fun i j hij hj => ?_⟩
  · rw [updN_n (by omega)]; exact h0.2.1
  · rw [updN_n (by omega)]; exact h0.2.2
  · by_cases e : j = q
    · subst e
      rw [updN_s, updN_s]
      exact ⟨ht, pk_us, pk_us, hr, hd⟩
    · obtain ⟨g1, g2, g3, g4, g5⟩ := h1 j (by omega)
      rw [updN_n e, updN_n e]
      exact ⟨g1, (pk_un e).trans g2, (pk_un (hne j (by omega))).trans g3, g4, g5⟩
  · unfold updN
    by_cases e : j = q
    · rw [if_pos e, if_neg (by omega)]; exact hne i (by omega)
    · rw [if_neg e, if_neg (by omega)]; exact h2 i j hij (by omega)
  · by_cases e : p = t
    · exact ⟨q, by omega, by rw [updN_s, e]⟩
    · rw [pk_un e] at hs
      obtain ⟨j, hj, g⟩ := h3 p hp hs
      exact ⟨j, by omega, by rw [updN_n (by omega)]; exact g⟩
  · by_cases e : j = q
    · subst e
      rw [updN_s]
      by_cases e2 : i = j
      · rw [e2, updN_s]; exact Nat.le_refl _
      · rw [updN_n e2]; exact hm i (by omega)
    · rw [updN_n e, updN_n (by omega)]; exact h4 i j hij (by omega)
/-- the first k of the queue are told off: where they lead is in the queue, at most one cable further -/
def TO (U T F WU : Nat → Int32) (TR : Int32) (k q : Nat) (P Dq : Nat → Nat) : Prop := ∀ j, j < k → ∀ b, Sp1 U T F WU TR (P j) b → ∃ j', j' < q ∧ P j' = b ∧ Dq j' ≤ Dq j + 1
/-- the neighbours of place k, the ports below i told off -/
def ND (U T F WU : Nat → Int32) (TR : Int32) (p0 k pp dk : Nat) (i : Nat) (z : WK) : Prop := ∃ (q : Nat) (P Dq : Nat → Nat), z.2.2 = nI q ∧ QD U T F WU TR p0 z.1 z.2.1 q P Dq ∧ k < q ∧ P k = pp ∧ Dq k = dk ∧ (∀ j, j < q → Dq j ≤ dk + 1) ∧ TO U T F WU TR k q P Dq ∧ ∀ i', i' < i → ∀ b, b < 96 → s_X0_placeBeyond U T F WU TR (nI (pp / 16 * 6 + i')) (nI (pp % 16)) = nI b → ∃ j', j' < q ∧ P j' = b ∧ Dq j' ≤ dk + 1
theorem ND_step (hF : WF F) (hU : WU_ U) {p0 k pp dk : Nat} {i : Nat} (hi : i < 6) {z : WK} (h : ND U T F WU TR p0 k pp dk i z) : ND U T F WU TR p0 k pp dk (i + 1) (s_X0_reachNeighbours_L1 U T F WU TR (nI pp) i z) := by
  obtain ⟨S, R, N⟩ := z
  obtain ⟨q, P, Dq, h1, h2, h3, h4, h5, h6, h7, h8⟩ := h
  dsimp only at h1 h2
  have hpk := h2.2.1 k h3
  rw [h4, h5] at hpk
  obtain ⟨hp, -, hST, hRn, hdk⟩ := hpk
  have hs : pp / 16 * 6 + i < 36 := by omega
  have hl : pp % 16 < 16 := Nat.mod_lt _ (by decide)
  have h96 := h2.q96
  unfold s_X0_reachNeighbours_L1
  dsimp only
  rw [m16 hp, d16 hp, slot16]
  rcases pb_or (T := T) (WU := WU) (TR := TR) hF hU hs hl with ⟨e1, -⟩ | ⟨j, c, hj, hc, -, -, -, e4⟩
  · rw [if_pos e1]
    refine ⟨q, P, Dq, h1, h2, h3, h4, h5, h6, h7, fun i' hi' b hb e => ?_⟩
    by_cases hii : i' = i
    · subst hii
      rw [e1] at e
      exact absurd e.symm (nI_m1 (by omega))
    · exact h8 i' (by omega) b hb e
  · have ht : 16 * (j / 6) + c < 96 := by omega
    have hst : Sp1 U T F WU TR pp (16 * (j / 6) + c) := ⟨ht, i, hi, e4⟩
    generalize 16 * (j / 6) + c = t at ht e4 hst
    have one : ∀ b, b < 96 → s_X0_placeBeyond U T F WU TR (nI (pp / 16 * 6 + i)) (nI (pp % 16)) = nI b → b = t := fun b hb e => (nI_eq (by omega) (by omega)).mp (e.symm.trans e4)
    rw [e4, if_neg (nI_m1 (by omega)), xAt_nI ht (by decide)]
    by_cases hn : S t = -1
    · rw [if_pos hn]
      obtain ⟨hq, hv⟩ := QD_add (d := dk + 1) h2 ht hn (by omega) ⟨pp, hRn, hst⟩ h6
      unfold s_X0_reach_ST s_X0_reach_RP s_X0_reach_RN
      rw [xAt_nI hp (by decide), hST, nI_1, h1, xPut_nI ht (by decide), xPut_nI hq (by decide), nI_1]
      have keep : ∀ b D, (∃ j', j' < q ∧ P j' = b ∧ Dq j' ≤ D) → ∃ j', j' < q + 1 ∧ updN P q t j' = b ∧ updN Dq q (dk + 1) j' ≤ D := by
        rintro b D ⟨j', g1, g2, g3⟩
        exact ⟨j', by omega, by rw [updN_n (by omega)]; exact g2, by rw [updN_n (by omega)]; exact g3⟩
      refine ⟨q + 1, updN P q t, updN Dq q (dk + 1), rfl, hv, by omega, by rw [updN_n (by omega)]; exact h4, by rw [updN_n (by omega)]; exact h5, fun j hj => ?_, fun j hj b hb => ?_, fun i' hi' b hb e => ?_⟩
      · by_cases e : j = q
        · rw [e, updN_s]; exact Nat.le_refl _
        · rw [updN_n e]; exact h6 j (by omega)
      · rw [updN_n (show j ≠ q by omega)] at hb
        rw [updN_n (show j ≠ q by omega)]
        exact keep b _ (h7 j hj b hb)
      · by_cases hii : i' = i
        · subst hii
          rw [one b hb e]
          exact ⟨q, by omega, updN_s, by rw [updN_s]; exact Nat.le_refl _⟩
        · exact keep b _ (h8 i' (by omega) b hb e)
    · rw [if_neg hn]
      refine ⟨q, P, Dq, h1, h2, h3, h4, h5, h6, h7, fun i' hi' b hb e => ?_⟩
      by_cases hii : i' = i
      · subst hii
        rw [one b hb e]
        obtain ⟨j', g1, g2⟩ := h2.2.2.2.1 t ht hn
        exact ⟨j', g1, g2, h6 j' g1⟩
      · exact h8 i' (by omega) b hb e
/-- the walk: the first k of the queue are told off -/
def WD (U T F WU : Nat → Int32) (TR : Int32) (p0 k : Nat) (z : WK) : Prop := ∃ (q : Nat) (P Dq : Nat → Nat), z.2.2 = nI q ∧ QD U T F WU TR p0 z.1 z.2.1 q P Dq ∧ k ≤ q ∧ (k < q → ∀ j, j < q → Dq j ≤ Dq k + 1) ∧ TO U T F WU TR k q P Dq
theorem walk_WD (hF : WF F) (hU : WU_ U) {p0 : Nat} : ∀ m k (z : WK), 97 ≤ m + k → WD U T F WU TR p0 k z → ∃ (q : Nat) (P Dq : Nat → Nat), (s_walk U T F WU TR m (nI k) z).2.2 = nI q ∧ QD U T F WU TR p0 (s_walk U T F WU TR m (nI k) z).1 (s_walk U T F WU TR m (nI k) z).2.1 q P Dq ∧ TO U T F WU TR q q P Dq := by
  intro m
  induction m with
  | zero =>
    intro k z hm h
    obtain ⟨q, P, Dq, -, h2, h3, -⟩ := h
    have := h2.q96
    omega
  | succ m ih =>
    intro k z hm h
    obtain ⟨S, R, N⟩ := z
    obtain ⟨q, P, Dq, h1, h2, h3, h4, h5⟩ := h
    dsimp only at h1 h2
    have h96 := h2.q96
    unfold s_walk
    by_cases hlt : k < q
    · have a1 : ¬ nI q ≤ nI k := nI_ge hlt (by omega)
      have a2 : ¬ (96 : Int32) ≤ nI k := nI_ge (b := 96) (by omega) (by decide)
      rw [h1, if_neg a1, if_neg a2, nI_1]
      obtain ⟨hp, e1, e2, -, -⟩ := h2.2.1 k hlt
      rw [xAt_nI (f := R) (show k < 96 by omega) (by decide), e1]
      have hn := lp_invi (ND U T F WU TR p0 k (P k) (Dq k)) 6 (fun i hi a ha => ND_step hF hU hi ha) (S, R, nI q) ⟨q, P, Dq, rfl, h2, hlt, rfl, rfl, h4 hlt, h5, fun i' hi' => absurd hi' (Nat.not_lt_zero _)⟩
      unfold s_X0_reachNeighbours_ST s_X0_reachNeighbours_RP s_X0_reachNeighbours_RN
      generalize lp (s_X0_reachNeighbours_L1 U T F WU TR (nI (P k))) 6 (S, R, nI q) = Z at hn ⊢
      obtain ⟨c1, c2, c3⟩ := Z
      obtain ⟨q2, P2, D2, g1, g2, g3, g4, g5, g6, g7, g8⟩ := hn
      dsimp only at g1 g2
      refine ih (k + 1) (c1, c2, c3) (by omega) ⟨q2, P2, D2, g1, g2, by omega, fun hk j hj => ?_, fun j hj b hb => ?_⟩
      · have t1 := g6 j hj
        have t2 := g2.2.2.2.2 k (k + 1) (Nat.le_succ k) hk
        rw [g5] at t2
        omega
      · by_cases e : j = k
        · rw [e, g4] at hb
          rw [e, g5]
          obtain ⟨hb1, i, hi, hb2⟩ := hb
          exact g8 i hi b hb1 hb2
        · exact g7 j (by omega) b hb
    · have a1 : nI q ≤ nI k := nI_le (by omega) (by omega)
      rw [h1, if_pos a1]
      have hk : k = q := by omega
      subst hk
      exact ⟨k, P, Dq, rfl, h2, h5⟩
theorem walk_go (hF : WF F) (hU : WU_ U) {p0 : Nat} (hp0 : p0 < 96) (S R : Nat → Int32) (m : Nat) (hm : 97 ≤ m) : ∃ (q : Nat) (P Dq : Nat → Nat), (s_walk U T F WU TR m 0 (s_X0_reach_ST (s_X0_forgetWalks_ST S) (nI p0) 0, s_X0_reach_RP R 0 (nI p0), s_X0_reach_RN 0)).2.2 = nI q ∧ QD U T F WU TR p0 (s_walk U T F WU TR m 0 (s_X0_reach_ST (s_X0_forgetWalks_ST S) (nI p0) 0, s_X0_reach_RP R 0 (nI p0), s_X0_reach_RN 0)).1 (s_walk U T F WU TR m 0 (s_X0_reach_ST (s_X0_forgetWalks_ST S) (nI p0) 0, s_X0_reach_RP R 0 (nI p0), s_X0_reach_RN 0)).2.1 q P Dq ∧ TO U T F WU TR q q P Dq := by
  have none : ∀ p, p < 96 → s_X0_forgetWalks_ST S p = -1 := fun p hp => by
    show xFill S (-1) 96 p = -1; unfold xFill; rw [if_pos hp]
  have h0 : WD U T F WU TR p0 0 (s_X0_reach_ST (s_X0_forgetWalks_ST S) (nI p0) 0, s_X0_reach_RP R 0 (nI p0), s_X0_reach_RN 0) := by
    refine ⟨1, fun _ => p0, fun _ => 0, rfl, ⟨⟨by decide, rfl, rfl⟩, fun j hj => ⟨hp0, ?_, ?_, rfl, Nat.zero_le _⟩, fun i j hij hj => by omega, fun p hp hs => ⟨0, by decide, ?_⟩, fun _ _ _ _ => Nat.le_refl 0⟩, Nat.zero_le 1, fun _ _ _ => Nat.zero_le _, fun j hj => absurd hj (Nat.not_lt_zero j)⟩
    · have h0 : j = 0 := by omega
      subst h0
      show xPut 96 R (nI 0) (nI p0) 0 = nI p0
      rw [xPut_nI (by decide) (by decide), pk_us]
    · show xPut 96 (s_X0_forgetWalks_ST S) (nI p0) 0 p0 = nI 0
      rw [xPut_nI hp0 (by decide), pk_us]; rfl
    · show p0 = p
      refine Classical.byContradiction fun e => hs ?_
      show xPut 96 (s_X0_forgetWalks_ST S) (nI p0) 0 p = -1
      rw [xPut_nI hp0 (by decide), pk_un (fun z => e z.symm)]
      exact none p hp
  have h := walk_WD (T := T) (WU := WU) (TR := TR) hF hU (p0 := p0) m 0 _ (by omega) h0
  rw [nI_0] at h
  exact h
/-- a walk from one place, all steps forgotten: the queue, by the places' distance, with all that it reaches -/
theorem walk_from (hF : WF F) (hU : WU_ U) {p0 : Nat} (hp0 : p0 < 96) (S R : Nat → Int32) : ∃ (q : Nat) (P Dq : Nat → Nat), s_X0_walkFrom_RN U T F WU (s_X0_forgetWalks_ST S) R s_X0_forgetWalks_RN TR (nI p0) = nI q ∧ QD U T F WU TR p0 (s_X0_walkFrom_ST U T F WU (s_X0_forgetWalks_ST S) R s_X0_forgetWalks_RN TR (nI p0)) (s_X0_walkFrom_RP U T F WU (s_X0_forgetWalks_ST S) R s_X0_forgetWalks_RN TR (nI p0)) q P Dq ∧ TO U T F WU TR q q P Dq := by
  obtain ⟨q, P, Dq, g1, g2, g3⟩ := walk_go (T := T) (WU := WU) (TR := TR) hF hU hp0 S R s_FU FU_ok
  refine ⟨q, P, Dq, ?_, ?_, g3⟩
  · rw [s_X0_walkFrom_RN, s_X0_forgetWalks_RN]; exact g1
  · rw [s_X0_walkFrom_ST, s_X0_walkFrom_RP, s_X0_forgetWalks_RN]; exact g2
/-- all that is reached over n cables is in the queue, at most n cables off -/
theorem TO_all {p0 : Nat} {ST RP : Nat → Int32} {q : Nat} {P Dq : Nat → Nat} (h : QD U T F WU TR p0 ST RP q P Dq) (ht : TO U T F WU TR q q P Dq) : ∀ n b, Rn U T F WU TR n p0 b → ∃ j, j < q ∧ P j = b ∧ Dq j ≤ n := by
  intro n
  induction n with
  | zero => intro b e; exact ⟨0, h.1.1, h.1.2.1.trans e, Nat.le_of_eq h.1.2.2⟩
  | succ n ih =>
    intro b e
    obtain ⟨c, hc, hb⟩ := e
    obtain ⟨j, h1, h2, h3⟩ := ih c hc
    rw [← h2] at hb
    obtain ⟨j', g1, g2, g3⟩ := ht j h1 b hb
    exact ⟨j', g1, g2, by omega⟩
theorem QD_90 {p0 : Nat} {ST RP : Nat → Int32} {q : Nat} {P Dq : Nat → Nat} (hF : WF F) (hU : WU_ U) (hT : WT_ U T) (hp0 : p0 < 96) (h1 : 1 ≤ p0 % 16) (h : QD U T F WU TR p0 ST RP q P Dq) : q ≤ 90 := by
  have hl : ∀ j, j < q → 1 ≤ P j % 16 := fun j hj => (Rn_sym hF hU hT hp0 h1 _ _ (h.2.1 j hj).2.2.2.1).2.1
  refine fb_holes 90 q (fun j => P j / 16 * 15 + (P j % 16 - 1)) (fun i hi => ?_) (fun i j hij hj => ?_)
  · have := hl i hi
    have := (h.2.1 i hi).1
    show P i / 16 * 15 + (P i % 16 - 1) < 90
    omega
  · have a1 := hl i (by omega)
    have a2 := hl j hj
    have a3 := h.2.2.1 i j hij hj
    show P i / 16 * 15 + (P i % 16 - 1) ≠ P j / 16 * 15 + (P j % 16 - 1)
    omega
end BFS
theorem fstB_eq {p : Nat → Bool} {d : Nat} (hd : p d = true) (hn : ∀ k, k < d → ¬ p k = true) : ∀ n k, k ≤ d → d ≤ k + n → fstB p n k = d := by
  intro n
  induction n with
  | zero => intro k h1 h2; show k = d; omega
  | succ n ih =>
    intro k h1 h2
    show (if p k = true then k else fstB p n (k + 1)) = d
    by_cases e : k = d
    · rw [e, if_pos hd]
    · rw [if_neg (hn k (by omega))]
      exact ih (k + 1) (by omega) (by omega)
section HOP
variable {xu xt xf xc : Nat → Nat} {F WU : Nat → Int32} {TR : Int32} {live : Nat}
/-- the class's hops and the law's -/
theorem hops_eq (hu : ∀ k, xu k ≤ 15) (ht : ∀ k, xt k < 65536) (hG : TG xu xt) (hf : ∀ k, xf k ≤ 36) (hX : FX xf F) (hF : WF F) (hL : LV F WU TR live) {unit lane ou ol : Nat} (hUn : unit < 6) (hl1 : 1 ≤ lane) (hl : lane < 16) (hOu : ou < 6) (hol : ol < 16) (S R : Nat → Int32) : xAt 96 (s_X0_walkFrom_ST (nA xu) (nA xt) F WU (s_X0_forgetWalks_ST S) R s_X0_forgetWalks_RN TR (nI (16 * unit + lane))) (nI (16 * ou + ol)) = s_L_hops xu xt xf live unit lane ou ol := by
  have hp0 : 16 * unit + lane < 96 := by omega
  have hp : 16 * ou + ol < 96 := by omega
  have hU := WU_of hu
  have hT := WT_of hu ht hG
  obtain ⟨q, P, Dq, -, h2, h3⟩ := walk_from (U := nA xu) (T := nA xt) (WU := WU) (TR := TR) hF hU hp0 S R
  generalize s_X0_walkFrom_ST (nA xu) (nA xt) F WU (s_X0_forgetWalks_ST S) R s_X0_forgetWalks_RN TR (nI (16 * unit + lane)) = Z at h2 ⊢
  have h90 := QD_90 hF hU hT hp0 (by omega) h2
  have all := TO_all h2 h3
  have sk : ∀ k, SK xu xt xf live unit lane k ou / 2 ^ ol % 2 = 1 ↔ ∃ n, n ≤ k ∧ Rn (nA xu) (nA xt) F WU TR n (16 * unit + lane) (16 * ou + ol) := by
    intro k
    have := SK_iff hu ht hG hf hX hF hL hUn hl1 hl k (16 * ou + ol) hp
    rw [show (16 * ou + ol) / 16 = ou by omega, show (16 * ou + ol) % 16 = ol by omega] at this
    exact bit_iff.trans this
  rw [xAt_nI hp (by decide)]
  unfold s_L_hops
  by_cases q1 : Z (16 * ou + ol) = -1
  · rw [q1, if_pos]
    refine Classical.byContradiction fun z => ?_
    obtain ⟨n, -, hn⟩ := (sk 90).mp (by omega)
    obtain ⟨j, g1, g2, -⟩ := all n _ hn
    have g3 := (h2.2.1 j g1).2.2.1
    rw [g2, q1] at g3
    exact nI_m1 (by have := (h2.2.1 j g1).2.2.2.2; omega) g3.symm
  · obtain ⟨j, g1, g2⟩ := h2.2.2.2.1 _ hp q1
    obtain ⟨-, -, g3, g4, g5⟩ := h2.2.1 j g1
    rw [g2] at g3 g4
    have b90 := (sk 90).mpr ⟨Dq j, by omega, g4⟩
    rw [if_neg (by omega), g3]
    refine congrArg nI (Eq.symm (fstB_eq (decide_eq_true ((sk (Dq j)).mpr ⟨Dq j, Nat.le_refl _, g4⟩)) (fun k hk z => ?_) 90 0 (Nat.zero_le _) (by omega)))
    obtain ⟨n, hn1, hn2⟩ := (sk k).mp (of_decide_eq_true z)
    obtain ⟨j2, k1, k2, k3⟩ := all n _ hn2
    have e : j2 = j := by
      rcases Nat.lt_trichotomy j2 j with y | y | y
      · exact absurd (k2.trans g2.symm) (h2.2.2.1 j2 j y g1)
      · exact y
      · exact absurd (g2.trans k2.symm) (h2.2.2.1 j j2 y k1)
    rw [e] at k3
    omega
/-- reached at all -/
theorem SK_90 (hu : ∀ k, xu k ≤ 15) (ht : ∀ k, xt k < 65536) (hG : TG xu xt) (hf : ∀ k, xf k ≤ 36) (hX : FX xf F) (hF : WF F) (hL : LV F WU TR live) {unit lane : Nat} (hUn : unit < 6) (hl1 : 1 ≤ lane) (hl : lane < 16) {p : Nat} (hp : p < 96) : (SK xu xt xf live unit lane 90 (p / 16)).testBit (p % 16) = true ↔ Rch (nA xu) (nA xt) F WU TR (16 * unit + lane) p := by
  have hp0 : 16 * unit + lane < 96 := by omega
  have hU := WU_of hu
  obtain ⟨q, P, Dq, -, h2, h3⟩ := walk_from (U := nA xu) (T := nA xt) (WU := WU) (TR := TR) hF hU hp0 (fun _ => 0) (fun _ => 0)
  have h90 := QD_90 hF hU (WT_of hu ht hG) hp0 (by omega) h2
  rw [SK_iff hu ht hG hf hX hF hL hUn hl1 hl 90 p hp]
  refine ⟨fun ⟨n, _, h⟩ => ⟨n, h⟩, fun ⟨n, h⟩ => ?_⟩
  obtain ⟨j, g1, g2, -⟩ := TO_all h2 h3 n p h
  obtain ⟨-, -, -, g4, g5⟩ := h2.2.1 j g1
  rw [g2] at g4
  exact ⟨Dq j, by omega, g4⟩
end HOP
