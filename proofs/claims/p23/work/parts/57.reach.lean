/-! WHERE A WALK COMES: just what is reached from its start -/
theorem lp_invi {α : Type} (P : Nat → α → Prop) {f : Nat → α → α} : ∀ n, (∀ i, i < n → ∀ a, P i a → P (i + 1) (f i a)) → ∀ a, P 0 a → P n (lp f n a) := by
  intro n
  induction n with
  | zero => intro _ a h; exact h
  | succ n ih => intro hs a h; exact hs n (by omega) _ (ih (fun i hi => hs i (by omega)) a h)
/-- one step: over a cable from place a to place b -/
def Sp1 (U T F WU : Nat → Int32) (TR : Int32) (a b : Nat) : Prop := b < 96 ∧ ∃ i, i < 6 ∧ s_X0_placeBeyond U T F WU TR (nI (a / 16 * 6 + i)) (nI (a % 16)) = nI b
def Rn (U T F WU : Nat → Int32) (TR : Int32) : Nat → Nat → Nat → Prop
  | 0, a, b => a = b
  | n + 1, a, b => ∃ c, Rn U T F WU TR n a c ∧ Sp1 U T F WU TR c b
def Rch (U T F WU : Nat → Int32) (TR : Int32) (a b : Nat) : Prop := ∃ n, Rn U T F WU TR n a b
/-- the queue holds just the places that have steps -/
def VI (ST RP : Nat → Int32) (q : Nat) : Prop := BI ST RP q ∧ ∀ p, p < 96 → ¬ ST p = -1 → ∃ j, j < q ∧ RP j = nI p
theorem VI.in {ST RP : Nat → Int32} {q : Nat} (h : VI ST RP q) {j p : Nat} (hj : j < q) (hp : p < 96) (e : RP j = nI p) : ¬ ST p = -1 := by
  obtain ⟨p2, d, h1, h2, h3, h4⟩ := h.1.2.1 j hj
  have hq := h.1.1
  have e2 : p2 = p := (nI_eq (by omega) (by omega)).mp (h3.symm.trans e)
  subst e2
  rw [h4]; exact nI_m1 (by omega)
theorem VI_add {ST RP : Nat → Int32} {q t d : Nat} (h : VI ST RP q) (ht : t < 96) (hn : ST t = -1) (hd : d ≤ q) : q < 96 ∧ VI (upd ST t (nI d)) (upd RP q (nI t)) (q + 1) := by
  obtain ⟨hb, hv⟩ := h
  obtain ⟨hq, hne⟩ := BI_more hb ht hn
  obtain ⟨h1, h2, h3⟩ := hb
  refine ⟨hq, ⟨by omega, fun i hi => ?_, fun a b hab hb => ?_⟩, fun p hp hs => ?_⟩
  · by_cases hiq : i = q
    · subst hiq
      exact ⟨t, d, ht, hd, pk_us, pk_us⟩
    · obtain ⟨p2, d2, hp2, hd2, e3, e4⟩ := h2 i (by omega)
      refine ⟨p2, d2, hp2, hd2, by rw [pk_un hiq, e3], ?_⟩
      rw [pk_un, e4]
      intro e
      exact hne i (by omega) (by rw [e3, e])
  · by_cases hbq : b = q
    · subst hbq
      rw [pk_us, pk_un (by omega)]
      exact hne a (by omega)
    · rw [pk_un hbq, pk_un (by omega)]
      exact h3 a b hab (by omega)
  · by_cases hpt : p = t
    · subst hpt; exact ⟨q, by omega, pk_us⟩
    · rw [pk_un hpt] at hs
      obtain ⟨j, hj, e⟩ := hv p hp hs
      exact ⟨j, by omega, by rw [pk_un (by omega)]; exact e⟩
section RC
variable {U T F WU : Nat → Int32} {TR : Int32}
/-- the neighbours of pp, the ports below i told off -/
def NB (U T F WU : Nat → Int32) (TR : Int32) (pp q0 : Nat) (S0 R0 : Nat → Int32) (i : Nat) (z : WK) : Prop := ∃ q, z.2.2 = nI q ∧ VI z.1 z.2.1 q ∧ q0 ≤ q ∧ (∀ j, j < q0 → z.2.1 j = R0 j) ∧ (∀ p, p < 96 → ¬ S0 p = -1 → z.1 p = S0 p) ∧ (∀ i', i' < i → ∀ b, b < 96 → s_X0_placeBeyond U T F WU TR (nI (pp / 16 * 6 + i')) (nI (pp % 16)) = nI b → ¬ z.1 b = -1) ∧ ∀ j, q0 ≤ j → j < q → ∃ b, z.2.1 j = nI b ∧ Sp1 U T F WU TR pp b
theorem NB_step (hF : WF F) (hU : WU_ U) {pp q0 d : Nat} {S0 R0 : Nat → Int32} (hp : pp < 96) (hd : S0 pp = nI d) (hdq : d < q0) {i : Nat} (hi : i < 6) {z : WK} (h : NB U T F WU TR pp q0 S0 R0 i z) : NB U T F WU TR pp q0 S0 R0 (i + 1) (s_X0_reachNeighbours_L1 U T F WU TR (nI pp) i z) := by
  obtain ⟨S, R, N⟩ := z
  obtain ⟨q, h1, h2, h3, h4, h5, h6, h7⟩ := h
  dsimp only at h1 h2 h3 h4 h5 h6 h7
  have hs : pp / 16 * 6 + i < 36 := by omega
  have hl : pp % 16 < 16 := Nat.mod_lt _ (by decide)
  unfold s_X0_reachNeighbours_L1
  dsimp only
  rw [m16 hp, d16 hp, slot16]
  have old : ∀ b, b < 96 → s_X0_placeBeyond U T F WU TR (nI (pp / 16 * 6 + i)) (nI (pp % 16)) = nI b → ∀ S' : Nat → Int32, (∀ i', i' < i → ∀ b, b < 96 → s_X0_placeBeyond U T F WU TR (nI (pp / 16 * 6 + i')) (nI (pp % 16)) = nI b → ¬ S' b = -1) → ¬ S' b = -1 → ∀ i', i' < i + 1 → ∀ b, b < 96 → s_X0_placeBeyond U T F WU TR (nI (pp / 16 * 6 + i')) (nI (pp % 16)) = nI b → ¬ S' b = -1 := by
    intro b hb e S' g1 g2 i' hi' b' hb' e'
    by_cases hii : i' = i
    · subst hii
      have e2 : b' = b := (nI_eq (by omega) (by omega)).mp (e'.symm.trans e)
      rw [e2]; exact g2
    · exact g1 i' (by omega) b' hb' e'
  rcases pb_or (T := T) (WU := WU) (TR := TR) hF hU hs hl with ⟨e1, -⟩ | ⟨j, c, hj, hc, -, -, -, e4⟩
  · rw [if_pos e1]
    refine ⟨q, h1, h2, h3, h4, h5, fun i' hi' b hb e => ?_, h7⟩
    by_cases hii : i' = i
    · subst hii
      rw [e1] at e
      exact absurd e.symm (nI_m1 (by omega))
    · exact h6 i' (by omega) b hb e
  · have ht : 16 * (j / 6) + c < 96 := by omega
    have hst : Sp1 U T F WU TR pp (16 * (j / 6) + c) := ⟨ht, i, hi, e4⟩
    generalize 16 * (j / 6) + c = t at ht e4 hst
    have h6o := old t ht e4
    rw [e4, if_neg (nI_m1 (by omega)), xAt_nI ht (by decide)]
    by_cases hn : S t = -1
    · rw [if_pos hn]
      have hSp : S pp = nI d := by rw [h5 pp hp (by rw [hd]; exact nI_m1 (by have := h2.1.1; omega)), hd]
      obtain ⟨hq, hv⟩ := VI_add (d := d + 1) h2 ht hn (by omega)
      unfold s_X0_reach_ST s_X0_reach_RP s_X0_reach_RN
      rw [xAt_nI hp (by decide), hSp, nI_1, h1, xPut_nI ht (by decide), xPut_nI hq (by decide), nI_1]
      have hne : ∀ p, ¬ S p = -1 → p ≠ t := fun p g e => g (by rw [e]; exact hn)
      refine ⟨q + 1, rfl, hv, by omega, fun a ha => ?_, fun p hp2 hs2 => ?_, h6o (upd S t (nI (d + 1))) (fun i' hi' b hb e => ?_) ?_, fun a ha1 ha2 => ?_⟩
      · show upd R q (nI t) a = R0 a
        rw [pk_un (by omega)]; exact h4 a ha
      · show upd S t _ p = S0 p
        have e5 := h5 p hp2 hs2
        rw [pk_un (hne p (by rw [e5]; exact hs2))]; exact e5
      · have g := h6 i' hi' b hb e
        show ¬ upd S t _ b = -1
        rw [pk_un (hne b g)]; exact g
      · show ¬ upd S t _ t = -1
        rw [pk_us]; exact nI_m1 (by have := h2.1.1; omega)
      · show ∃ b, upd R q (nI t) a = nI b ∧ _
        by_cases ha3 : a = q
        · subst ha3; exact ⟨t, pk_us, hst⟩
        · rw [pk_un ha3]; exact h7 a ha1 (by omega)
    · rw [if_neg hn]
      exact ⟨q, h1, h2, h3, h4, h5, h6o S h6 hn, h7⟩
/-- the walk: the first k of the queue are told off -/
def WO (U T F WU : Nat → Int32) (TR : Int32) (p0 first : Nat) (R0 : Nat → Int32) (k : Nat) (z : WK) : Prop := ∃ q, z.2.2 = nI q ∧ VI z.1 z.2.1 q ∧ first ≤ k ∧ k ≤ q ∧ (∀ j, j < k → ∀ p, p < 96 → z.2.1 j = nI p → ∀ b, Sp1 U T F WU TR p b → ¬ z.1 b = -1) ∧ (∀ j, first ≤ j → j < q → ∃ p, p < 96 ∧ z.2.1 j = nI p ∧ Rch U T F WU TR p0 p) ∧ (∀ j, j < first → z.2.1 j = R0 j) ∧ ¬ z.1 p0 = -1
theorem walk_WO (hF : WF F) (hU : WU_ U) {p0 first : Nat} (hp0 : p0 < 96) {R0 : Nat → Int32} : ∀ m k (z : WK), 97 ≤ m + k → WO U T F WU TR p0 first R0 k z → ∃ q, WO U T F WU TR p0 first R0 q (s_walk U T F WU TR m (nI k) z) ∧ (s_walk U T F WU TR m (nI k) z).2.2 = nI q := by
  intro m
  induction m with
  | zero =>
    intro k z hm h
    obtain ⟨q, -, h2, -, h4, -⟩ := h
    have := h2.1.1
    omega
  | succ m ih =>
    intro k z hm h
    obtain ⟨S, R, N⟩ := z
    have h' := h
    obtain ⟨q, h1, h2, h3, h4, h5, h6, h7, h8⟩ := h
    dsimp only at h1 h2 h3 h4 h5 h6 h7 h8
    have hq := h2.1.1
    unfold s_walk
    by_cases hlt : k < q
    · have a1 : ¬ nI q ≤ nI k := nI_ge hlt (by omega)
      have a2 : ¬ (96 : Int32) ≤ nI k := nI_ge (b := 96) (by omega) (by decide)
      rw [h1, if_neg a1, if_neg a2, nI_1]
      obtain ⟨pp, d, hp, hd, e1, e2⟩ := h2.1.2.1 k hlt
      rw [xAt_nI (f := R) (show k < 96 by omega) (by decide), e1]
      have hn := lp_invi (NB U T F WU TR pp q S R) 6 (fun i hi a ha => NB_step hF hU hp e2 (by omega) hi ha) (S, R, nI q) ⟨q, rfl, h2, Nat.le_refl q, fun _ _ => rfl, fun _ _ _ => rfl, fun i' hi' => by omega, fun j ha hb => by omega⟩
      unfold s_X0_reachNeighbours_ST s_X0_reachNeighbours_RP s_X0_reachNeighbours_RN
      generalize lp (s_X0_reachNeighbours_L1 U T F WU TR (nI pp)) 6 (S, R, nI q) = Z at hn ⊢
      obtain ⟨c1, c2, c3⟩ := Z
      obtain ⟨q2, g1, g2, g3, g4, g5, g6, g7⟩ := hn
      dsimp only at g1 g2 g3 g4 g5 g6 g7
      have keep : ∀ p, p < 96 → ¬ S p = -1 → ¬ c1 p = -1 := fun p hp2 hs => by rw [g5 p hp2 hs]; exact hs
      refine ih (k + 1) (c1, c2, c3) (by omega) ⟨q2, g1, g2, by omega, by omega, fun j hj p hp2 e b hb => ?_, fun j hj1 hj2 => ?_, fun j hj => ?_, ?_⟩
      · have e : c2 j = nI p := e
        rw [g4 j (by omega)] at e
        by_cases hjk : j = k
        · subst hjk
          have e3 : p = pp := (nI_eq (by omega) (by omega)).mp (e.symm.trans e1)
          subst e3
          obtain ⟨hb1, i, hi, hb2⟩ := hb
          exact g6 i hi b hb1 hb2
        · exact keep b hb.1 (h5 j (by omega) p hp2 e b hb)
      · show ∃ p, p < 96 ∧ c2 j = nI p ∧ _
        by_cases hjq : j < q
        · rw [g4 j hjq]; exact h6 j hj1 hjq
        · obtain ⟨b, e3, hb⟩ := g7 j (by omega) hj2
          obtain ⟨p, e5, e4, n, hr⟩ := h6 k h3 hlt
          have e6 : p = pp := (nI_eq (by omega) (by omega)).mp (e4.symm.trans e1)
          subst e6
          exact ⟨b, hb.1, e3, n + 1, p, hr, hb⟩
      · show c2 j = R0 j
        rw [g4 j (by omega)]; exact h7 j hj
      · exact keep p0 hp0 h8
    · have a1 : nI q ≤ nI k := nI_le (by omega) (by omega)
      rw [h1, if_pos a1]
      have hk : k = q := by omega
      subst hk
      exact ⟨k, by rw [h1] at h'; exact h', rfl⟩
/-- what is visited leads only to what is visited -/
def CLO (U T F WU : Nat → Int32) (TR : Int32) (S : Nat → Int32) : Prop := ∀ p, p < 96 → ¬ S p = -1 → ∀ b, Sp1 U T F WU TR p b → ¬ S b = -1
theorem Rn_lt {a b : Nat} (ha : a < 96) : ∀ n, Rn U T F WU TR n a b → b < 96 := by
  intro n
  cases n with
  | zero => intro h; have h : a = b := h; omega
  | succ n => intro h; obtain ⟨c, -, hb, -⟩ := h; exact hb
theorem Rch_lt {a b : Nat} (ha : a < 96) (h : Rch U T F WU TR a b) : b < 96 := by obtain ⟨n, h⟩ := h; exact Rn_lt ha n h
theorem CLO.in {S : Nat → Int32} (h : CLO U T F WU TR S) {a : Nat} (ha : a < 96) (hs : ¬ S a = -1) : ∀ n b, Rn U T F WU TR n a b → ¬ S b = -1 := by
  intro n
  induction n with
  | zero => intro b e; have e : a = b := e; rw [← e]; exact hs
  | succ n ih => intro b e; obtain ⟨c, hc, hb⟩ := e; exact h c (Rn_lt ha n hc) (ih c hc) b hb
theorem walk_reach (hF : WF F) (hU : WU_ U) {S R : Nat → Int32} {q0 p0 : Nat} (hv : VI S R q0) (hc : CLO U T F WU TR S) (hp0 : p0 < 96) (hn : S p0 = -1) (m : Nat) (hm : 97 ≤ m) : ∃ (q : Nat) (Z : WK), s_walk U T F WU TR m (nI q0) (s_X0_reach_ST S (nI p0) 0, s_X0_reach_RP R (nI q0) (nI p0), s_X0_reach_RN (nI q0)) = Z ∧ Z.2.2 = nI q ∧ VI Z.1 Z.2.1 q ∧ CLO U T F WU TR Z.1 ∧ ∀ p, p < 96 → (¬ Z.1 p = -1 ↔ ¬ S p = -1 ∨ Rch U T F WU TR p0 p) := by
  obtain ⟨hq, hv1⟩ := VI_add (d := 0) hv hp0 hn (by omega)
  have e0 : (s_X0_reach_ST S (nI p0) 0, s_X0_reach_RP R (nI q0) (nI p0), s_X0_reach_RN (nI q0)) = ((upd S p0 (nI 0), upd R q0 (nI p0), nI (q0 + 1)) : WK) := by
    unfold s_X0_reach_ST s_X0_reach_RP s_X0_reach_RN
    rw [xPut_nI hp0 (by decide), xPut_nI hq (by decide), nI_1]
    rfl
  have hne : ∀ b, ¬ S b = -1 → ¬ upd S p0 (nI 0) b = -1 := fun b g => by
    rw [pk_un (fun e => g (by rw [e]; exact hn))]; exact g
  have hw : WO U T F WU TR p0 q0 R q0 (upd S p0 (nI 0), upd R q0 (nI p0), nI (q0 + 1)) := by
    refine ⟨q0 + 1, rfl, hv1, Nat.le_refl _, by omega, fun j hj p hp e b hb => ?_, fun j hj1 hj2 => ?_, fun j hj => ?_, ?_⟩
    · have e : upd R q0 (nI p0) j = nI p := e
      rw [pk_un (by omega)] at e
      exact hne b (hc p hp (hv.in hj hp e) b hb)
    · have hj0 : j = q0 := by omega
      subst hj0
      exact ⟨p0, hp0, pk_us, 0, rfl⟩
    · show upd R q0 (nI p0) j = R j
      rw [pk_un (by omega)]
    · show ¬ upd S p0 (nI 0) p0 = -1
      rw [pk_us]; decide
  obtain ⟨q, ⟨q', h1, h2, h3, h4, h5, h6, h7, h8⟩, he⟩ := walk_WO hF hU hp0 m q0 _ (by omega) hw
  have hqq : q' = q := (nI_eq (by have := h2.1.1; omega) (by have := h2.1.1; omega)).mp (h1.symm.trans he)
  subst hqq
  refine ⟨q', _, by rw [e0], h1, h2, fun p hp hs b hb => ?_, fun p hp => ⟨fun hs => ?_, fun hs => ?_⟩⟩
  · obtain ⟨j, hj, e⟩ := h2.2 p hp hs
    exact h5 j hj p hp e b hb
  · obtain ⟨j, hj, e⟩ := h2.2 p hp hs
    by_cases hjq : j < q0
    · rw [h7 j hjq] at e
      exact Or.inl (hv.in hjq hp e)
    · obtain ⟨p', hp', e', hr⟩ := h6 j (by omega) hj
      have e6 : p' = p := (nI_eq (by omega) (by omega)).mp (e'.symm.trans e)
      rw [← e6]; exact Or.inr hr
  · rcases hs with hs | ⟨n, hr⟩
    · obtain ⟨j, hj, e⟩ := hv.2 p hp hs
      exact VI.in h2 (j := j) (by omega) hp (by rw [h7 j hj]; exact e)
    · refine CLO.in (U := U) (T := T) (F := F) (WU := WU) (TR := TR) (fun p hp hs b hb => ?_) hp0 h8 n p hr
      obtain ⟨j, hj, e⟩ := h2.2 p hp hs
      exact h5 j hj p hp e b hb
end RC
