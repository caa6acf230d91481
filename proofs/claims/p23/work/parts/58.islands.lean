/-! islands: reached back and forth, each counted once -/
section IS
variable {U T F WU : Nat → Int32} {TR : Int32}
theorem tag_ne {k l t : Nat} (hk : k < 36) (hl : l < 16) (hT : T k = nI t) : s_X0_isTagged T (nI k) (nI l) = 0 ↔ t.testBit l = false := by
  rw [tag0 hk hl hT]
  by_cases h : t.testBit l = true
  · rw [if_pos h, h]
    exact ⟨fun q => absurd q (by decide), fun q => by cases q⟩
  · have h2 : t.testBit l = false := by simpa using h
    rw [if_neg h]
    exact ⟨fun _ => h2, fun _ => rfl⟩
theorem lane_sym (hU : WU_ U) (hT : WT_ U T) {s j l c : Nat} (hs : s < 36) (hj : j < 36) (hl : l < 16) (hc : c < 16) (h1 : 1 ≤ l) (e1 : F s = nI j) (e2 : F j = nI s) (h : s_X0_laneBeyond U T F (nI s) (nI l) = nI c) : 1 ≤ c ∧ s_X0_laneBeyond U T F (nI j) (nI c) = nI l ∧ (¬ s_X0_isTagged T (nI j) (nI c) = 0 ∨ U j = nI c) := by
  unfold s_X0_laneBeyond at h ⊢
  rw [xAt_nI (f := F) hs (by decide), e1] at h
  rw [xAt_nI (f := F) hj (by decide), e2]
  obtain ⟨us, hus, es⟩ := hU s hs
  obtain ⟨uj, huj, ej⟩ := hU j hj
  rw [xAt_nI (f := U) hs (by decide), xAt_nI (f := U) hj (by decide), es, ej] at h
  rw [xAt_nI (f := U) hs (by decide), xAt_nI (f := U) hj (by decide), es, ej]
  by_cases q : s_X0_isTagged T (nI s) (nI l) = 0
  · rw [if_pos q] at h
    by_cases q2 : nI us = nI l
    · rw [if_pos q2] at h
      have e3 : us = l := (nI_eq (by omega) (by omega)).mp q2
      by_cases q3 : nI uj = 0
      · rw [if_pos q3] at h; exact absurd h.symm (nI_m1 (by omega))
      · rw [if_neg q3] at h
        have e4 : uj = c := (nI_eq (by omega) (by omega)).mp h
        subst e4; subst e3
        have hc1 : 1 ≤ uj := by
          rcases Nat.eq_zero_or_pos uj with z | z
          · subst z; exact absurd rfl q3
          · exact z
        obtain ⟨t, ht, et, -, hb⟩ := hT j hj
        have g := hb uj huj ej hc1
        rw [if_pos ((tag_ne hj hc et).mpr g), if_pos rfl, if_neg (nI_ne0 (by omega) (by omega))]
        exact ⟨hc1, rfl, Or.inr rfl⟩
    · rw [if_neg q2] at h; exact absurd h.symm (nI_m1 (by omega))
  · rw [if_neg q] at h
    by_cases q2 : s_X0_isTagged T (nI j) (nI l) = 0
    · rw [if_pos q2] at h; exact absurd h.symm (nI_m1 (by omega))
    · rw [if_neg q2] at h
      have e3 : l = c := (nI_eq (by omega) (by omega)).mp h
      subst e3
      rw [if_neg q2, if_neg q]
      exact ⟨h1, rfl, Or.inl q2⟩
theorem live_sym {s j : Nat} (hs : s < 36) (hj : j < 36) (e1 : F s = nI j) (e2 : F j = nI s) (h : ¬ s_X0_hasLiveCable F WU TR (nI s) = 0) : ¬ s_X0_hasLiveCable F WU TR (nI j) = 0 := by
  unfold s_X0_hasLiveCable at h ⊢
  rw [xAt_nI (f := F) hs (by decide), e1, if_neg (nI_m1 (by omega))] at h
  rw [xAt_nI (f := F) hj (by decide), e2, if_neg (nI_m1 (by omega))]
  by_cases q : TR = 0
  · rw [if_pos q]; decide
  · rw [if_neg q] at h ⊢
    by_cases q1 : xAt 6 WU (nI j / 6) = nI j
    · rw [if_pos q1]; decide
    · rw [if_neg q1]
      by_cases q2 : xAt 6 WU (nI s / 6) = nI s
      · rw [if_pos q2]; decide
      · rw [if_neg q2, if_neg q1] at h; exact absurd rfl h
/-- the frame's port is named at a place -/
def Us (U T : Nat → Int32) (p : Nat) : Prop := ∃ i, i < 6 ∧ (¬ s_X0_isTagged T (nI (p / 16 * 6 + i)) (nI (p % 16)) = 0 ∨ U (p / 16 * 6 + i) = nI (p % 16))
theorem Sp1_sym (hF : WF F) (hU : WU_ U) (hT : WT_ U T) {a b : Nat} (ha : a < 96) (h1 : 1 ≤ a % 16) (h : Sp1 U T F WU TR a b) : Sp1 U T F WU TR b a ∧ 1 ≤ b % 16 ∧ Us U T b := by
  obtain ⟨hb, i, hi, e⟩ := h
  have hs : a / 16 * 6 + i < 36 := by omega
  have hl : a % 16 < 16 := Nat.mod_lt _ (by decide)
  rcases pb_or (T := T) (WU := WU) (TR := TR) hF hU hs hl with ⟨g1, -⟩ | ⟨j, c, hj, hc, g1, g2, g3, g4⟩
  · rw [g1] at e; exact absurd e.symm (nI_m1 (by omega))
  · have hb2 : 16 * (j / 6) + c = b := (nI_eq (by omega) (by omega)).mp (g4.symm.trans e)
    have hFj : F j = nI (a / 16 * 6 + i) := by
      rcases hF _ hs with z | ⟨j', hj', z1, z2, -⟩
      · rw [z] at g1; exact absurd g1.symm (nI_m1 (by omega))
      · have : j' = j := (nI_eq (by omega) (by omega)).mp (z1.symm.trans g1)
        rw [← this]; exact z2
    obtain ⟨k1, k2, k3⟩ := lane_sym hU hT hs hj hl hc h1 g1 hFj g3
    have b1 : b / 16 = j / 6 := by omega
    have b2 : b % 16 = c := by omega
    have b3 : b / 16 * 6 + j % 6 = j := by omega
    refine ⟨⟨ha, j % 6, Nat.mod_lt _ (by decide), ?_⟩, by omega, j % 6, Nat.mod_lt _ (by decide), ?_⟩
    · rw [b3, b2]
      unfold s_X0_placeBeyond
      rw [if_neg (live_sym hs hj g1 hFj g2), k2, if_neg (nI_m1 (by omega)), xAt_nI hj (by decide), hFj, nI_d6 hs, show (16 : Int32) = nI 16 from rfl, pk_mul, nI_add]
      congr 1
      omega
    · rw [b3, b2]; exact k3
theorem Rch_add {a b : Nat} (h : Rch U T F WU TR a b) : ∀ n c, Rn U T F WU TR n b c → Rch U T F WU TR a c := by
  intro n
  induction n with
  | zero => intro c e; have e : b = c := e; rw [← e]; exact h
  | succ n ih => intro c e; obtain ⟨d, hd, hs⟩ := e; obtain ⟨m, hm⟩ := ih d hd; exact ⟨m + 1, d, hm, hs⟩
theorem Rn_sym (hF : WF F) (hU : WU_ U) (hT : WT_ U T) {a : Nat} (ha : a < 96) (h1 : 1 ≤ a % 16) : ∀ n b, Rn U T F WU TR n a b → Rch U T F WU TR b a ∧ 1 ≤ b % 16 ∧ (a ≠ b → Us U T b) := by
  intro n
  induction n with
  | zero => intro b e; have e : a = b := e; subst e; exact ⟨⟨0, rfl⟩, h1, fun z => absurd rfl z⟩
  | succ n ih =>
    intro b e
    obtain ⟨d, hd, hs⟩ := e
    obtain ⟨⟨m, hm⟩, h2, -⟩ := ih d hd
    obtain ⟨s1, s2, s3⟩ := Sp1_sym hF hU hT (Rn_lt ha n hd) h2 hs
    exact ⟨Rch_add ⟨1, b, rfl, s1⟩ m a hm, s2, fun _ => s3⟩
/-- a used place that no lower used place reaches -/
def Uq (U T : Nat → Int32) (p : Nat) : Prop := Us U T p ∧ 1 ≤ p % 16
def New (U T F WU : Nat → Int32) (TR : Int32) (p : Nat) : Prop := Uq U T p ∧ ∀ p', p' < p → Uq U T p' → ¬ Rch U T F WU TR p' p
theorem New_iff (hF : WF F) (hU : WU_ U) (hT : WT_ U T) {p : Nat} (hp : p < 96) (hu : Uq U T p) : New U T F WU TR p ↔ ∀ p', p' < p → ¬ Rch U T F WU TR p p' := by
  refine ⟨fun h p' hp' hr => ?_, fun h => ⟨hu, fun p' hp' hu' hr => ?_⟩⟩
  · obtain ⟨n, hn⟩ := hr
    obtain ⟨r, s, t⟩ := Rn_sym hF hU hT hp hu.2 n p' hn
    exact h.2 p' hp' ⟨t (by omega), s⟩ r
  · obtain ⟨n, hn⟩ := hr
    exact h p' hp' (Rn_sym hF hU hT (by omega) hu'.2 n p hn).1
/-- how many -/
def CI (U T F WU : Nat → Int32) (TR : Int32) : Nat → Int32 → Prop
  | 0, n => n = 0
  | P + 1, n => ∃ m, CI U T F WU TR P m ∧ ((New U T F WU TR P ∧ n = m + 1) ∨ (¬ New U T F WU TR P ∧ n = m))
theorem CI_one : ∀ P n m, CI U T F WU TR P n → CI U T F WU TR P m → n = m := by
  intro P
  induction P with
  | zero => intro n m h g; have h : n = 0 := h; have g : m = 0 := g; rw [h, g]
  | succ P ih =>
    intro n m h g
    obtain ⟨n', h1, h2⟩ := h
    obtain ⟨m', g1, g2⟩ := g
    have e := ih n' m' h1 g1
    subst e
    rcases h2 with ⟨a, b⟩ | ⟨a, b⟩ <;> rcases g2 with ⟨c, d⟩ | ⟨c, d⟩
    · rw [b, d]
    · exact absurd a c
    · exact absurd c a
    · rw [b, d]
/-- one port names the place -/
def Up (U T : Nat → Int32) (p i : Nat) : Prop := ¬ s_X0_isTagged T (nI (p / 16 * 6 + i)) (nI (p % 16)) = 0 ∨ U (p / 16 * 6 + i) = nI (p % 16)
theorem uS_iff {p : Nat} (hp : p < 96) : ∀ n i, i + n ≤ 6 → (s_uS U T (nI (p / 16)) (nI (p % 16)) n i = 0 ↔ ¬ ∃ k, i ≤ k ∧ k < i + n ∧ Up U T p k) := by
  intro n
  induction n with
  | zero => intro i _; exact ⟨fun _ ⟨k, h1, h2, _⟩ => by omega, fun _ => rfl⟩
  | succ n ih =>
    intro i hi
    unfold s_uS
    rw [slot16, xAt_nI (f := U) (show p / 16 * 6 + i < 36 by omega) (by decide)]
    by_cases q : s_X0_isTagged T (nI (p / 16 * 6 + i)) (nI (p % 16)) = 0
    · rw [if_pos q]
      by_cases q2 : U (p / 16 * 6 + i) = nI (p % 16)
      · rw [if_pos q2]
        exact ⟨fun z => absurd z (by decide), fun z => absurd ⟨i, Nat.le_refl i, by omega, Or.inr q2⟩ z⟩
      · rw [if_neg q2]
        refine (ih (i + 1) (by omega)).trans ⟨fun z ⟨k, h1, h2, h3⟩ => ?_, fun z ⟨k, h1, h2, h3⟩ => z ⟨k, by omega, by omega, h3⟩⟩
        by_cases hk : k = i
        · subst hk
          rcases h3 with h3 | h3
          · exact h3 q
          · exact q2 h3
        · exact z ⟨k, by omega, by omega, h3⟩
    · rw [if_neg q]
      exact ⟨fun z => absurd z (by decide), fun z => absurd ⟨i, Nat.le_refl i, by omega, Or.inl q⟩ z⟩
theorem used0 {p : Nat} (hp : p < 96) : s_X0_isUsed U T (nI (p / 16)) (nI (p % 16)) = 0 ↔ ¬ Us U T p := by
  unfold s_X0_isUsed
  refine (uS_iff hp 6 0 (by decide)).trans ⟨fun z ⟨k, h1, h2⟩ => z ⟨k, Nat.zero_le k, by omega, h2⟩, fun z ⟨k, _, h1, h2⟩ => z ⟨k, by omega, h2⟩⟩
/-- X: what the loop over places keeps -/
def JX (U T F WU : Nat → Int32) (TR : Int32) (P : Nat) (z : Int32 × WK) : Prop := ∃ q, z.2.2.2 = nI q ∧ VI z.2.1 z.2.2.1 q ∧ CLO U T F WU TR z.2.1 ∧ (∀ p, p < 96 → (¬ z.2.1 p = -1 ↔ ∃ p', p' < P ∧ Uq U T p' ∧ Rch U T F WU TR p' p)) ∧ CI U T F WU TR P z.1
theorem JX_skip {P : Nat} {z : Int32 × WK} (h : JX U T F WU TR P z) (hn : ¬ Uq U T P) : JX U T F WU TR (P + 1) z := by
  obtain ⟨q, h1, h2, h3, h4, h5⟩ := h
  refine ⟨q, h1, h2, h3, fun p hp => (h4 p hp).trans ⟨fun ⟨p', a, b, c⟩ => ⟨p', by omega, b, c⟩, fun ⟨p', a, b, c⟩ => ⟨p', ?_, b, c⟩⟩, z.1, h5, Or.inr ⟨fun q => hn q.1, rfl⟩⟩
  rcases Nat.lt_or_ge p' P with g | g
  · exact g
  · exact absurd (show Uq U T P by rw [show P = p' by omega]; exact b) hn
theorem JX_step (hF : WF F) (hU : WU_ U) {i1 i2 : Nat} (h1 : i1 < 6) (h2 : i2 < 15) {z : Int32 × WK} (h : JX U T F WU TR (16 * i1 + (i2 + 1)) z) : JX U T F WU TR (16 * i1 + (i2 + 1) + 1) (s_X0_islands_L2 U T F WU TR i1 i2 z) := by
  have hp : 16 * i1 + (i2 + 1) < 96 := by omega
  have a1 : (16 * i1 + (i2 + 1)) / 16 = i1 := by omega
  have a2 : (16 * i1 + (i2 + 1)) % 16 = i2 + 1 := by omega
  have hu := used0 (U := U) (T := T) hp
  rw [a1, a2] at hu
  have a3 : nI i1 * 16 + nI (i2 + 1) = nI (16 * i1 + (i2 + 1)) := by
    rw [show (16 : Int32) = nI 16 from rfl, pk_mul, nI_add, Nat.mul_comm]
  obtain ⟨n, S, R, N⟩ := z
  have h' := h
  obtain ⟨q, g1, g2, g3, g4, g5⟩ := h
  dsimp only at g1 g2 g3 g4 g5
  unfold s_X0_islands_L2
  dsimp only
  rw [a3]
  by_cases q1 : s_X0_isUsed U T (nI i1) (nI (i2 + 1)) = 0
  · rw [if_pos q1]
    exact JX_skip h' (fun z => hu.mp q1 z.1)
  · rw [if_neg q1]
    have hus : Uq U T (16 * i1 + (i2 + 1)) := by
      refine ⟨?_, by omega⟩
      by_cases z : Us U T (16 * i1 + (i2 + 1))
      · exact z
      · exact absurd (hu.mpr z) q1
    generalize 16 * i1 + (i2 + 1) = P at hp hus g4 g5 ⊢
    rw [xAt_nI (f := S) hp (by decide)]
    have split : ∀ p, (∃ p', p' < P + 1 ∧ Uq U T p' ∧ Rch U T F WU TR p' p) ↔ (∃ p', p' < P ∧ Uq U T p' ∧ Rch U T F WU TR p' p) ∨ Rch U T F WU TR P p := fun p => ⟨fun ⟨p', a, b, c⟩ => by
      by_cases e : p' = P
      · subst e; exact Or.inr c
      · exact Or.inl ⟨p', by omega, b, c⟩, fun z => by
      rcases z with ⟨p', a, b, c⟩ | z
      · exact ⟨p', by omega, b, c⟩
      · exact ⟨P, by omega, hus, z⟩⟩
    by_cases q2 : S P = -1
    · rw [if_pos q2]
      obtain ⟨q', Z, e, k1, k2, k3, k4⟩ := walk_reach hF hU g2 g3 hp q2 s_FU FU_ok
      unfold s_X0_walkFrom_ST s_X0_walkFrom_RP s_X0_walkFrom_RN
      rw [g1, e]
      refine ⟨q', k1, k2, k3, fun p hp' => ((k4 p hp').trans (or_congr (g4 p hp') Iff.rfl)).trans (split p).symm, n, g5, Or.inl ⟨⟨hus, fun p' a b c => (g4 P hp).mpr ⟨p', a, b, c⟩ q2⟩, rfl⟩⟩
    · rw [if_neg q2]
      obtain ⟨p', a, b, c⟩ := (g4 P hp).mp q2
      refine ⟨q, g1, g2, g3, fun p hp' => (g4 p hp').trans ((split p).trans ⟨fun z => ?_, Or.inl⟩).symm, n, g5, Or.inr ⟨fun z => z.2 p' a b c, rfl⟩⟩
      rcases z with z | ⟨m, z⟩
      · exact z
      · exact ⟨p', a, b, Rch_add c m p z⟩
theorem islands_X (hF : WF F) (hU : WU_ U) (ST RP : Nat → Int32) : CI U T F WU TR 96 (s_X0_islands U T F WU ST RP TR) := by
  unfold s_X0_islands
  have start : JX U T F WU TR (16 * 0) (0, s_X0_forgetWalks_ST ST, RP, s_X0_forgetWalks_RN) := by
    have none : ∀ p, p < 96 → s_X0_forgetWalks_ST ST p = -1 := fun p hp => by
      show xFill ST (-1) 96 p = -1; unfold xFill; rw [if_pos hp]
    exact ⟨0, rfl, ⟨⟨by decide, fun j hj => by omega, fun a b _ hb => by omega⟩, fun p hp h => absurd (none p hp) h⟩, fun p hp h => absurd (none p hp) h, fun p hp => ⟨fun h => absurd (none p hp) h, fun ⟨p', h, _⟩ => by omega⟩, rfl⟩
  have h := lp_invi (fun i z => JX U T F WU TR (16 * i) z) (f := s_X0_islands_L1 U T F WU TR) 6 (fun i1 h1 a ha => ?_) _ start
  · obtain ⟨q, -, -, -, -, h⟩ := h
    exact h
  · obtain ⟨n, S, R, N⟩ := a
    have h0 := JX_skip ha (fun z => by have := z.2; omega)
    have h := lp_invi (fun i z => JX U T F WU TR (16 * i1 + (i + 1)) z) (f := s_X0_islands_L2 U T F WU TR i1) 15 (fun i2 h2 a ha => JX_step hF hU h1 h2 ha) _ h0
    unfold s_X0_islands_L1
    dsimp only
    exact h
end IS
