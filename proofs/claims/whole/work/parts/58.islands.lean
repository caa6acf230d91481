/-! islands: reached back and forth, each counted once -/
section IS
variable {U T F WU : Nat → Int32} {TR : Int32}
theorem tag_ne {k l t : Nat} (hk : k < 36) (hl : l < 16) (hT : T k = nI t) : s_X0_isTagged T (nI k) (nI l) = 0 ↔ t.testBit l = false := by
  rw [tag0 hk hl hT]
  by_cases h : t.testBit l = true
  · rw [if_pos h, h]
    exact ⟨fun q => absurd q (by decide), fun q => by cases q⟩
  · have h2 : t.testBit l = false := by simpa using h
    rw [if_neg h]
    exact ⟨fun _ => h2, fun _ => rfl⟩
theorem lane_sym (hU : WU_ U) (hT : WT_ U T) {s j l c : Nat} (hs : s < 36) (hj : j < 36) (hl : l < 16) (hc : c < 16) (h1 : 1 ≤ l) (e1 : F s = nI j) (e2 : F j = nI s) (h : s_X0_laneBeyond U T F (nI s) (nI l) = nI c) : 1 ≤ c ∧ s_X0_laneBeyond U T F (nI j) (nI c) = nI l ∧ (¬ s_X0_isTagged T (nI j) (nI c) = 0 ∨ U j = nI c) := by
  unfold s_X0_laneBeyond at h ⊢
  rw [xAt_nI (f := F) hs (by decide), e1] at h
  rw [xAt_nI (f := F) hj (by decide), e2]
  obtain ⟨us, hus, es⟩ := hU s hs
  obtain ⟨uj, huj, ej⟩ := hU j hj
  rw [xAt_nI (f := U) hs (by decide), xAt_nI (f := U) hj (by decide), es, ej] at h
  rw [xAt_nI (f := U) hs (by decide), xAt_nI (f := U) hj (by decide), es, ej]
  by_cases q : s_X0_isTagged T (nI s) (nI l) = 0
  · rw [if_pos q] at h
    by_cases q2 : nI us = nI l
    · rw [if_pos q2] at h
      have e3 : us = l := (nI_eq (by omega) (by omega)).mp q2
      by_cases q3 : nI uj = 0
      · rw [if_pos q3] at h; exact absurd h.symm (nI_m1 (by omega))
      · rw [if_neg q3] at h
        have e4 : uj = c := (nI_eq (by omega) (by omega)).mp h
        subst e4; subst e3
        have hc1 : 1 ≤ uj := by
          rcases Nat.eq_zero_or_pos uj with z | z
          · subst z; exact absurd rfl q3
          · exact z
        obtain ⟨t, ht, et, -, hb⟩ := hT j hj
        have g := hb uj huj ej hc1
        rw [if_pos ((tag_ne hj hc et).mpr g), if_pos rfl, if_neg (nI_ne0 (by omega) (by omega))]
        exact ⟨hc1, rfl, Or.inr rfl⟩
    · rw [if_neg q2] at h; exact absurd h.symm (nI_m1 (by omega))
  · rw [if_neg q] at h
    by_cases q2 : s_X0_isTagged T (nI j) (nI l) = 0
    · rw [if_pos q2] at h; exact absurd h.symm (nI_m1 (by omega))
    · rw [if_neg q2] at h
      have e3 : l = c := (nI_eq (by omega) (by omega)).mp h
      subst e3
      rw [if_neg q2, if_neg q]
      exact ⟨h1, rfl, Or.inl q2⟩
theorem live_sym {s j : Nat} (hs : s < 36) (hj : j < 36) (e1 : F s = nI j) (e2 : F j = nI s) (h : ¬ s_X0_hasLiveCable F WU TR (nI s) = 0) : ¬ s_X0_hasLiveCable F WU TR (nI j) = 0 := by
  unfold s_X0_hasLiveCable at h ⊢
  rw [xAt_nI (f := F) hs (by decide), e1, if_neg (nI_m1 (by omega))] at h
  rw [xAt_nI (f := F) hj (by decide), e2, if_neg (nI_m1 (by omega))]
  by_cases q : TR = 0
  · rw [if_pos q]; decide
  · rw [if_neg q] at h ⊢
    by_cases q1 : xAt 6 WU (nI j / 6) = nI j
    · rw [if_pos q1]; decide
    · rw [if_neg q1]
      by_cases q2 : xAt 6 WU (nI s / 6) = nI s
      · rw [if_pos q2]; decide
      · rw [if_neg q2, if_neg q1] at h; exact absurd rfl h
/-- the frame's port is named at a place -/
def Us (U T : Nat → Int32) (p : Nat) : Prop := ∃ i, i < 6 ∧ (¬ s_X0_isTagged T (nI (p / 16 * 6 + i)) (nI (p % 16)) = 0 ∨ U (p / 16 * 6 + i) = nI (p % 16))
theorem Sp1_sym (hF : WF F) (hU : WU_ U) (hT : WT_ U T) {a b : Nat} (ha : a < 96) (h1 : 1 ≤ a % 16) (h : Sp1 U T F WU TR a b) : Sp1 U T F WU TR b a ∧ 1 ≤ b % 16 ∧ Us U T b := by
  obtain ⟨hb, i, hi, e⟩ := h
  have hs : a / 16 * 6 + i < 36 := by omega
  have hl : a % 16 < 16 := Nat.mod_lt _ (by decide)
  rcases pb_or (T := T) (WU := WU) (TR := TR) hF hU hs hl with ⟨g1, -⟩ | ⟨j, c, hj, hc, g1, g2, g3, g4⟩
  · rw [g1] at e; exact absurd e.symm (nI_m1 (by omega))
  · have hb2 : 16 * (j / 6) + c = b := (nI_eq (by omega) (by omega)).mp (g4.symm.trans e)
    have hFj : F j = nI (a / 16 * 6 + i) := by
      rcases hF _ hs with z | ⟨j', hj', z1, z2, -⟩
      · rw [z] at g1; exact absurd g1.symm (nI_m1 (by omega))
      · have : j' = j := (nI_eq (by omega) (by omega)).mp (z1.symm.trans g1)
        rw [← this]; exact z2
    obtain ⟨k1, k2, k3⟩ := lane_sym hU hT hs hj hl hc h1 g1 hFj g3
    have b1 : b / 16 = j / 6 := by omega
    have b2 : b % 16 = c := by omega
    have b3 : b / 16 * 6 + j % 6 = j := by omega
    refine ⟨⟨ha, j % 6, Nat.mod_lt _ (by decide), ?_⟩, by omega, j % 6, Nat.mod_lt _ (by decide), ?_⟩
    · rw [b3, b2]
      unfold s_X0_placeBeyond
      rw [if_neg (live_sym hs hj g1 hFj g2), k2, if_neg (nI_m1 (by omega)), xAt_nI hj (by decide), hFj, nI_d6 hs, show (16 : Int32) = nI 16 from rfl, pk_mul, nI_add]
      congr 1
      omega
    · rw [b3, b2]; exact k3
theorem Rch_add {a b : Nat} (h : Rch U T F WU TR a b) : ∀ n c, Rn U T F WU TR n b c → Rch U T F WU TR a c := by
  intro n
  induction n with
  | zero => intro c e; have e : b = c := e; rw [← e]; exact h
  | succ n ih => intro c e; obtain ⟨d, hd, hs⟩ := e; obtain ⟨m, hm⟩ := ih d hd; exact ⟨m + 1, d, hm, hs⟩
theorem Rn_sym (hF : WF F) (hU : WU_ U) (hT : WT_ U T) {a : Nat} (ha : a < 96) (h1 : 1 ≤ a % 16) : ∀ n b, Rn U T F WU TR n a b → Rch U T F WU TR b a ∧ 1 ≤ b % 16 ∧ (a ≠ b → Us U T b) := by
  intro n
  induction n with
  | zero => intro b e; have e : a = b := e; subst e; exact ⟨⟨0, rfl⟩, h1, fun z => absurd rfl z⟩
  | succ n ih =>
    intro b e
    obtain ⟨d, hd, hs⟩ := e
    obtain ⟨⟨m, hm⟩, h2, -⟩ := ih d hd
    obtain ⟨s1, s2, s3⟩ := Sp1_sym hF hU hT (Rn_lt ha n hd) h2 hs
    exact ⟨Rch_add ⟨1, b, rfl, s1⟩ m a hm, s2, fun _ => s3⟩
/-- a used place that no lower used place reaches -/
def Uq (U T : Nat → Int32) (p : Nat) : Prop := Us U T p ∧ 1 ≤ p % 16
def New (U T F WU : Nat → Int32) (TR : Int32) (p : Nat) : Prop := Uq U T p ∧ ∀ p', p' < p → Uq U T p' → ¬ Rch U T F WU TR p' p
theorem New_iff (hF : WF F) (hU : WU_ U) (hT : WT_ U T) {p : Nat} (hp : p < 96) (hu : Uq U T p) : New U T F WU TR p ↔ ∀ p', p' < p → ¬ Rch U T F WU TR p p' := by
  refine ⟨fun h p' hp' hr => ?_, fun h => ⟨hu, fun p' hp' hu' hr => ?_⟩⟩
  · obtain ⟨n, hn⟩ := hr
    obtain ⟨r, s, t⟩ := Rn_sym hF hU hT hp hu.2 n p' hn
    exact h.2 p' hp' ⟨t (by omega), s⟩ r
  · obtain ⟨n, hn⟩ := hr
    exact h p' hp' (Rn_sym hF hU hT (by omega) hu'.2 n p hn).1
/-- how many -/
def CI (U T F WU : Nat → Int32) (TR : Int32) : Nat → Int32 → Prop
  | 0, n => n = 0
  | P + 1, n => ∃ m, CI U T F WU TR P m ∧ ((New U T F WU TR P ∧ n = m + 1) ∨ (¬ New U T F WU TR P ∧ n = m))
theorem CI_one : ∀ P n m, CI U T F WU TR P n → CI U T F WU TR P m → n = m := by
  intro P
  induction P with
  | zero => intro n m h g; have h : n = 0 := h; have g : m = 0 := g; rw [h, g]
  | succ P ih =>
    intro n m h g
    obtain ⟨n', h1, h2⟩ := h
    obtain ⟨m', g1, g2⟩ := g
    have e := ih n' m' h1 g1
    subst e
    rcases h2 with ⟨a, b⟩ | ⟨a, b⟩ <;> rcases g2 with ⟨c, d⟩ | ⟨c, d⟩
    · rw [b, d]
    · exact absurd a c
    · exact absurd c a
    · rw [b, d]
end IS
