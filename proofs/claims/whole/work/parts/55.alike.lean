/-! lanes at ports, cables that are on: the two classes alike -/
def WU_ (U : Nat → Int32) : Prop := ∀ k, k < 36 → ∃ u, u ≤ 15 ∧ U k = nI u
def WT_ (U T : Nat → Int32) : Prop := ∀ k, k < 36 → ∃ t, t < 65536 ∧ T k = nI t ∧ t.testBit 0 = false ∧ ∀ u, u ≤ 15 → U k = nI u → 0 < u → t.testBit u = false
theorem WU_.UR {U : Nat → Int32} (h : WU_ U) : UR U := by
  intro i hi
  obtain ⟨k, hk, rfl⟩ := vp_in_of hi (by decide)
  obtain ⟨u, hu, e⟩ := h k hk
  rw [xAt_nI hk (by decide), e]
  exact vp_in_nI (by omega) (by decide)
theorem one_shl : ∀ l, l < 16 → (1 : Int32) <<< (nI l &&& 31) = nI (2 ^ l) := by decide +kernel
theorem sh_amt : ∀ l, l < 16 → ((nI l &&& 31).toBitVec.smod 32).toNat = l := by decide +kernel
theorem tag0 {T : Nat → Int32} {k l t : Nat} (hk : k < 36) (hl : l < 16) (hT : T k = nI t) : s_X0_isTagged T (nI k) (nI l) = if t.testBit l = true then 1 else 0 := by
  unfold s_X0_isTagged
  rw [xAt_nI hk (by decide), hT, one_shl l hl]
  by_cases h : t.testBit l = true
  · rw [if_pos h, if_neg]
    intro q
    rw [(fa_bit (by omega)).mp q] at h
    cases h
  · have h2 : t.testBit l = false := by simpa using h
    rw [if_neg h, if_pos ((fa_bit (by omega)).mpr h2)]
theorem tag1 {T : Nat → Int32} {k l t : Nat} (hk : k < 36) (hl : l < 16) (hT : T k = nI t) (ht : t < 65536) : s_X1_isTagged T (nI k) (nI l) = if t.testBit l = true then 1 else 0 := by
  unfold s_X1_isTagged
  rw [xAt_nI hk (by decide), hT, pk_shrN (by omega) _ l (sh_amt l hl)]
  have h1 : t / 2 ^ l ≤ t := Nat.div_le_self _ _
  rw [pk_andN (m := 1) (by omega) 1 (by decide +kernel), Nat.testBit_eq_decide_div_mod_eq]
  have h2 : t / 2 ^ l % 2 < 2 := Nat.mod_lt _ (by decide)
  by_cases h : t / 2 ^ l % 2 = 1
  · rw [show (2 : Nat) ^ 1 = 2 from rfl, h]; rfl
  · have h3 : t / 2 ^ l % 2 = 0 := by omega
    rw [show (2 : Nat) ^ 1 = 2 from rfl, h3]; rfl
theorem tag_eq {U T : Nat → Int32} (h : WT_ U T) {k l : Nat} (hk : k < 36) (hl : l < 16) : s_X1_isTagged T (nI k) (nI l) = s_X0_isTagged T (nI k) (nI l) := by
  obtain ⟨t, ht, e, -⟩ := h k hk
  rw [tag0 hk hl e, tag1 hk hl e ht]
theorem carried_eq {U T F : Nat → Int32} (hF : WF F) (hU : WU_ U) (hT : WT_ U T) {k l : Nat} (hk : k < 36) (hl : l < 16) (he : ¬ F k = -1) : s_X1_carried U T F (nI k) (nI l) = s_X0_laneBeyond U T F (nI k) (nI l) := by
  unfold s_X1_carried s_X0_laneBeyond
  rw [xAt_nI hk (by decide), xAt_nI hk (by decide)]
  rcases hF k hk with h | ⟨j, hj, h, -, -⟩
  · exact absurd h he
  · obtain ⟨u, hu, e⟩ := hU j hj
    rw [h, tag_eq hT hk hl, tag_eq hT hj hl, xAt_nI hj (by decide), e]
    by_cases q : u = 0
    · subst q; rfl
    · rw [if_neg (show ¬ nI u ≤ 0 from nI_nle (by omega) (by omega)), if_neg (nI_ne0 (by omega) (by omega))]
theorem live_eq {F WU WY : Nat → Int32} {TR : Int32} (hF : WF F) (hW : ∀ v, v < 6 → WY v = WU v) {k : Nat} (hk : k < 36) : s_X1_isLive F TR WY (nI k) = s_X0_hasLiveCable F WU TR (nI k) := by
  unfold s_X1_isLive s_X0_hasLiveCable
  rw [xAt_nI hk (by decide), nI_d6 hk, xAt_nI (by omega) (by decide), xAt_nI (by omega) (by decide), hW _ (by omega)]
  rcases hF k hk with h | ⟨j, hj, h, -, -⟩
  · rw [if_pos h, if_pos h]
  · rw [h, nI_d6 hj, xAt_nI (by omega) (by decide), xAt_nI (by omega) (by decide), hW _ (by omega)]
/-- a frame's lane beyond a cable: none, or one of 0 to 15 -/
theorem beyond_or {U T F : Nat → Int32} (hF : WF F) (hU : WU_ U) {k l : Nat} (hk : k < 36) (hl : l < 16) (he : ¬ F k = -1) : s_X0_laneBeyond U T F (nI k) (nI l) = -1 ∨ ∃ c, c < 16 ∧ s_X0_laneBeyond U T F (nI k) (nI l) = nI c := by
  unfold s_X0_laneBeyond
  rcases hF k hk with h | ⟨j, hj, h, -, -⟩
  · exact absurd h he
  · obtain ⟨u, hu, e⟩ := hU j hj
    rw [xAt_nI (f := F) hk (by decide), h, xAt_nI (f := U) hj (by decide), e]
    split
    · split
      · split
        · exact Or.inl rfl
        · exact Or.inr ⟨u, by omega, rfl⟩
      · exact Or.inl rfl
    · split
      · exact Or.inl rfl
      · exact Or.inr ⟨l, hl, rfl⟩
