/-! lanes at ports, cables that are on: the two classes alike -/
def WU_ (U : Nat → Int32) : Prop := ∀ k, k < 36 → ∃ u, u ≤ 15 ∧ U k = nI u
def WT_ (U T : Nat → Int32) : Prop := ∀ k, k < 36 → ∃ t, t < 65536 ∧ T k = nI t ∧ t.testBit 0 = false ∧ ∀ u, u ≤ 15 → U k = nI u → 0 < u → t.testBit u = false
theorem WU_.UR {U : Nat → Int32} (h : WU_ U) : UR U := by
  intro i hi
  obtain ⟨k, hk, rfl⟩ := vp_in_of hi (by decide)
  obtain ⟨u, hu, e⟩ := h k hk
  rw [xAt_nI hk (by decide), e]
  exact vp_in_nI (by omega) (by decide)
theorem one_shl : ∀ l, l < 16 → (1 : Int32) <<< (nI l &&& 31) = nI (2 ^ l) := by decide +kernel
theorem sh_amt : ∀ l, l < 16 → ((nI l &&& 31).toBitVec.smod 32).toNat = l := by decide +kernel
theorem tag0 {T : Nat → Int32} {k l t : Nat} (hk : k < 36) (hl : l < 16) (hT : T k = nI t) : s_X0_isTagged T (nI k) (nI l) = if t.testBit l = true then 1 else 0 := by
  unfold s_X0_isTagged
  rw [xAt_nI hk (by decide), hT, one_shl l hl]
  by_cases h : t.testBit l = true
  · rw [if_pos h, if_neg]
    intro q
    rw [(fa_bit (by omega)).mp q] at h
    cases h
  · have h2 : t.testBit l = false := by simpa using h
    rw [if_neg h, if_pos ((fa_bit (by omega)).mpr h2)]
/-- a frame's lane beyond a cable: none, or one of 0 to 15 -/
theorem beyond_or {U T F : Nat → Int32} (hF : WF F) (hU : WU_ U) {k l : Nat} (hk : k < 36) (hl : l < 16) (he : ¬ F k = -1) : s_X0_laneBeyond U T F (nI k) (nI l) = -1 ∨ ∃ c, c < 16 ∧ s_X0_laneBeyond U T F (nI k) (nI l) = nI c := by
  unfold s_X0_laneBeyond
  rcases hF k hk with h | ⟨j, hj, h, -, -⟩
  · exact absurd h he
  · obtain ⟨u, hu, e⟩ := hU j hj
    rw [xAt_nI (f := F) hk (by decide), h, xAt_nI (f := U) hj (by decide), e]
    split
    · split
      · split
        · exact Or.inl rfl
        · exact Or.inr ⟨u, by omega, rfl⟩
      · exact Or.inl rfl
    · split
      · exact Or.inl rfl
      · exact Or.inr ⟨l, hl, rfl⟩
