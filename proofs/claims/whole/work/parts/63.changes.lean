/-! changes over one cable: the two questions alike -/
section CH
variable {U T F WU : Nat → Int32} {TR : Int32}
theorem ch_or (hF : WF F) (hT : WT_ U T) {s l : Nat} (hs : s < 36) (hl : l < 16) (hL : ¬ s_X0_hasLiveCable F WU TR (nI s) = 0) : (s_X0_changesOver U T F WU TR (nI s) (nI l) = -1 ∧ s_X1_changesAt U T F (nI s) (nI l) = 1000000) ∨ ∃ c, c ≤ 2 ∧ s_X0_changesOver U T F WU TR (nI s) (nI l) = nI c ∧ s_X1_changesAt U T F (nI s) (nI l) = nI c := by
  rcases hF s hs with z | ⟨j, hj, eF, -, -⟩
  · exact absurd (live_0 hs z) hL
  · unfold s_X0_changesOver s_X1_changesAt
    rw [if_neg hL, xAt_nI (f := F) hs (by decide), eF, xAt_nI (f := U) hs (by decide), xAt_nI (f := U) hj (by decide), tag_eq hT hs hl, tag_eq hT hj hl]
    by_cases q1 : U s = nI l
    · rw [if_pos q1, if_pos q1, q1]
      by_cases q2 : U j = nI l
      · rw [if_pos q2, if_pos q2.symm]
        exact Or.inr ⟨0, by decide, rfl, rfl⟩
      · rw [if_neg q2, if_neg (fun z => q2 z.symm)]
        exact Or.inl ⟨rfl, rfl⟩
    · rw [if_neg q1, if_neg q1]
      by_cases q2 : U j = nI l
      · rw [if_pos q2, if_pos q2, q2, if_neg q1]
        exact Or.inl ⟨rfl, rfl⟩
      · rw [if_neg q2, if_neg q2]
        refine Or.inr ?_
        split
        · split
          · exact ⟨2, by decide, rfl, rfl⟩
          · exact ⟨1, by decide, rfl, rfl⟩
        · split
          · exact ⟨1, by decide, rfl, rfl⟩
          · exact ⟨0, by decide, rfl, rfl⟩
theorem ch_sym {s j : Nat} {L : Int32} (hs : s < 36) (hj : j < 36) (e1 : F s = nI j) (e2 : F j = nI s) : s_X0_changesOver U T F WU TR (nI s) L = s_X0_changesOver U T F WU TR (nI j) L := by
  unfold s_X0_changesOver
  rw [xAt_nI (f := F) hs (by decide), xAt_nI (f := F) hj (by decide), e1, e2]
  by_cases q : s_X0_hasLiveCable F WU TR (nI s) = 0
  · by_cases q2 : s_X0_hasLiveCable F WU TR (nI j) = 0
    · rw [if_pos q, if_pos q2]
    · exact absurd q (live_sym hj hs e2 e1 q2)
  · rw [if_neg q, if_neg (live_sym hs hj e1 e2 q)]
    by_cases a : xAt 36 U (nI s) = L
    · by_cases b : xAt 36 U (nI j) = L
      · rw [if_pos a, if_pos b, if_pos b, if_pos a]
      · rw [if_pos a, if_neg b, if_neg b, if_pos a]
    · by_cases b : xAt 36 U (nI j) = L
      · rw [if_neg a, if_pos b, if_pos b, if_neg a]
      · rw [if_neg a, if_neg b, if_neg b, if_neg a]
        by_cases c : s_X0_isTagged T (nI s) L = 0
        · by_cases d : s_X0_isTagged T (nI j) L = 0
          · rw [if_pos c, if_pos d, if_pos d, if_pos c]
          · rw [if_pos c, if_neg d, if_neg d, if_pos c]; rfl
        · by_cases d : s_X0_isTagged T (nI j) L = 0
          · rw [if_neg c, if_pos d, if_pos d, if_neg c]; rfl
          · rw [if_neg c, if_neg d, if_neg d, if_neg c]
end CH
