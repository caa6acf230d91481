/-! ports named in range: the two classes alike -/
theorem okU_of {x : Int32} (h : okU x) : ∃ u, u < 6 ∧ x = nI u := by
  have h1 : vp_in x 6 := vp_in_ofNat (by decide) h.1 (fun z => Int32.not_lt.mpr z h.2)
  obtain ⟨k, hk, e⟩ := vp_in_of h1 (by decide)
  exact ⟨k, hk, e⟩
theorem slotXY (u p : Int32) : s_X0_slotOf u p = 6 * u + p := by
  unfold s_X0_slotOf
  rw [Int32.mul_comm]
