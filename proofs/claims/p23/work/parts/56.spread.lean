/-! the two walks alike, step by step -/
theorem d16 {p : Nat} (h : p < 96) : nI p / 16 = nI (p / 16) := by
  rw [show (16 : Int32) = nI 16 from rfl, pk_div (by omega) (by decide) (by decide)]
theorem m16 {p : Nat} (h : p < 96) : nI p - nI p / 16 * 16 = nI (p % 16) := by
  rw [show (16 : Int32) = nI 16 from rfl, pk_rem (by omega) (by decide) (by decide)]
theorem slot16 {p i : Nat} : nI (p / 16) * 6 + nI i = nI (p / 16 * 6 + i) := by
  rw [show (6 : Int32) = nI 6 from rfl, pk_mul, nI_add]
theorem live_0 {F WU : Nat → Int32} {TR : Int32} {k : Nat} (hk : k < 36) (h : F k = -1) : s_X0_hasLiveCable F WU TR (nI k) = 0 := by
  unfold s_X0_hasLiveCable
  rw [xAt_nI hk (by decide), if_pos h]
/-- the place beyond port s in lane l, as a number: none is 96 -/
def pbN (U T F WU : Nat → Int32) (TR : Int32) (s l : Nat) : Nat := if s_X0_placeBeyond U T F WU TR (nI s) (nI l) = -1 then 96 else (s_X0_placeBeyond U T F WU TR (nI s) (nI l)).toNatClampNeg
theorem pb_or {U T F WU : Nat → Int32} {TR : Int32} (hF : WF F) (hU : WU_ U) {s l : Nat} (hs : s < 36) (hl : l < 16) : (s_X0_placeBeyond U T F WU TR (nI s) (nI l) = -1 ∧ (s_X0_hasLiveCable F WU TR (nI s) = 0 ∨ s_X0_laneBeyond U T F (nI s) (nI l) = -1)) ∨ ∃ j c, j < 36 ∧ c < 16 ∧ F s = nI j ∧ ¬ s_X0_hasLiveCable F WU TR (nI s) = 0 ∧ s_X0_laneBeyond U T F (nI s) (nI l) = nI c ∧ s_X0_placeBeyond U T F WU TR (nI s) (nI l) = nI (16 * (j / 6) + c) := by
  unfold s_X0_placeBeyond
  by_cases h : s_X0_hasLiveCable F WU TR (nI s) = 0
  · rw [if_pos h]; exact Or.inl ⟨rfl, Or.inl h⟩
  · rw [if_neg h]
    rcases hF s hs with h1 | ⟨j, hj, h1, -, -⟩
    · exact absurd (live_0 hs h1) h
    · rcases beyond_or (T := T) hF hU hs hl (by rw [h1]; exact nI_m1 (by omega)) with h2 | ⟨c, hc, h2⟩
      · rw [if_pos h2]; exact Or.inl ⟨rfl, Or.inr h2⟩
      · rw [h2, if_neg (nI_m1 (by omega))]
        refine Or.inr ⟨j, c, hj, hc, h1, h, rfl, ?_⟩
        rw [xAt_nI hs (by decide), h1, nI_d6 hj, show (16 : Int32) = nI 16 from rfl, pk_mul, nI_add, Nat.mul_comm]
abbrev WK : Type := (Nat → Int32) × (Nat → Int32) × Int32
/-- the same steps, the same queue of q places; queue place k0 holds pp; fr is there -/
def RW (f0 : Nat) (z1 z2 : WK) (q : Nat) : Prop := z1.2.2 = nI q ∧ z2.2.2 = nI q ∧ BI z1.1 z1.2.1 q ∧ (∀ j, j < 96 → z1.1 j = z2.1 j) ∧ (∀ j, j < q → z1.2.1 j = z2.2.1 j) ∧ ¬ z1.1 f0 = -1
def RK (f0 k0 pp : Nat) (z1 z2 : WK) : Prop := ∃ q, RW f0 z1 z2 q ∧ k0 < q ∧ z1.2.1 k0 = nI pp
section SP
variable {U T F C WU : Nat → Int32} {TR : Int32} {RO WY SU : Nat → Int32} {f0 : Nat}
theorem sp_start {S1 S2 Q1 Q2 : Nat → Int32} (hS : ∀ j, j < 96 → S1 j = -1 ∧ S2 j = -1) (hf : f0 < 96) : RW f0 (xPut 96 S1 (nI f0) 0, xPut 96 Q1 0 (nI f0), 1) (s_X0_reach_ST S2 (nI f0) 0, s_X0_reach_RP Q2 0 (nI f0), s_X0_reach_RN 0) 1 := by
  obtain ⟨q, e, hb, -⟩ := BI_start (ST := S1) (QU := Q1) (vp_in_nI hf (by decide))
  have hq : q = 1 := ((nI_eq (a := 1) (by decide) (by have := hb.1; omega)).mp e).symm
  subst hq
  refine ⟨rfl, rfl, hb, fun j hj => ?_, fun j hj => ?_, ?_⟩
  · show xPut 96 S1 (nI f0) 0 j = xPut 96 S2 (nI f0) 0 j
    rw [xPut_nI hf (by decide), xPut_nI hf (by decide)]
    by_cases h : j = f0
    · subst h; rw [pk_us, pk_us]
    · rw [pk_un h, pk_un h, (hS j hj).1, (hS j hj).2]
  · have h0 : j = 0 := by omega
    subst h0
    show xPut 96 Q1 (nI 0) (nI f0) 0 = xPut 96 Q2 (nI 0) (nI f0) 0
    rw [xPut_nI (by decide) (by decide), xPut_nI (by decide) (by decide), pk_us, pk_us]
  · show ¬ xPut 96 S1 (nI f0) 0 f0 = -1
    rw [xPut_nI hf (by decide), pk_us]
    decide
theorem FU_ok : 97 ≤ s_FU := by unfold s_FU; exact Nat.le_of_ble_eq_true rfl
end SP
