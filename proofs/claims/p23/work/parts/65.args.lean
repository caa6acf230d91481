/-! arguments in range, and what untag, tag, note, cable, pull do to the pictures -/
theorem ge_not {x y : Int32} : y ≤ x ↔ ¬ x < y := Int32.not_lt.symm
theorem okL_of {x : Int32} (h : okL x) : ∃ u, 1 ≤ u ∧ u < 16 ∧ x = nI u := by
  have h1 : vp_in x 16 := vp_in_ofNat (by decide) (fun z => h.1 (Int32.lt_of_lt_of_le z (by decide))) (fun z => absurd (Int32.le_trans z h.2) (by decide))
  obtain ⟨k, hk, e⟩ := vp_in_of h1 (by decide)
  refine ⟨k, ?_, hk, e⟩
  rcases Nat.eq_zero_or_pos k with q | q
  · subst q; exact absurd (show x < 1 by rw [e]; decide) h.1
  · exact q
theorem slot_of {u p : Int32} (hu : okU u) (hp : okU p) : ∃ k v, k < 36 ∧ v < 6 ∧ u = nI v ∧ k / 6 = v ∧ s_X0_slotOf u p = nI k ∧ 6 * u + p = nI k := by
  obtain ⟨v, hv, e1⟩ := okU_of hu
  obtain ⟨i, hi, e2⟩ := okU_of hp
  have e : s_X0_slotOf u p = nI (i + 6 * v) := by rw [e1, e2]; unfold s_X0_slotOf; exact slotX
  exact ⟨i + 6 * v, v, by omega, hv, e1, by omega, e, by rw [← slotXY]; exact e⟩
theorem cab0 {F : Nat → Int32} {k : Nat} (hk : k < 36) : s_X0_hasCable F (nI k) = 0 ↔ F k = -1 := by
  unfold s_X0_hasCable
  rw [xAt_nI hk (by decide)]
  by_cases h : F k = -1
  · rw [if_pos h]; exact ⟨fun _ => h, fun _ => rfl⟩
  · rw [if_neg h]; exact ⟨fun z => absurd z (by decide), fun z => absurd z h⟩
/-- a bit cleared, a bit set -/
theorem m1_nI : (-1 : Int32) = nI 4294967295 := by decide +kernel
theorem bit_clr {t l : Nat} : nI t &&& (nI (2 ^ l) ^^^ (-1)) = nI (t &&& (2 ^ l ^^^ 4294967295)) := by
  rw [m1_nI, nx_xor, nx_and]
theorem clr_bit {t l u : Nat} (hu : u < 32) : (t &&& (2 ^ l ^^^ 4294967295)).testBit u = (t.testBit u && !decide (l = u)) := by
  rw [Nat.testBit_and, Nat.testBit_xor, Nat.testBit_two_pow, show (4294967295 : Nat) = 2 ^ 32 - 1 from rfl, Nat.testBit_two_pow_sub_one, decide_eq_true hu]
  cases decide (l = u) <;> cases t.testBit u <;> rfl
theorem clr_lt {t m : Nat} (h : t < 65536) : t &&& m < 65536 := Nat.lt_of_le_of_lt Nat.and_le_left h
theorem set_bit {t l u : Nat} : (t ||| 2 ^ l).testBit u = (t.testBit u || decide (l = u)) := by
  rw [Nat.testBit_or, Nat.testBit_two_pow]
theorem set_lt {t l : Nat} (h : t < 65536) (hl : l < 16) : t ||| 2 ^ l < 65536 :=
  Nat.or_lt_two_pow (n := 16) h (Nat.pow_lt_pow_right (by decide) hl)
theorem clr_set {t l : Nat} (hl : l < 16) (ht : t < 65536) : (t &&& (2 ^ l ^^^ 4294967295)) ||| 2 ^ l = t ||| 2 ^ l := by
  refine Nat.eq_of_testBit_eq fun u => ?_
  rw [set_bit, set_bit]
  by_cases hu : u < 32
  · rw [clr_bit hu]
    cases decide (l = u) <;> cases t.testBit u <;> rfl
  · have h1 : t.testBit u = false := Nat.testBit_lt_two_pow (Nat.lt_of_lt_of_le ht (show 2 ^ 16 ≤ 2 ^ u from Nat.pow_le_pow_right (by decide) (by omega)))
    have h2 : (t &&& (2 ^ l ^^^ 4294967295)).testBit u = false := by rw [Nat.testBit_and, h1]; rfl
    rw [h1, h2]
theorem WU_untag {U : Nat → Int32} (h : WU_ U) {k l : Nat} (hk : k < 36) (hl : l < 16) : WU_ (xPut 36 U (nI k) (nI l)) := by
  intro j hj
  rw [xPut_nI hk (by decide)]
  by_cases q : j = k
  · subst q; rw [pk_us]; exact ⟨l, by omega, rfl⟩
  · rw [pk_un q]; exact h j hj
theorem WT_untag {U T : Nat → Int32} (h : WT_ U T) {k l : Nat} (hk : k < 36) (hl : l < 16) (ht : s_X0_isTagged T (nI k) (nI l) = 0) : WT_ (xPut 36 U (nI k) (nI l)) T := by
  intro j hj
  obtain ⟨t, h1, h2, h3, h4⟩ := h j hj
  refine ⟨t, h1, h2, h3, fun u hu e h0 => ?_⟩
  rw [xPut_nI hk (by decide)] at e
  by_cases q : j = k
  · subst q
    rw [pk_us] at e
    have e2 := (nI_eq (a := l) (b := u) (by omega) (by omega)).mp e
    subst e2
    exact (tag_ne hj hl h2).mp ht
  · rw [pk_un q] at e; exact h4 u hu e h0
theorem WT_put {U T : Nat → Int32} (h : WT_ U T) {k t : Nat} (hk : k < 36) (ht : t < 65536) (h0 : t.testBit 0 = false) (hb : ∀ u, u ≤ 15 → U k = nI u → 0 < u → t.testBit u = false) : WT_ U (xPut 36 T (nI k) (nI t)) := by
  intro j hj
  rw [xPut_nI hk (by decide)]
  by_cases q : j = k
  · subst q; rw [pk_us]; exact ⟨t, ht, rfl, h0, hb⟩
  · rw [pk_un q]; exact h j hj
/-- both write the same row of tags -/
theorem tag_row {U T : Nat → Int32} (hU : WU_ U) (h : WT_ U T) {k l : Nat} (hk : k < 36) (h1 : 1 ≤ l) (hl : l < 16) :
    xAt 36 T (nI k) &&& (((1 : Int32) <<< (nI l &&& 31)) ^^^ (-1)) ||| ((1 : Int32) <<< (nI l &&& 31)) = xAt 36 T (nI k) ||| ((1 : Int32) <<< (nI l &&& 31)) ∧ WT_ U (xPut 36 T (nI k) (xAt 36 T (nI k) &&& (((1 : Int32) <<< (nI l &&& 31)) ^^^ (-1)))) ∧ (¬ U k = nI l → WT_ U (xPut 36 T (nI k) (xAt 36 T (nI k) ||| ((1 : Int32) <<< (nI l &&& 31))))) := by
  obtain ⟨t, ht, e, h0, hb⟩ := h k hk
  rw [xAt_nI hk (by decide), e, one_shl l hl, bit_clr, fa_or, fa_or, clr_set hl ht]
  refine ⟨rfl, WT_put h hk (clr_lt ht) ?_ (fun u hu e h0 => ?_), fun hn => WT_put h hk (set_lt ht hl) ?_ (fun u hu e h0 => ?_)⟩
  · rw [clr_bit (by decide), h0]; rfl
  · rw [clr_bit (by omega), hb u hu e h0]; rfl
  · rw [set_bit, h0, decide_eq_false (by omega)]; rfl
  · rw [set_bit, hb u hu e h0, decide_eq_false (fun z => hn (by rw [e, z]))]; rfl
