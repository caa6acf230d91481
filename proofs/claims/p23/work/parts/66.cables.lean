/-! cables laid and pulled, the book, the tree's rows: the pictures of both objects -/
theorem WF_cable {F : Nat → Int32} (h : WF F) {k j : Nat} (hk : k < 36) (hj : j < 36) (hkj : k / 6 ≠ j / 6) (ek : F k = -1) (ej : F j = -1) : WF (xPut 36 (xPut 36 F (nI k) (nI j)) (nI j) (nI k)) := by
  have hne : k ≠ j := fun z => hkj (by rw [z])
  rw [xPut_nI hk (by decide), xPut_nI hj (by decide)]
  intro i hi
  by_cases q1 : i = j
  · subst q1
    rw [pk_us]
    refine Or.inr ⟨k, hk, rfl, ?_, hkj⟩
    rw [pk_un hne, pk_us]
  · rw [pk_un q1]
    by_cases q2 : i = k
    · subst q2
      rw [pk_us]
      refine Or.inr ⟨j, hj, rfl, ?_, fun z => hkj z.symm⟩
      rw [pk_us]
    · rw [pk_un q2]
      rcases h i hi with e | ⟨m, hm, e1, e2, e3⟩
      · exact Or.inl e
      · refine Or.inr ⟨m, hm, e1, ?_, e3⟩
        have m1 : m ≠ j := fun z => nI_m1 (d := i) (by omega) (by rw [← e2, z]; exact ej)
        have m2 : m ≠ k := fun z => nI_m1 (d := i) (by omega) (by rw [← e2, z]; exact ek)
        rw [pk_un m1, pk_un m2]; exact e2
theorem WC_cable {F C C' : Nat → Int32} (h : WC F C C') (hF : WF F) {k j c : Nat} (hk : k < 36) (hj : j < 36) (hkj : k / 6 ≠ j / 6) (ek : F k = -1) (ej : F j = -1) (h1 : 1 ≤ c) (h2 : c ≤ 20) : WC (xPut 36 (xPut 36 F (nI k) (nI j)) (nI j) (nI k)) (xPut 36 (xPut 36 C (nI k) (nI c)) (nI j) (nI c)) (xPut 36 (xPut 36 C' (nI k) (nI c)) (nI j) (nI c)) := by
  have hne : k ≠ j := fun z => hkj (by rw [z])
  rw [xPut_nI hk (by decide), xPut_nI hj (by decide), xPut_nI hk (by decide), xPut_nI hj (by decide), xPut_nI hk (by decide), xPut_nI hj (by decide)]
  intro i hi hn
  by_cases q1 : i = j
  · subst q1
    refine ⟨c, h1, h2, pk_us, pk_us, fun m hm e => ?_⟩
    rw [pk_us] at e
    have e2 := (nI_eq (a := k) (b := m) (by omega) (by omega)).mp e
    subst e2
    rw [pk_un hne, pk_us]
  · rw [pk_un q1] at hn
    by_cases q2 : i = k
    · subst q2
      refine ⟨c, h1, h2, by rw [pk_un q1, pk_us], by rw [pk_un q1, pk_us], fun m hm e => ?_⟩
      rw [pk_un q1, pk_us] at e
      have e2 := (nI_eq (a := j) (b := m) (by omega) (by omega)).mp e
      subst e2
      rw [pk_us]
    · rw [pk_un q2] at hn
      obtain ⟨d, a1, a2, a3, a4, a5⟩ := h i hi hn
      refine ⟨d, a1, a2, by rw [pk_un q1, pk_un q2]; exact a3, by rw [pk_un q1, pk_un q2]; exact a4, fun m hm e => ?_⟩
      rw [pk_un q1, pk_un q2] at e
      have em : F m = nI i := by
        rcases hF i hi with e3 | ⟨m', hm', e3, e4, -⟩
        · exact absurd e3 hn
        · have := (nI_eq (a := m') (b := m) (by omega) (by omega)).mp (e3.symm.trans e)
          subst this; exact e4
      have m1 : m ≠ j := fun z => nI_m1 (d := i) (by omega) (by rw [← em, z]; exact ej)
      have m2 : m ≠ k := fun z => nI_m1 (d := i) (by omega) (by rw [← em, z]; exact ek)
      rw [pk_un m1, pk_un m2]; exact a5 m hm e
theorem WF_pull {F : Nat → Int32} (h : WF F) {k j : Nat} (hk : k < 36) (hj : j < 36) (e1 : F k = nI j) (e2 : F j = nI k) : WF (xPut 36 (xPut 36 F (nI j) (-1)) (nI k) (-1)) := by
  rw [xPut_nI hj (by decide), xPut_nI hk (by decide)]
  intro i hi
  by_cases q1 : i = k
  · subst q1; exact Or.inl pk_us
  · rw [pk_un q1]
    by_cases q2 : i = j
    · subst q2; exact Or.inl pk_us
    · rw [pk_un q2]
      rcases h i hi with e | ⟨m, hm, e3, e4, e5⟩
      · exact Or.inl e
      · refine Or.inr ⟨m, hm, e3, ?_, e5⟩
        have m1 : m ≠ k := fun z => q2 ((nI_eq (a := i) (b := j) (by omega) (by omega)).mp (by rw [← e4, z]; exact e1))
        have m2 : m ≠ j := fun z => q1 ((nI_eq (a := i) (b := k) (by omega) (by omega)).mp (by rw [← e4, z]; exact e2))
        rw [pk_un m1, pk_un m2]; exact e4
theorem WC_pull {F C C' : Nat → Int32} (h : WC F C C') (hF : WF F) {k j : Nat} (hk : k < 36) (hj : j < 36) (e1 : F k = nI j) (e2 : F j = nI k) : WC (xPut 36 (xPut 36 F (nI j) (-1)) (nI k) (-1)) (xPut 36 (xPut 36 C (nI j) 0) (nI k) 0) C' := by
  rw [xPut_nI hj (by decide), xPut_nI hk (by decide), xPut_nI hj (by decide), xPut_nI hk (by decide)]
  intro i hi hn
  by_cases q1 : i = k
  · subst q1; exact absurd pk_us hn
  · rw [pk_un q1] at hn
    by_cases q2 : i = j
    · subst q2; exact absurd pk_us hn
    · rw [pk_un q2] at hn
      obtain ⟨d, a1, a2, a3, a4, a5⟩ := h i hi hn
      refine ⟨d, a1, a2, by rw [pk_un q1, pk_un q2]; exact a3, a4, fun m hm e => ?_⟩
      rw [pk_un q1, pk_un q2] at e
      have em : F m = nI i := by
        rcases hF i hi with e3 | ⟨m', hm', e3, e4, -⟩
        · exact absurd e3 hn
        · have := (nI_eq (a := m') (b := m) (by omega) (by omega)).mp (e3.symm.trans e)
          subst this; exact e4
      have m1 : m ≠ k := fun z => q2 ((nI_eq (a := i) (b := j) (by omega) (by omega)).mp (by rw [← em, z]; exact e1))
      have m2 : m ≠ j := fun z => q1 ((nI_eq (a := i) (b := k) (by omega) (by omega)).mp (by rw [← em, z]; exact e2))
      rw [pk_un m1, pk_un m2]; exact a5 m hm e
/-- the book: the class writes what far would answer, the reference the port's number -/
def BB (B B' : Nat → Int32) : Prop := ∀ k, k < 36 → (B k = -1 ∧ B' k = -1) ∨ ∃ j, j < 36 ∧ B' k = nI j ∧ B k = s_X0_endName (nI j)
theorem end_nI {j : Nat} (h : j < 36) : s_X0_endName (nI j) = nI (j / 6 * 10 + j % 6) := by
  unfold s_X0_endName
  rw [if_neg (nI_m1 (by omega)), nI_d6 h, show (10 : Int32) = nI 10 from rfl, show (6 : Int32) = nI 6 from rfl, pk_mul, pk_mul, pk_sub (by omega), nI_add]
  congr 1
  omega
theorem end_m1 : s_X0_endName (-1) = -1 := by unfold s_X0_endName; rw [if_pos rfl]
theorem end_ne {j : Nat} (h : j < 36) : ¬ s_X0_endName (nI j) = -1 := by rw [end_nI h]; exact nI_m1 (by omega)
theorem end_inj {i j : Nat} (hi : i < 36) (hj : j < 36) : s_X0_endName (nI i) = s_X0_endName (nI j) ↔ i = j := by
  rw [end_nI hi, end_nI hj, nI_eq (by omega) (by omega)]
  omega
theorem BB_put {B B' : Nat → Int32} (h : BB B B') {k : Nat} (hk : k < 36) {x x' : Int32} (hx : (x = -1 ∧ x' = -1) ∨ ∃ j, j < 36 ∧ x' = nI j ∧ x = s_X0_endName (nI j)) : BB (xPut 36 B (nI k) x) (xPut 36 B' (nI k) x') := by
  rw [xPut_nI hk (by decide), xPut_nI hk (by decide)]
  intro i hi
  by_cases q : i = k
  · subst q; rw [pk_us, pk_us]; exact hx
  · rw [pk_un q, pk_un q]; exact h i hi
theorem BB_m1 {B B' : Nat → Int32} (h : BB B B') {k : Nat} (hk : k < 36) : B k = -1 ↔ B' k = -1 := by
  rcases h k hk with ⟨a, b⟩ | ⟨j, hj, a, b⟩
  · rw [a, b]
  · rw [a, b]; exact ⟨fun z => absurd z (end_ne hj), fun z => absurd z (nI_m1 (by omega))⟩
