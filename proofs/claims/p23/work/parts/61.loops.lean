/-! sums, and the lanes that a cable carries both ways -/
def sm (f : Nat → Int32) : Nat → Int32
  | 0 => 0
  | n + 1 => sm f n + f n
theorem sm_congr {f g : Nat → Int32} : ∀ n, (∀ i, i < n → f i = g i) → sm f n = sm g n := by
  intro n
  induction n with
  | zero => intro _; rfl
  | succ n ih =>
    intro h
    show sm f n + f n = sm g n + g n
    rw [ih (fun i hi => h i (by omega)), h n (by omega)]
theorem i4 (a b c d : Int32) : a + b + (c + d) = a + c + (b + d) := by
  rw [Int32.add_assoc, ← Int32.add_assoc b, Int32.add_comm b c, Int32.add_assoc c, ← Int32.add_assoc]
theorem sm_add (f g : Nat → Int32) : ∀ n, sm (fun i => f i + g i) n = sm f n + sm g n := by
  intro n
  induction n with
  | zero => rfl
  | succ n ih =>
    show sm (fun i => f i + g i) n + (f n + g n) = sm f n + f n + (sm g n + g n)
    rw [ih, i4]
theorem sm_zero : ∀ n, sm (fun _ => 0) n = 0 := by
  intro n
  induction n with
  | zero => rfl
  | succ n ih => show sm (fun _ => 0) n + 0 = 0; rw [ih]; rfl
theorem sm_swap (f : Nat → Nat → Int32) (m : Nat) : ∀ n, sm (fun i => sm (f i) m) n = sm (fun j => sm (fun i => f i j) n) m := by
  intro n
  induction n with
  | zero => exact (sm_zero m).symm
  | succ n ih =>
    show sm (fun i => sm (f i) m) n + sm (f n) m = _
    rw [ih, ← sm_add]
    rfl
theorem sm_app (f : Nat → Int32) (a : Nat) : ∀ n, sm f (a + n) = sm f a + sm (fun i => f (a + i)) n := by
  intro n
  induction n with
  | zero => exact (Int32.add_zero _).symm
  | succ n ih =>
    show sm f (a + n) + f (a + n) = sm f a + (sm (fun i => f (a + i)) n + f (a + n))
    rw [ih, Int32.add_assoc]
theorem sm_mul (f : Nat → Int32) (a : Nat) : ∀ n, sm f (a * n) = sm (fun u => sm (fun i => f (a * u + i)) a) n := by
  intro n
  induction n with
  | zero => rfl
  | succ n ih =>
    rw [Nat.mul_succ, sm_app, ih]
    rfl
theorem lp_sm {f : Nat → Int32 → Int32} {g : Nat → Int32} : ∀ n, (∀ i, i < n → ∀ z, f i z = z + g i) → ∀ z, lp f n z = z + sm g n := by
  intro n
  induction n with
  | zero => intro _ z; exact (Int32.add_zero z).symm
  | succ n ih =>
    intro h z
    rw [lp_succ, ih (fun i hi => h i (by omega)), h n (by omega), Int32.add_assoc]
    rfl
theorem sm_bits {t : Nat} (h : t % 2 = 0) : ∀ n, sm (fun l => nI (t / 2 ^ (l + 1) % 2)) n = nI (sb t (n + 1)) := by
  intro n
  induction n with
  | zero =>
    show (0 : Int32) = nI (0 + t / 2 ^ 0 % 2)
    rw [Nat.pow_zero, Nat.div_one, h]
    rfl
  | succ n ih =>
    show sm _ n + nI (t / 2 ^ (n + 1) % 2) = _
    rw [ih, nI_add]
    rfl
theorem sm_one (u : Nat) (b : Bool) : ∀ n, sm (fun l => if b = true ∧ u = l + 1 then 1 else 0) n = if b = true ∧ 1 ≤ u ∧ u ≤ n then 1 else 0 := by
  intro n
  induction n with
  | zero => rw [if_neg (by omega)]; rfl
  | succ n ih =>
    show sm _ n + (if b = true ∧ u = n + 1 then 1 else 0) = _
    rw [ih]
    by_cases hb : b = true
    · by_cases h : u = n + 1
      · rw [if_neg (show ¬ (b = true ∧ 1 ≤ u ∧ u ≤ n) from fun z => by have := z.2; omega), if_pos (show b = true ∧ u = n + 1 from ⟨hb, h⟩), if_pos (show b = true ∧ 1 ≤ u ∧ u ≤ n + 1 from ⟨hb, by omega, by omega⟩)]; rfl
      · rw [if_neg (show ¬ (b = true ∧ u = n + 1) from fun z => h z.2)]
        by_cases h2 : 1 ≤ u ∧ u ≤ n
        · rw [if_pos (show b = true ∧ 1 ≤ u ∧ u ≤ n from ⟨hb, h2⟩), if_pos (show b = true ∧ 1 ≤ u ∧ u ≤ n + 1 from ⟨hb, by omega, by omega⟩)]; rfl
        · rw [if_neg (show ¬ (b = true ∧ 1 ≤ u ∧ u ≤ n) from fun z => h2 z.2), if_neg (show ¬ (b = true ∧ 1 ≤ u ∧ u ≤ n + 1) from fun z => h2 ⟨z.2.1, by have := z.2; omega⟩)]; rfl
    · rw [if_neg (show ¬ (b = true ∧ 1 ≤ u ∧ u ≤ n) from fun z => hb z.1), if_neg (show ¬ (b = true ∧ u = n + 1) from fun z => hb z.1), if_neg (show ¬ (b = true ∧ 1 ≤ u ∧ u ≤ n + 1) from fun z => hb z.1)]; rfl
section LO
variable {U T F : Nat → Int32}
theorem lane_one (hU : WU_ U) (hT : WT_ U T) {s j us uj ts tj : Nat} (hs : s < 36) (hj : j < 36) (eF : F s = nI j) (hus : us ≤ 15) (huj : uj ≤ 15) (es : U s = nI us) (ej : U j = nI uj) (hts : ts < 65536) (htj : tj < 65536) (et : T s = nI ts) (ef : T j = nI tj) {l : Nat} (hl : l < 15) : (if s_X0_laneBeyond U T F (nI s) (nI (l + 1)) = -1 then (0 : Int32) else 1) = nI ((ts &&& tj) / 2 ^ (l + 1) % 2) + (if decide (uj ≠ 0) = true ∧ us = l + 1 then 1 else 0) := by
  have bit : (ts &&& tj) / 2 ^ (l + 1) % 2 = if ts.testBit (l + 1) = true ∧ tj.testBit (l + 1) = true then 1 else 0 := by
    have h := Nat.testBit_eq_decide_div_mod_eq (x := ts &&& tj) (i := l + 1)
    rw [Nat.testBit_and] at h
    have h2 : (ts &&& tj) / 2 ^ (l + 1) % 2 < 2 := Nat.mod_lt _ (by decide)
    by_cases c : ts.testBit (l + 1) = true ∧ tj.testBit (l + 1) = true
    · rw [if_pos c]
      rw [c.1, c.2] at h
      exact of_decide_eq_true h.symm
    · rw [if_neg c]
      have h3 : (ts.testBit (l + 1) && tj.testBit (l + 1)) = false := by
        rw [Bool.and_eq_false_iff]
        cases h4 : ts.testBit (l + 1) <;> cases h5 : tj.testBit (l + 1) <;> simp_all
      rw [h3] at h
      have := of_decide_eq_false h.symm
      omega
  have n1 := tag_ne (T := T) hs (show l + 1 < 16 by omega) et
  have n2 := tag_ne (T := T) hj (show l + 1 < 16 by omega) ef
  unfold s_X0_laneBeyond
  rw [xAt_nI (f := F) hs (by decide), eF, xAt_nI (f := U) hs (by decide), xAt_nI (f := U) hj (by decide), es, ej, bit]
  by_cases q : s_X0_isTagged T (nI s) (nI (l + 1)) = 0
  · have b0 := n1.mp q
    rw [if_pos q, if_neg (show ¬ (ts.testBit (l + 1) = true ∧ tj.testBit (l + 1) = true) from fun z => by rw [b0] at z; exact absurd z.1 (by decide))]
    by_cases q2 : us = l + 1
    · rw [if_pos (show nI us = nI (l + 1) from by rw [q2])]
      by_cases q3 : uj = 0
      · rw [if_pos (show nI uj = 0 from by rw [q3]; rfl), if_pos (show (-1 : Int32) = -1 from rfl), if_neg (show ¬ (decide (uj ≠ 0) = true ∧ us = l + 1) from fun z => by have := of_decide_eq_true z.1; exact this q3)]
        rfl
      · rw [if_neg (show ¬ nI uj = 0 from nI_ne0 (by omega) (by omega)), if_neg (show ¬ nI uj = -1 from nI_m1 (by omega)), if_pos (show decide (uj ≠ 0) = true ∧ us = l + 1 from ⟨decide_eq_true q3, q2⟩)]
        rfl
    · rw [if_neg (show ¬ nI us = nI (l + 1) from fun z => q2 ((nI_eq (by omega) (by omega)).mp z)), if_pos (show (-1 : Int32) = -1 from rfl), if_neg (show ¬ (decide (uj ≠ 0) = true ∧ us = l + 1) from fun z => q2 z.2)]
      rfl
  · have b1 : ts.testBit (l + 1) = true := by
      cases h : ts.testBit (l + 1)
      · exact absurd (n1.mpr h) q
      · rfl
    have nu : ¬ us = l + 1 := fun z => by
      obtain ⟨t, ht, e, -, hb⟩ := hT s hs
      have e2 : t = ts := (nI_eq (by omega) (by omega)).mp (e.symm.trans et)
      have := hb us hus es (by omega)
      rw [e2, z, b1] at this
      cases this
    rw [if_neg q, if_neg (show ¬ (decide (uj ≠ 0) = true ∧ us = l + 1) from fun z => nu z.2)]
    by_cases q2 : s_X0_isTagged T (nI j) (nI (l + 1)) = 0
    · have b2 := n2.mp q2
      rw [if_pos q2, if_pos (show (-1 : Int32) = -1 from rfl), if_neg (show ¬ (ts.testBit (l + 1) = true ∧ tj.testBit (l + 1) = true) from fun z => by rw [b2] at z; exact absurd z.2 (by decide))]
      rfl
    · have b2 : tj.testBit (l + 1) = true := by
        cases h : tj.testBit (l + 1)
        · exact absurd (n2.mpr h) q2
        · rfl
      rw [if_neg q2, if_neg (show ¬ nI (l + 1) = -1 from nI_m1 (by omega)), if_pos (show ts.testBit (l + 1) = true ∧ tj.testBit (l + 1) = true from ⟨b1, b2⟩)]
      rfl
end LO
