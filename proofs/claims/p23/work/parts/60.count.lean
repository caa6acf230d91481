/-! how many bits: the library's count and the reference's -/
def sb (t : Nat) : Nat → Nat
  | 0 => 0
  | n + 1 => sb t n + t / 2 ^ n % 2
def b1 (x : Nat) : Nat := Nat.sub x (Nat.land (Nat.shiftRight x 1) 1431655765)
def b2 (x : Nat) : Nat := Nat.add (Nat.land x 858993459) (Nat.land (Nat.shiftRight x 2) 858993459)
def b3 (x : Nat) : Nat := Nat.land (Nat.add x (Nat.shiftRight x 4)) 252645135
def b4 (x : Nat) : Nat := Nat.add x (Nat.shiftRight x 8)
def b5 (x : Nat) : Nat := Nat.add x (Nat.shiftRight x 16)
theorem land8 (x y : Nat) : Nat.land x y = 256 * Nat.land (x / 256) (y / 256) + Nat.land (x % 256) (y % 256) := by
  have h := Nat.div_add_mod (Nat.land x y) (2 ^ 8)
  have h1 : Nat.land x y / 2 ^ 8 = Nat.land (x / 2 ^ 8) (y / 2 ^ 8) := Nat.and_div_two_pow
  have h2 : Nat.land x y % 2 ^ 8 = Nat.land (x % 2 ^ 8) (y % 2 ^ 8) := Nat.and_mod_two_pow
  rw [h1, h2] at h
  exact h.symm
theorem by1 : ∀ l, l < 256 → ∀ r, r < 2 → Nat.land (128 * r + l / 2) 85 = Nat.land (l / 2) 85 ∧ Nat.land (l / 2) 85 ≤ l := by decide +kernel
theorem by2 : ∀ l, l < 256 → ∀ r, r < 4 → Nat.land (64 * r + l / 4) 51 = Nat.land (l / 4) 51 := by decide +kernel
def nb (l : Nat) : Nat := Nat.land (l - Nat.land (l / 2) 85) 51 + Nat.land ((l - Nat.land (l / 2) 85) / 4) 51
theorem by3 : ∀ l, l < 256 → nb l % 16 ≤ 4 ∧ nb l / 16 ≤ 4 ∧ nb l % 16 + nb l / 16 = sb l 8 := by decide +kernel
theorem by4 : ∀ h, h < 256 → Nat.land (h / 2) 5592405 = Nat.land (h / 2) 85 ∧ (h - Nat.land (h / 2) 85) < 256 ∧ Nat.land (h - Nat.land (h / 2) 85) 3355443 = Nat.land (h - Nat.land (h / 2) 85) 51 ∧ Nat.land ((h - Nat.land (h / 2) 85) / 4) 3355443 = Nat.land ((h - Nat.land (h / 2) 85) / 4) 51 := by decide +kernel
theorem b12 {h l : Nat} (hh : h < 256) (hl : l < 256) : Nat.land (Nat.shiftRight (256 * h + l) 1) 1431655765 ≤ 256 * h + l ∧ b1 (256 * h + l) < 65536 ∧ b2 (b1 (256 * h + l)) = 256 * nb h + nb l := by
  have s1 : ∀ x, Nat.shiftRight x 1 = x / 2 := fun x => Nat.shiftRight_eq_div_pow x 1
  have s2 : ∀ x, Nat.shiftRight x 2 = x / 4 := fun x => Nat.shiftRight_eq_div_pow x 2
  obtain ⟨f1, f2, f3, f4⟩ := by4 h hh
  obtain ⟨g1, g2, -, -⟩ := by4 l hl
  obtain ⟨a1, a2⟩ := by1 l hl (h % 2) (Nat.mod_lt _ (by decide))
  obtain ⟨-, a3⟩ := by1 h hh 0 (by decide)
  have e1 : Nat.land (Nat.shiftRight (256 * h + l) 1) 1431655765 = 256 * Nat.land (h / 2) 85 + Nat.land (l / 2) 85 := by
    rw [s1, land8, show (256 * h + l) / 2 / 256 = h / 2 by omega, show (256 * h + l) / 2 % 256 = 128 * (h % 2) + l / 2 by omega, show 1431655765 / 256 = 5592405 from rfl, show 1431655765 % 256 = 85 from rfl, f1, a1]
  have e2 : b1 (256 * h + l) = 256 * (h - Nat.land (h / 2) 85) + (l - Nat.land (l / 2) 85) := by
    show (256 * h + l) - Nat.land (Nat.shiftRight (256 * h + l) 1) 1431655765 = _
    rw [e1]; omega
  refine ⟨by rw [e1]; omega, by rw [e2]; omega, ?_⟩
  rw [e2]
  unfold nb
  generalize h - Nat.land (h / 2) 85 = h1 at f2 f3 f4 ⊢
  generalize l - Nat.land (l / 2) 85 = l1 at g2 ⊢
  have a4 := by2 l1 g2 (h1 % 4) (Nat.mod_lt _ (by decide))
  show Nat.land (256 * h1 + l1) 858993459 + Nat.land (Nat.shiftRight (256 * h1 + l1) 2) 858993459 = _
  rw [s2, land8 (256 * h1 + l1), land8 ((256 * h1 + l1) / 4), show (256 * h1 + l1) / 256 = h1 by omega, show (256 * h1 + l1) % 256 = l1 by omega, show (256 * h1 + l1) / 4 / 256 = h1 / 4 by omega, show (256 * h1 + l1) / 4 % 256 = 64 * (h1 % 4) + l1 / 4 by omega, show 858993459 / 256 = 3355443 from rfl, show 858993459 % 256 = 51 from rfl, f3, f4, a4]
  omega
theorem b345 : ∀ a, a < 5 → ∀ b, b < 5 → ∀ c, c < 5 → ∀ d, d < 5 → b3 (256 * (16 * a + b) + (16 * c + d)) < 65536 ∧ b4 (b3 (256 * (16 * a + b) + (16 * c + d))) < 65536 ∧ Nat.land (b5 (b4 (b3 (256 * (16 * a + b) + (16 * c + d))))) 63 = a + b + (c + d) := by decide +kernel
theorem sb_split (x : Nat) : ∀ n, n ≤ 8 → sb (x / 256) n + sb (x % 256) 8 = sb x (8 + n) := by
  intro n
  induction n with
  | zero =>
    intro _
    have key : ∀ m, m ≤ 8 → sb (x % 256) m = sb x m := by
      intro m
      induction m with
      | zero => intro _; rfl
      | succ m ih =>
        intro hm
        show sb (x % 256) m + x % 256 / 2 ^ m % 2 = sb x m + x / 2 ^ m % 2
        rw [ih (by omega)]
        have : m = 0 ∨ m = 1 ∨ m = 2 ∨ m = 3 ∨ m = 4 ∨ m = 5 ∨ m = 6 ∨ m = 7 := by omega
        rcases this with h | h | h | h | h | h | h | h <;> subst h <;> simp only [Nat.reducePow] <;> omega
    show 0 + sb (x % 256) 8 = sb x 8
    rw [key 8 (Nat.le_refl 8), Nat.zero_add]
  | succ n ih =>
    intro hn
    have ih := ih (by omega)
    show sb (x / 256) n + x / 256 / 2 ^ n % 2 + sb (x % 256) 8 = sb x (8 + n) + x / 2 ^ (8 + n) % 2
    rw [Nat.div_div_eq_div_mul, show 256 * 2 ^ n = 2 ^ (8 + n) by rw [Nat.pow_add]]
    omega
theorem sub_nI {a b : Nat} (h : b ≤ a) : nI a - nI b = nI (a - b) := by
  have e : nI (a - b) + nI b = nI a := by rw [nI_add]; congr 1; omega
  rw [← e, Int32.add_sub_cancel]
