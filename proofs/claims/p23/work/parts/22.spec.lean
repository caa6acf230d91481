/-! THE WORLDS of the two objects, and the plain functions that their methods compute -/
abbrev TI (cI : ClassId) : List (ClassId × FieldType) := [(cI, .int)]
abbrev wX (cI : ClassId) (ad : Nat → Nat) (U T F C B RU RC WU ST RP : Nat → Int32) (RN : Int32) (WT SM : Nat → Int32) (CC TR : Int32) : va_W := [(ad 0, .inr (0, [.ref (ad 1), .ref (ad 2), .ref (ad 3), .ref (ad 4), .ref (ad 5), .ref (ad 6), .ref (ad 7), .ref (ad 8), .ref (ad 9), .ref (ad 10), .int RN, .ref (ad 11), .ref (ad 12), .int CC, .int TR])), (ad 1, .inl (cI, 36, .inl U)), (ad 2, .inl (cI, 36, .inl T)), (ad 3, .inl (cI, 36, .inl F)), (ad 4, .inl (cI, 36, .inl C)), (ad 5, .inl (cI, 36, .inl B)), (ad 6, .inl (cI, 6, .inl RU)), (ad 7, .inl (cI, 6, .inl RC)), (ad 8, .inl (cI, 6, .inl WU)), (ad 9, .inl (cI, 96, .inl ST)), (ad 10, .inl (cI, 96, .inl RP)), (ad 11, .inl (cI, 36, .inl WT)), (ad 12, .inl (cI, 6, .inl SM))]
/-- n times f, with the index -/
def lp {α : Type} (f : Nat → α → α) : Nat → α → α
  | 0, s => s
  | n + 1, s => f n (lp f n s)
theorem lp_zero {α : Type} (f : Nat → α → α) (s : α) : lp f 0 s = s := rfl
theorem lp_succ {α : Type} (f : Nat → α → α) (n : Nat) (s : α) : lp f (n + 1) s = f n (lp f n s) := rfl
def xAt (n : Nat) (f : Nat → Int32) (i : Int32) : Int32 := if i < 0 then -1 else if Int32.ofNat n ≤ i then -1 else f i.toNatClampNeg
def xPut (n : Nat) (f : Nat → Int32) (i x : Int32) : Nat → Int32 := if i < 0 then f else if Int32.ofNat n ≤ i then f else upd f i.toNatClampNeg x
def xFill (f : Nat → Int32) (x : Int32) (n : Nat) : Nat → Int32 := fun j => if j < n then x else f j
theorem xFill_0 (f : Nat → Int32) (x : Int32) : xFill f x 0 = f := by funext j; simp [xFill]
theorem xFill_s (f : Nat → Int32) (x : Int32) (n : Nat) : upd (xFill f x n) n x = xFill f x (n + 1) := by
  funext j
  by_cases h : j = n
  · subst h; simp [upd, xFill]
  · simp only [upd, if_neg h, xFill]
    by_cases h2 : j < n
    · rw [if_pos h2, if_pos (by omega)]
    · rw [if_neg h2, if_neg (by omega)]
theorem vp_in_ofNat {i : Int32} {n : Nat} (hn : n < 2 ^ 31) (h0 : ¬ i < 0) (h1 : ¬ Int32.ofNat n ≤ i) : vp_in i n := by
  rcases pk_ix i hn with h | h | ⟨j, h2, h3⟩
  · exact absurd h h0
  · exact absurd h h1
  · rw [h3]; exact vp_in_nI h2 (by omega)

