/-! ways up -/
theorem lay6v {f : Nat → (Nat → Int32) → Nat → Int32} {y : Nat → Int32} (hf : ∀ i, i < 6 → ∀ S, f i S i = y i ∧ ∀ v, v < 6 → v ≠ i → f i S v = S v) (S : Nat → Int32) {v : Nat} (hv : v < 6) : lp f 6 S v = y v := by
  have key : ∀ n, n ≤ 6 → ∀ v, v < n → lp f n S v = y v := by
    intro n
    induction n with
    | zero => intro _ v hv; omega
    | succ n ih =>
      intro hn v hv
      rw [lp_succ]
      by_cases q : v = n
      · subst q; exact (hf v (by omega) _).1
      · rw [(hf n (by omega) _).2 v (by omega) q]; exact ih (by omega) v (by omega)
  exact key 6 (Nat.le_refl 6) v hv
theorem slotX {u i : Nat} : nI u * 6 + nI i = nI (i + 6 * u) := by
  rw [show (6 : Int32) = nI 6 from rfl, pk_mul, nI_add, Nat.mul_comm, Nat.add_comm]
/-- both searches, port by port -/
def WW (F : Nat → Int32) (u : Nat) (W0 : Nat → Int32) (z : Int32 × Int32) (W : Nat → Int32) : Prop := (∀ v, v < 6 → v ≠ u → W v = W0 v) ∧ ((z = (-1, 6) ∧ W u = -1) ∨ ∃ s j, s < 36 ∧ s / 6 = u ∧ j < 36 ∧ F s = nI j ∧ z = (nI s, nI (j / 6)) ∧ W u = nI s)
theorem WW_self {F W0 W : Nat → Int32} {u : Nat} {z : Int32 × Int32} (hu : u < 6) (h : WW F u W0 z W) : WW F u W0 z (xPut 6 W (nI u) (W u)) := by
  rw [xPut_nI hu (by decide)]
  have e : upd W u (W u) = W := by
    funext v
    by_cases q : v = u
    · subst q; rw [pk_us]
    · rw [pk_un q]
  rw [e]; exact h
theorem WW_put {F W0 W : Nat → Int32} {u s j : Nat} {z : Int32 × Int32} (hu : u < 6) (h : WW F u W0 z W) (hs : s < 36) (hsu : s / 6 = u) (hj : j < 36) (e : F s = nI j) : WW F u W0 (nI s, nI (j / 6)) (xPut 6 W (nI u) (nI s)) := by
  rw [xPut_nI hu (by decide)]
  exact ⟨fun v hv hn => by rw [pk_un hn]; exact h.1 v hv hn, Or.inr ⟨s, j, hs, hsu, hj, e, rfl, pk_us⟩⟩
theorem way_root {F C C' RCx : Nat → Int32} {k : Nat → Nat} (hF : WF F) (hC : WC F C C') (hX : SM RCx k) (hk : ∀ v, v < 6 → k v ≤ 100) {u : Nat} (hu : u < 6) (h0 : k u = 0) : s_X0_bestWayUp F C RCx (nI u) = -1 := by
  unfold s_X0_bestWayUp
  have h := lp_inv (fun z => z = ((-1 : Int32), (6 : Int32))) (f := s_X0_bestWayUp_L1 F C RCx (nI u)) 6 (fun i hi a ha => ?_) _ rfl
  · rw [h]
  · subst ha
    unfold s_X0_bestWayUp_L1
    have hs : i + 6 * u < 36 := by omega
    simp only [slotX]
    generalize i + 6 * u = s at hs ⊢
    rw [xAt_nI hs (by decide), xAt_nI hs (by decide), SM_at hX hu]
    rcases hF s hs with h1 | ⟨j, hj, h1, -, -⟩
    · rw [if_pos h1]
    · obtain ⟨c, c1, c2, c3, c4, -⟩ := hC s hs (by rw [h1]; exact nI_m1 (by omega))
      have b1 := hk (j / 6) (by omega)
      rw [h1, if_neg (nI_m1 (show j < 2 ^ 31 by omega)), nI_d6 hj, SM_at hX (show j / 6 < 6 by omega), c3, nI_add, h0, if_neg]
      intro q
      have := (nI_eq (by omega) (by omega)).mp q
      omega
/-- the way up of switch u: none, or a slot of its own with a cable -/
def WS (F : Nat → Int32) (u : Nat) (x : Int32) : Prop := x = -1 ∨ ∃ s, s < 36 ∧ s / 6 = u ∧ x = nI s ∧ ¬ F s = -1
