/-! RELAXING over 36 edges and 6 nodes: edge s goes from sr s to ds s with weight w s, where E s holds. jn: all edges at once; rx: one edge in place. Five rounds settle, in whatever order -/
def rx (E : Nat → Bool) (sr ds w : Nat → Nat) (s : Nat) (d : Nat → Nat) : Nat → Nat := if E s = true ∧ d (sr s) + w s < d (ds s) then (fun v => if v = ds s then d (sr s) + w s else d v) else d
def jnf (E : Nat → Bool) (sr ds w : Nat → Nat) (d : Nat → Nat) (v : Nat) : Nat → Nat → Nat := fun s a => if E s = true ∧ ds s = v ∧ d (sr s) + w s < a then d (sr s) + w s else a
def jn (E : Nat → Bool) (sr ds w : Nat → Nat) (d : Nat → Nat) (v : Nat) : Nat := lp (jnf E sr ds w d v) 36 (d v)
def bn (E : Nat → Bool) (sr ds w : Nat → Nat) (d0 : Nat → Nat) (k : Nat) : Nat → Nat := lp (fun _ d => jn E sr ds w d) k d0
section BF
variable {E : Nat → Bool} {sr ds w : Nat → Nat}
theorem jnf_le (d : Nat → Nat) (v s a : Nat) : jnf E sr ds w d v s a ≤ a := by
  unfold jnf
  split <;> omega
theorem jn_lp (d : Nat → Nat) (v a : Nat) : ∀ n m, m ≤ n → lp (jnf E sr ds w d v) n a ≤ lp (jnf E sr ds w d v) m a := by
  intro n
  induction n with
  | zero => intro m hm; rw [show m = 0 by omega]; exact Nat.le_refl _
  | succ n ih =>
    intro m hm
    rcases Nat.lt_or_ge n m with h | h
    · rw [show m = n + 1 by omega]; exact Nat.le_refl _
    · rw [lp_succ]; exact Nat.le_trans (jnf_le d v n _) (ih m h)
theorem jn_le (d : Nat → Nat) (v : Nat) : jn E sr ds w d v ≤ d v := jn_lp d v (d v) 36 0 (by decide)
theorem jn_edge (d : Nat → Nat) {s : Nat} (hs : s < 36) (he : E s = true) : jn E sr ds w d (ds s) ≤ d (sr s) + w s := by
  refine Nat.le_trans (jn_lp d _ _ 36 (s + 1) (by omega)) ?_
  rw [lp_succ]
  unfold jnf
  split
  · exact Nat.le_refl _
  · rename_i h
    exact Nat.not_lt.mp fun q => h ⟨he, rfl, q⟩
theorem jn_or (d : Nat → Nat) (v : Nat) : jn E sr ds w d v = d v ∨ ∃ s, s < 36 ∧ E s = true ∧ ds s = v ∧ jn E sr ds w d v = d (sr s) + w s := by
  have key : ∀ n, lp (jnf E sr ds w d v) n (d v) = d v ∨ ∃ s, s < n ∧ E s = true ∧ ds s = v ∧ lp (jnf E sr ds w d v) n (d v) = d (sr s) + w s := by
    intro n
    induction n with
    | zero => exact Or.inl rfl
    | succ n ih =>
      rw [lp_succ]
      by_cases h : E n = true ∧ ds n = v ∧ d (sr n) + w n < lp (jnf E sr ds w d v) n (d v)
      · refine Or.inr ⟨n, by omega, h.1, h.2.1, ?_⟩
        unfold jnf at h ⊢
        rw [if_pos h]
      · have e : jnf E sr ds w d v n (lp (jnf E sr ds w d v) n (d v)) = lp (jnf E sr ds w d v) n (d v) := by
          show (if E n = true ∧ ds n = v ∧ d (sr n) + w n < lp (jnf E sr ds w d v) n (d v) then _ else _) = _
          rw [if_neg h]
        rw [e]
        rcases ih with h1 | ⟨s, h1, h2, h3, h4⟩
        · exact Or.inl h1
        · exact Or.inr ⟨s, by omega, h2, h3, h4⟩
  exact key 36
theorem bn_le (d0 : Nat → Nat) (v : Nat) : ∀ n m, m ≤ n → bn E sr ds w d0 n v ≤ bn E sr ds w d0 m v := by
  intro n
  induction n with
  | zero => intro m hm; rw [show m = 0 by omega]; exact Nat.le_refl _
  | succ n ih =>
    intro m hm
    rcases Nat.lt_or_ge n m with h | h
    · rw [show m = n + 1 by omega]; exact Nat.le_refl _
    · exact Nat.le_trans (jn_le _ v) (ih m h)
theorem bn_chain (hsr : ∀ s, s < 36 → E s = true → sr s < 6) (d0 : Nat → Nat) : ∀ k v, v < 6 → bn E sr ds w d0 (k + 1) v < bn E sr ds w d0 k v → ∃ f : Nat → Nat, f (k + 1) = v ∧ (∀ i, i ≤ k + 1 → f i < 6) ∧ (∀ i, i ≤ k → bn E sr ds w d0 i (f i) ≤ bn E sr ds w d0 (i + 1) (f (i + 1))) ∧ ∀ i, i ≤ k → bn E sr ds w d0 (i + 1) (f (i + 1)) < bn E sr ds w d0 i (f (i + 1)) := by
  intro k
  induction k with
  | zero =>
    intro v hv h
    rcases jn_or (E := E) (sr := sr) (ds := ds) (w := w) (bn E sr ds w d0 0) v with h1 | ⟨s, h1, h2, h3, h4⟩
    · exact absurd h1 (Nat.ne_of_lt h)
    · refine ⟨fun i => if i = 0 then sr s else v, by simp, fun i hi => ?_, fun i hi => ?_, fun i hi => ?_⟩
      · by_cases q : i = 0
        · simp only [if_pos q]; exact hsr s h1 h2
        · simp only [if_neg q]; exact hv
      · have h0 : i = 0 := by omega
        subst h0
        show bn E sr ds w d0 0 (sr s) ≤ jn E sr ds w (bn E sr ds w d0 0) v
        rw [h4]; omega
      · have h0 : i = 0 := by omega
        subst h0
        exact h
  | succ k ih =>
    intro v hv h
    rcases jn_or (E := E) (sr := sr) (ds := ds) (w := w) (bn E sr ds w d0 (k + 1)) v with h1 | ⟨s, h1, h2, h3, h4⟩
    · exact absurd h1 (Nat.ne_of_lt h)
    · have hu : bn E sr ds w d0 (k + 1) (sr s) < bn E sr ds w d0 k (sr s) := by
        rcases Nat.lt_or_ge (bn E sr ds w d0 (k + 1) (sr s)) (bn E sr ds w d0 k (sr s)) with q | q
        · exact q
        · have h5 : bn E sr ds w d0 (k + 1) v ≤ bn E sr ds w d0 k (sr s) + w s := by
            rw [← h3]; exact jn_edge _ h1 h2
          have h6 : bn E sr ds w d0 (k + 1 + 1) v = bn E sr ds w d0 (k + 1) (sr s) + w s := h4
          omega
      obtain ⟨f, g1, g2, g3, g4⟩ := ih (sr s) (hsr s h1 h2) hu
      have e1 : ∀ i, i ≤ k + 1 → (if i = k + 2 then v else f i) = f i := fun i hi => if_neg (by omega)
      refine ⟨fun i => if i = k + 2 then v else f i, by simp, fun i hi => ?_, fun i hi => ?_, fun i hi => ?_⟩
      · by_cases q : i = k + 2
        · simp only [if_pos q]; exact hv
        · simp only [if_neg q]; exact g2 i (by omega)
      · simp only [e1 i hi]
        by_cases q : i = k + 1
        · subst q
          simp only [if_true]
          rw [g1]
          show _ ≤ jn E sr ds w (bn E sr ds w d0 (k + 1)) v
          rw [h4]; omega
        · rw [if_neg (by omega)]
          exact g3 i (by omega)
      · by_cases q : i = k + 1
        · subst q
          simp only [if_true]
          exact h
        · simp only [if_neg (show ¬ i + 1 = k + 2 by omega)]
          exact g4 i (by omega)
theorem bn_closed (hsr : ∀ s, s < 36 → E s = true → sr s < 6) (d0 : Nat → Nat) {v : Nat} (hv : v < 6) : bn E sr ds w d0 6 v = bn E sr ds w d0 5 v := by
  rcases Nat.lt_or_ge (bn E sr ds w d0 6 v) (bn E sr ds w d0 5 v) with h | h
  · obtain ⟨f, -, g2, g3, g4⟩ := bn_chain hsr d0 5 v hv h
    obtain ⟨i, j, hij, hj, he⟩ := fb_twice (m := 6) (n := 7) (f := f) (fun i hi => g2 i (by omega)) (by decide)
    have up : ∀ b, b ≤ 6 → ∀ a, a ≤ b → bn E sr ds w d0 a (f a) ≤ bn E sr ds w d0 b (f b) := by
      intro b
      induction b with
      | zero => intro _ a ha; rw [show a = 0 by omega]; exact Nat.le_refl _
      | succ b ih =>
        intro hb a ha
        rcases Nat.lt_or_ge b a with q | q
        · rw [show a = b + 1 by omega]; exact Nat.le_refl _
        · exact Nat.le_trans (ih (by omega) a q) (g3 b (by omega))
    have h1 := up j (by omega) i (by omega)
    obtain ⟨j, rfl⟩ : ∃ z, j = z + 1 := ⟨j - 1, by omega⟩
    have h2 := g4 j (by omega)
    have h3 := bn_le (E := E) (sr := sr) (ds := ds) (w := w) d0 (f (j + 1)) j i (by omega)
    rw [he] at h1
    omega
  · exact Nat.le_antisymm (bn_le d0 v 6 5 (by decide)) h
/-- a step that only lowers, and never below what is closed -/
def ROp (E : Nat → Bool) (sr ds w : Nat → Nat) (g : (Nat → Nat) → Nat → Nat) : Prop := (∀ d v, g d v ≤ d v) ∧ ∀ P d : Nat → Nat, (∀ s, s < 36 → E s = true → P (ds s) ≤ P (sr s) + w s) → (∀ v, v < 6 → P v ≤ d v) → ∀ v, v < 6 → P v ≤ g d v
theorem ROp_id : ROp E sr ds w (fun d => d) := ⟨fun _ _ => Nat.le_refl _, fun _ _ _ h => h⟩
theorem ROp_rx (hsr : ∀ s, s < 36 → E s = true → sr s < 6) {s : Nat} (hs : s < 36) : ROp E sr ds w (rx E sr ds w s) := by
  refine ⟨fun d v => ?_, fun P d hP hd v hv => ?_⟩
  · unfold rx
    split
    · rename_i h
      show (if v = ds s then _ else _) ≤ _
      split
      · rename_i q; rw [q]; omega
      · exact Nat.le_refl _
    · exact Nat.le_refl _
  · unfold rx
    split
    · rename_i h
      show P v ≤ (if v = ds s then _ else _)
      split
      · rename_i q
        rw [q]
        exact Nat.le_trans (hP s hs h.1) (Nat.add_le_add_right (hd _ (hsr s hs h.1)) _)
      · exact hd v hv
    · exact hd v hv
theorem rx_edge {s : Nat} (he : E s = true) (d : Nat → Nat) : rx E sr ds w s d (ds s) ≤ d (sr s) + w s := by
  unfold rx
  split
  · show (if ds s = ds s then _ else _) ≤ _
    rw [if_pos rfl]; exact Nat.le_refl _
  · rename_i h
    exact Nat.not_lt.mp fun q => h ⟨he, q⟩
theorem ROp_lp {g : Nat → (Nat → Nat) → Nat → Nat} {N : Nat} (hg : ∀ t, t < N → ROp E sr ds w (g t)) (d : Nat → Nat) (v : Nat) : ∀ n, n ≤ N → ∀ m, m ≤ n → lp g n d v ≤ lp g m d v := by
  intro n
  induction n with
  | zero => intro _ m hm; rw [show m = 0 by omega]; exact Nat.le_refl _
  | succ n ih =>
    intro hn m hm
    rcases Nat.lt_or_ge n m with h | h
    · rw [show m = n + 1 by omega]; exact Nat.le_refl _
    · rw [lp_succ]; exact Nat.le_trans ((hg n (by omega)).1 _ v) (ih (by omega) m h)
theorem ROp_ge {g : Nat → (Nat → Nat) → Nat → Nat} {N : Nat} (hg : ∀ t, t < N → ROp E sr ds w (g t)) {P d : Nat → Nat} (hP : ∀ s, s < 36 → E s = true → P (ds s) ≤ P (sr s) + w s) (hd : ∀ v, v < 6 → P v ≤ d v) : ∀ n, n ≤ N → ∀ v, v < 6 → P v ≤ lp g n d v := by
  intro n
  induction n with
  | zero => intro _; exact hd
  | succ n ih => intro hn; rw [lp_succ]; exact (hg n (by omega)).2 P _ hP (ih (by omega))
theorem round_le (hsr : ∀ s, s < 36 → E s = true → sr s < 6) {g : Nat → (Nat → Nat) → Nat → Nat} (hg : ∀ t, t < 36 → ROp E sr ds w (g t)) (hc : ∀ s, s < 36 → E s = true → ∃ t, t < 36 ∧ ∀ d, g t d (ds s) ≤ d (sr s) + w s) (d0 d : Nat → Nat) (k : Nat) (hd : ∀ v, v < 6 → d v ≤ bn E sr ds w d0 k v) : ∀ v, v < 6 → lp g 36 d v ≤ bn E sr ds w d0 (k + 1) v := by
  intro v hv
  rcases jn_or (E := E) (sr := sr) (ds := ds) (w := w) (bn E sr ds w d0 k) v with h1 | ⟨s, h1, h2, h3, h4⟩
  · have h5 : bn E sr ds w d0 (k + 1) v = bn E sr ds w d0 k v := h1
    rw [h5]
    exact Nat.le_trans (ROp_lp hg d v 36 (Nat.le_refl _) 0 (Nat.zero_le _)) (hd v hv)
  · obtain ⟨t, ht, h5⟩ := hc s h1 h2
    have h6 : bn E sr ds w d0 (k + 1) v = bn E sr ds w d0 k (sr s) + w s := h4
    rw [h6]
    have h7 := ROp_lp hg d v 36 (Nat.le_refl _) (t + 1) (by omega)
    have h8 := h5 (lp g t d)
    rw [h3] at h8
    have h9 := ROp_lp hg d (sr s) t (by omega) 0 (Nat.zero_le _)
    have h10 := hd (sr s) (hsr s h1 h2)
    have h12 : lp g (t + 1) d v = g t (lp g t d) v := rfl
    have h11 : lp g 0 d (sr s) = d (sr s) := rfl
    omega
/-- five rounds or more: settled -/
theorem rounds_eq (hsr : ∀ s, s < 36 → E s = true → sr s < 6) (hds : ∀ s, s < 36 → E s = true → ds s < 6) {g : Nat → (Nat → Nat) → Nat → Nat} (hg : ∀ t, t < 36 → ROp E sr ds w (g t)) (hc : ∀ s, s < 36 → E s = true → ∃ t, t < 36 ∧ ∀ d, g t d (ds s) ≤ d (sr s) + w s) (d0 : Nat → Nat) {n : Nat} (hn : 5 ≤ n) {v : Nat} (hv : v < 6) : lp (fun _ d => lp g 36 d) n d0 v = bn E sr ds w d0 5 v := by
  have up : ∀ k, ∀ v, v < 6 → lp (fun _ d => lp g 36 d) k d0 v ≤ bn E sr ds w d0 k v := by
    intro k
    induction k with
    | zero => intro v _; exact Nat.le_refl _
    | succ k ih => intro v hv; rw [lp_succ]; exact round_le hsr hg hc d0 _ k ih v hv
  have hP : ∀ s, s < 36 → E s = true → bn E sr ds w d0 5 (ds s) ≤ bn E sr ds w d0 5 (sr s) + w s := by
    intro s hs he
    rw [← bn_closed hsr d0 (hds s hs he)]
    exact jn_edge _ hs he
  have lo : ∀ k, ∀ v, v < 6 → bn E sr ds w d0 5 v ≤ lp (fun _ d => lp g 36 d) k d0 v := by
    intro k
    induction k with
    | zero => intro v _; exact bn_le d0 v 5 0 (by decide)
    | succ k ih => rw [lp_succ]; exact ROp_ge hg hP ih 36 (Nat.le_refl _)
  have st : ∀ m, bn E sr ds w d0 (5 + m) v ≤ bn E sr ds w d0 5 v := fun m => bn_le d0 v (5 + m) 5 (by omega)
  have h1 := up n v hv
  have h2 := st (n - 5)
  rw [show 5 + (n - 5) = n by omega] at h2
  exact Nat.le_antisymm (Nat.le_trans h1 h2) (lo n v hv)
end BF
