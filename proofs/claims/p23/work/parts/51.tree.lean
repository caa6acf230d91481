/-! THE TREE: roots, costs and ways up of the two classes are the same -/
theorem lp_rel {α β : Type} (R : α → β → Prop) {f : Nat → α → α} {g : Nat → β → β} : ∀ n, (∀ i, i < n → ∀ a b, R a b → R (f i a) (g i b)) → ∀ a b, R a b → R (lp f n a) (lp g n b) := by
  intro n
  induction n with
  | zero => intro _ a b h; exact h
  | succ n ih => intro hs a b h; exact hs n (by omega) _ _ (ih (fun i hi => hs i (by omega)) a b h)
theorem lp_inv {α : Type} (R : α → Prop) {f : Nat → α → α} : ∀ n, (∀ i, i < n → ∀ a, R a → R (f i a)) → ∀ a, R a → R (lp f n a) := by
  intro n
  induction n with
  | zero => intro _ a h; exact h
  | succ n ih => intro hs a h; exact hs n (by omega) _ (ih (fun i hi => hs i (by omega)) a h)
theorem lp_36 {α : Type} {f g : Nat → α → α} (hf : ∀ k s, k < 216 → f k s = g (k % 36) s) (s : α) : lp f 216 s = lp (fun _ s => lp g 36 s) 6 s := by
  have h1 : ∀ n, n < 6 → ∀ m, m ≤ 36 → lp f (36 * n + m) s = lp g m (lp f (36 * n) s) := by
    intro n hn m
    induction m with
    | zero => intro _; rfl
    | succ m ih =>
      intro hm
      show f (36 * n + m) (lp f (36 * n + m) s) = g m (lp g m (lp f (36 * n) s))
      rw [ih (by omega), hf _ _ (by omega), show (36 * n + m) % 36 = m by omega]
  have h2 : ∀ n, n ≤ 6 → lp f (36 * n) s = lp (fun _ s => lp g 36 s) n s := by
    intro n
    induction n with
    | zero => intro _; rfl
    | succ n ih =>
      intro hn
      show lp f (36 * n + 36) s = lp g 36 (lp (fun _ s => lp g 36 s) n s)
      rw [h1 n (by omega) 36 (by decide), ih (by omega)]
  exact h2 6 (by decide)
/-- cables: no cable, or one to a port of another switch, whose far end is this one -/
def WF (F : Nat → Int32) : Prop := ∀ k, k < 36 → F k = -1 ∨ ∃ j, j < 36 ∧ F k = nI j ∧ F j = nI k ∧ j / 6 ≠ k / 6
theorem WF.FR {F : Nat → Int32} (h : WF F) : FR F := by
  intro i hi
  obtain ⟨k, hk, rfl⟩ := vp_in_of hi (by decide)
  rw [xAt_nI hk (by decide)]
  rcases h k hk with h | ⟨j, hj, h, -⟩
  · exact Or.inl h
  · rw [h]; exact Or.inr (vp_in_nI hj (by decide))
/-- six cells hold d -/
def SM (S : Nat → Int32) (d : Nat → Nat) : Prop := ∀ v, v < 6 → S v = nI (d v) ∧ d v ≤ 1000000
theorem SM_self {S : Nat → Int32} {d : Nat → Nat} (h : SM S d) {v : Nat} (hv : v < 6) : SM (xPut 6 S (nI v) (nI (d v))) d := by
  intro u hu
  rw [xPut_nI hv (by decide)]
  by_cases q : u = v
  · subst q; rw [pk_us]; exact ⟨rfl, (h u hu).2⟩
  · rw [pk_un q]; exact h u hu
theorem SM_put {S : Nat → Int32} {d : Nat → Nat} (h : SM S d) {v x : Nat} (hv : v < 6) (hx : x ≤ 1000000) : SM (xPut 6 S (nI v) (nI x)) (fun u => if u = v then x else d u) := by
  intro u hu
  rw [xPut_nI hv (by decide)]
  by_cases q : u = v
  · subst q; simp only [if_true]; rw [pk_us]; exact ⟨rfl, hx⟩
  · simp only [if_neg q]; rw [pk_un q]; exact h u hu
theorem SM_at {S : Nat → Int32} {d : Nat → Nat} (h : SM S d) {v : Nat} (hv : v < 6) : xAt 6 S (nI v) = nI (d v) := by
  rw [xAt_nI hv (by decide)]; exact (h v hv).1
theorem nI_d6 {j : Nat} (h : j < 36) : nI j / 6 = nI (j / 6) := by
  rw [show (6 : Int32) = nI 6 from rfl, pk_div (by omega) (by decide) (by decide)]
/-- what the edges of the class's relaxing are -/
def EX (F WT : Nat → Int32) (E : Nat → Bool) (ds w : Nat → Nat) : Prop := ∀ s, s < 36 → (E s = true ∧ ∃ j, j < 36 ∧ F s = nI j ∧ ds s = j / 6 ∧ WT s = nI (w s) ∧ w s ≤ 20) ∨ (E s = false ∧ (F s = -1 ∨ WT s = -1))
def sr6 (s : Nat) : Nat := s / 6
theorem sr6_lt {s : Nat} (h : s < 36) : sr6 s < 6 := by unfold sr6; omega
theorem low_sim {F WT : Nat → Int32} {E : Nat → Bool} {ds w : Nat → Nat} (hE : EX F WT E ds w) {s : Nat} (hs : s < 36) {S : Nat → Int32} {d : Nat → Nat} (h : SM S d) : SM (s_X0_lowerSum F S WT (nI s)) (rx E sr6 ds w s d) := by
  unfold s_X0_lowerSum rx
  rw [xAt_nI hs (by decide), xAt_nI hs (by decide), nI_d6 hs]
  rcases hE s hs with ⟨he, j, hj, h1, h2, h3, h4⟩ | ⟨he, h1 | h1⟩
  · have a1 := SM_at h (show j / 6 < 6 by omega)
    have a2 := SM_at h (show s / 6 < 6 by omega)
    have b1 := (h (j / 6) (by omega)).2
    have b2 := (h (s / 6) (by omega)).2
    rw [h1, h3, if_neg (nI_m1 (show j < 2 ^ 31 by omega)), if_neg (nI_m1 (show w s < 2 ^ 31 by omega)), nI_d6 hj, a1, a2, nI_add, he, h2]
    by_cases q : d (j / 6) ≤ d (s / 6) + w s
    · rw [if_pos ((nI_leI (by omega) (by omega)).mpr q), if_neg (by show ¬ (_ ∧ d (s / 6) + w s < _); omega)]
      exact h
    · rw [if_neg (fun z => q ((nI_leI (by omega) (by omega)).mp z)), if_pos ⟨rfl, by show d (s / 6) + w s < _; omega⟩]
      exact SM_put h (by omega) (by show d (s / 6) + w s ≤ _; omega)
  · rw [if_pos h1, if_neg (by rw [he]; simp)]
    exact h
  · rw [h1, if_neg (show ¬ (E s = true ∧ _) by rw [he]; simp)]
    split
    · exact h
    · rw [if_pos rfl]; exact h
theorem EX.sr {F WT : Nat → Int32} {E : Nat → Bool} {ds w : Nat → Nat} (_ : EX F WT E ds w) : ∀ s, s < 36 → E s = true → sr6 s < 6 := fun _ hs _ => sr6_lt hs
theorem EX.ds {F WT : Nat → Int32} {E : Nat → Bool} {ds w : Nat → Nat} (h : EX F WT E ds w) : ∀ s, s < 36 → E s = true → ds s < 6 := by
  intro s hs he
  rcases h s hs with ⟨-, j, hj, -, e, -⟩ | ⟨e, -⟩
  · rw [e]; omega
  · rw [he] at e; cases e
theorem SM_eq {S : Nat → Int32} {d d' : Nat → Nat} (h : SM S d) (e : ∀ v, v < 6 → d v = d' v) : SM S d' := fun v hv => by rw [← e v hv]; exact h v hv
/-- the class's leastSums settles -/
theorem least_sim {F WT : Nat → Int32} {E : Nat → Bool} {ds w : Nat → Nat} (hE : EX F WT E ds w) {S : Nat → Int32} {d : Nat → Nat} (h : SM S d) : SM (s_X0_leastSums F S WT) (bn E sr6 ds w d 5) := by
  refine SM_eq (d := lp (fun _ d => lp (fun s => rx E sr6 ds w s) 36 d) 5 d) ?_ (fun v hv => rounds_eq hE.sr hE.ds (fun t ht => ROp_rx hE.sr ht) (fun s hs he => ⟨s, hs, fun d => rx_edge he d⟩) d (Nat.le_refl 5) hv)
  unfold s_X0_leastSums
  refine lp_rel SM 5 (fun i _ a b hab => ?_) S d h
  unfold s_X0_leastSums_L1
  refine lp_rel SM 36 (fun s hs a b hab => ?_) a b hab
  exact low_sim hE hs hab
