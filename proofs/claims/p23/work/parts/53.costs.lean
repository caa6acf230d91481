/-! costs and ways up -/
def WC (F C C' : Nat → Int32) : Prop := ∀ k, k < 36 → ¬ F k = -1 → ∃ c, 1 ≤ c ∧ c ≤ 20 ∧ C k = nI c ∧ C' k = nI c ∧ ∀ j, j < 36 → F k = nI j → C j = nI c
def wC (C : Nat → Int32) (s : Nat) : Nat := (C s).toNatClampNeg
/-- two starts, alike but for what stands for 'not reached' -/
def IR (k : Nat) (d1 d2 : Nat → Nat) : Prop := ∀ v, v < 6 → (d1 v = d2 v ∧ d1 v ≤ 20 * k) ∨ (d1 v = 1000 ∧ d2 v = 1000000)
theorem IR_jn {E : Nat → Bool} {sr ds w : Nat → Nat} (hsr : ∀ s, s < 36 → E s = true → sr s < 6) (hw : ∀ s, s < 36 → E s = true → w s ≤ 20) {k : Nat} (hk : k ≤ 40) {d1 d2 : Nat → Nat} (h : IR k d1 d2) : IR (k + 1) (jn E sr ds w d1) (jn E sr ds w d2) := by
  intro v hv
  unfold jn
  refine lp_rel (fun a b => (a = b ∧ a ≤ 20 * (k + 1)) ∨ (a = 1000 ∧ b = 1000000)) 36 (fun s hs a b hab => ?_) _ _ ?_
  · unfold jnf
    by_cases he : E s = true
    · by_cases hd : ds s = v
      · have h1 := h (sr s) (hsr s hs he)
        have h2 := hw s hs he
        by_cases q1 : d1 (sr s) + w s < a
        · rw [if_pos ⟨he, hd, q1⟩, if_pos ⟨he, hd, by omega⟩]; omega
        · rw [if_neg (fun z => q1 z.2.2), if_neg (fun z => by have := z.2.2; omega)]; exact hab
      · rw [if_neg (fun z => hd z.2.1), if_neg (fun z => hd z.2.1)]; exact hab
    · rw [if_neg (fun z => he z.1), if_neg (fun z => he z.1)]; exact hab
  · rcases h v hv with h1 | h1
    · exact Or.inl ⟨h1.1, by omega⟩
    · exact Or.inr h1
theorem IR_bn {E : Nat → Bool} {sr ds w : Nat → Nat} (hsr : ∀ s, s < 36 → E s = true → sr s < 6) (hw : ∀ s, s < 36 → E s = true → w s ≤ 20) {d1 d2 : Nat → Nat} (h : IR 0 d1 d2) : ∀ k, k ≤ 40 → IR k (bn E sr ds w d1 k) (bn E sr ds w d2 k) := by
  intro k
  induction k with
  | zero => intro _; exact h
  | succ k ih => intro hk; exact IR_jn hsr hw (by omega) (ih (by omega))
theorem root_le (F : Nat → Int32) (v : Nat) : rootN F v ≤ v := bn_le _ v 5 0 (by decide)
theorem root_edge {F : Nat → Int32} (hF : WF F) {s : Nat} (hs : s < 36) (he : eT F s = true) : rootN F (tT F s) ≤ rootN F (s / 6) := by
  rcases hF s hs with h | ⟨j, hj, h, -, -⟩
  · rw [eT_0 h] at he; cases he
  · have h1 := bn_closed (E := eT F) (sr := sr6) (ds := tT F) (w := fun _ => 0) (fun s hs _ => sr6_lt hs) (fun v => v) (v := tT F s) (by rw [tT_eq hj h]; omega)
    have h2 : bn (eT F) sr6 (tT F) (fun _ => 0) (fun v => v) 6 (tT F s) ≤ bn (eT F) sr6 (tT F) (fun _ => 0) (fun v => v) 5 (sr6 s) + 0 := jn_edge (E := eT F) (sr := sr6) (ds := tT F) (w := fun _ => 0) (bn (eT F) sr6 (tT F) (fun _ => 0) (fun v => v) 5) hs he
    unfold rootN
    rw [← h1]
    exact h2
theorem root_from {F : Nat → Int32} (hF : WF F) : ∀ k v, v < 6 → rootN F v ≤ rootN F (bn (eT F) sr6 (tT F) (fun _ => 0) (fun v => v) k v) := by
  intro k
  induction k with
  | zero => intro v _; exact Nat.le_refl _
  | succ k ih =>
    intro v hv
    rcases jn_or (E := eT F) (sr := sr6) (ds := tT F) (w := fun _ => 0) (bn (eT F) sr6 (tT F) (fun _ => 0) (fun v => v) k) v with h | ⟨s, h1, h2, h3, h4⟩
    · have e : bn (eT F) sr6 (tT F) (fun _ => 0) (fun v => v) (k + 1) v = bn (eT F) sr6 (tT F) (fun _ => 0) (fun v => v) k v := h
      rw [e]; exact ih v hv
    · have e : bn (eT F) sr6 (tT F) (fun _ => 0) (fun v => v) (k + 1) v = bn (eT F) sr6 (tT F) (fun _ => 0) (fun v => v) k (sr6 s) := h4
      rw [e]
      have h5 := root_edge hF h1 h2
      rw [h3] at h5
      exact Nat.le_trans h5 (ih (s / 6) (by omega))
theorem root_root {F : Nat → Int32} (hF : WF F) {v : Nat} (hv : v < 6) : rootN F (rootN F v) = rootN F v :=
  Nat.le_antisymm (root_le F _) (root_from hF 5 v hv)
def c0 (F : Nat → Int32) (inf v : Nat) : Nat := if rootN F v = v then 0 else inf
def costN (F C : Nat → Int32) : Nat → Nat := bn (eT F) sr6 (tT F) (wC C) (c0 F 1000) 5
theorem WC.w {F C C' : Nat → Int32} (h : WC F C C') : ∀ s, s < 36 → eT F s = true → wC C s ≤ 20 := by
  intro s hs he
  obtain ⟨c, h1, h2, h3, -⟩ := h s hs (eT_ne s hs he)
  unfold wC
  rw [h3, nI_clamp (by omega)]; exact h2
theorem cost_fin {F C C' : Nat → Int32} (hC : WC F C C') : ∀ k v, v < 6 → c0 F 1000 (bn (eT F) sr6 (tT F) (fun _ => 0) (fun v => v) k v) = 0 → bn (eT F) sr6 (tT F) (wC C) (c0 F 1000) k v ≤ 20 * k := by
  intro k
  induction k with
  | zero => intro v _ h; exact Nat.le_of_eq h
  | succ k ih =>
    intro v hv h
    rcases jn_or (E := eT F) (sr := sr6) (ds := tT F) (w := fun _ => 0) (bn (eT F) sr6 (tT F) (fun _ => 0) (fun v => v) k) v with h0 | ⟨s, h1, h2, h3, h4⟩
    · have h5 : c0 F 1000 (jn (eT F) sr6 (tT F) (fun _ => 0) (bn (eT F) sr6 (tT F) (fun _ => 0) (fun v => v) k) v) = 0 := h
      rw [h0] at h5
      have h6 := ih v hv h5
      have h7 := bn_le (E := eT F) (sr := sr6) (ds := tT F) (w := wC C) (c0 F 1000) v (k + 1) k (by omega)
      omega
    · have h5 : c0 F 1000 (jn (eT F) sr6 (tT F) (fun _ => 0) (bn (eT F) sr6 (tT F) (fun _ => 0) (fun v => v) k) v) = 0 := h
      rw [h4, Nat.add_zero] at h5
      have h6 := ih (sr6 s) (sr6_lt h1) h5
      have h7 : jn (eT F) sr6 (tT F) (wC C) (bn (eT F) sr6 (tT F) (wC C) (c0 F 1000) k) (tT F s) ≤ _ := jn_edge _ h1 h2
      rw [h3] at h7
      have h8 := hC.w s h1 h2
      have h9 : bn (eT F) sr6 (tT F) (wC C) (c0 F 1000) (k + 1) v = jn (eT F) sr6 (tT F) (wC C) (bn (eT F) sr6 (tT F) (wC C) (c0 F 1000) k) v := rfl
      omega
theorem cost_le {F C C' : Nat → Int32} (hF : WF F) (hC : WC F C C') {v : Nat} (hv : v < 6) : costN F C v ≤ 100 := by
  refine cost_fin hC 5 v hv ?_
  unfold c0
  rw [if_pos (show rootN F (bn (eT F) sr6 (tT F) (fun _ => 0) (fun v => v) 5 v) = bn (eT F) sr6 (tT F) (fun _ => 0) (fun v => v) 5 v from root_root hF hv)]
theorem cost_root {F C : Nat → Int32} {v : Nat} (h : rootN F v = v) : costN F C v = 0 := by
  have h1 : costN F C v ≤ c0 F 1000 v := bn_le (c0 F 1000) v 5 0 (by decide)
  unfold c0 at h1
  rw [if_pos h] at h1
  omega
theorem costX {F C C' : Nat → Int32} (hF : WF F) (hC : WC F C C') (RU RC WT : Nat → Int32) : SM (s_X0_growTree_RC F C RU RC WT) (costN F C) := by
  unfold s_X0_growTree_RC s_X0_findCosts_RC costN
  have hR : SM (s_X0_findRoots_RU F RU WT) (rootN F) := rootX hF RU WT
  refine least_sim (exT hF (w := wC C) (fun s hs he => ?_)) (lay6 (x := c0 F 1000) (fun i hi S => ?_) (fun i hi => ?_) RC)
  · obtain ⟨c, h1, h2, h3, -⟩ := hC s hs he
    unfold wC
    rw [h3, nI_clamp (by omega)]; exact ⟨rfl, h2⟩
  · unfold s_X0_findCosts_L1 c0
    have h1 := root_le F i
    rw [SM_at hR hi]
    by_cases q : rootN F i = i
    · rw [if_pos (by rw [q]), if_pos q]; rfl
    · rw [if_neg (fun z => q ((nI_eq (by omega) (by omega)).mp z)), if_neg q]; rfl
  · unfold c0; split <;> omega
