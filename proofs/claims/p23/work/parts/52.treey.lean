/-! the reference's roots and sums settle at the same -/
def eT (F : Nat → Int32) (s : Nat) : Bool := decide (¬ F s = -1)
def tT (F : Nat → Int32) (s : Nat) : Nat := (F s).toNatClampNeg / 6
def gT (F : Nat → Int32) (E : Nat → Bool) (w : Nat → Nat) (t : Nat) (d : Nat → Nat) : Nat → Nat := if F t = -1 then d else rx E sr6 (tT F) w (F t).toNatClampNeg d
theorem rem36 {k : Nat} (h : k < 216) : nI k - nI k / 36 * 36 = nI (k % 36) := by
  rw [show (36 : Int32) = nI 36 from rfl, pk_rem (by omega) (by decide) (by decide)]
theorem gT_rop {F : Nat → Int32} (hF : WF F) {E : Nat → Bool} {w : Nat → Nat} {t : Nat} (ht : t < 36) : ROp E sr6 (tT F) w (gT F E w t) := by
  rcases hF t ht with h | ⟨j, hj, h, -, -⟩
  · have e : gT F E w t = fun d => d := by funext d; unfold gT; rw [if_pos h]
    rw [e]; exact ROp_id
  · have e : gT F E w t = rx E sr6 (tT F) w j := by
      funext d; unfold gT
      rw [h, if_neg (nI_m1 (show j < 2 ^ 31 by omega)), nI_clamp (by omega)]
    rw [e]; exact ROp_rx (fun s hs _ => sr6_lt hs) hj
theorem gT_cov {F : Nat → Int32} (hF : WF F) {E : Nat → Bool} (hE : ∀ s, s < 36 → E s = true → ¬ F s = -1) {w : Nat → Nat} : ∀ s, s < 36 → E s = true → ∃ t, t < 36 ∧ ∀ d, gT F E w t d (tT F s) ≤ d (sr6 s) + w s := by
  intro s hs he
  rcases hF s hs with h | ⟨j, hj, h, h2, -⟩
  · exact absurd h (hE s hs he)
  · refine ⟨j, hj, fun d => ?_⟩
    unfold gT
    rw [h2, if_neg (nI_m1 (show s < 2 ^ 31 by omega)), nI_clamp (by omega)]
    exact rx_edge he d
theorem gT_settle {F : Nat → Int32} (hF : WF F) {E : Nat → Bool} (hE : ∀ s, s < 36 → E s = true → ¬ F s = -1) {w : Nat → Nat} (d0 : Nat → Nat) {v : Nat} (hv : v < 6) : lp (fun _ d => lp (gT F E w) 36 d) 6 d0 v = bn E sr6 (tT F) w d0 5 v := by
  refine rounds_eq (fun s hs _ => sr6_lt hs) (fun s hs he => ?_) (fun t ht => gT_rop hF ht) (gT_cov hF hE) d0 (by decide) hv
  rcases hF s hs with h | ⟨j, hj, h, -, -⟩
  · exact absurd h (hE s hs he)
  · unfold tT; rw [h, nI_clamp (by omega)]; omega
theorem tT_eq {F : Nat → Int32} {s j : Nat} (hj : j < 36) (h : F s = nI j) : tT F s = j / 6 := by
  unfold tT; rw [h, nI_clamp (by omega)]
theorem eT_1 {F : Nat → Int32} {s j : Nat} (hj : j < 36) (h : F s = nI j) : eT F s = true := by
  unfold eT; rw [h]; exact decide_eq_true (nI_m1 (by omega))
theorem eT_0 {F : Nat → Int32} {s : Nat} (h : F s = -1) : eT F s = false := by
  unfold eT; rw [h]; rfl
theorem eT_ne {F : Nat → Int32} : ∀ s, s < 36 → eT F s = true → ¬ F s = -1 := fun s _ h => by unfold eT at h; exact of_decide_eq_true h
/-- laying six cells -/
theorem lay6 {f : Nat → (Nat → Int32) → Nat → Int32} {x : Nat → Nat} (hf : ∀ i, i < 6 → ∀ S, f i S = xPut 6 S (nI i) (nI (x i))) (hx : ∀ i, i < 6 → x i ≤ 1000000) (S : Nat → Int32) : SM (lp f 6 S) x := by
  have key : ∀ n, n ≤ 6 → ∀ v, v < n → lp f n S v = nI (x v) := by
    intro n
    induction n with
    | zero => intro _ v hv; omega
    | succ n ih =>
      intro hn v hv
      rw [lp_succ, hf n (by omega), xPut_nI (by omega) (by decide)]
      by_cases q : v = n
      · subst q; rw [pk_us]
      · rw [pk_un q]; exact ih (by omega) v (by omega)
  exact fun v hv => ⟨key 6 (Nat.le_refl 6) v hv, hx v hv⟩
def rootN (F : Nat → Int32) : Nat → Nat := bn (eT F) sr6 (tT F) (fun _ => 0) (fun v => v) 5
theorem exT {F : Nat → Int32} (hF : WF F) {WT : Nat → Int32} {w : Nat → Nat} (hw : ∀ s, s < 36 → ¬ F s = -1 → WT s = nI (w s) ∧ w s ≤ 20) : EX F WT (eT F) (tT F) w := by
  intro s hs
  rcases hF s hs with h | ⟨j, hj, h, -, -⟩
  · exact Or.inr ⟨eT_0 h, Or.inl h⟩
  · obtain ⟨h1, h2⟩ := hw s hs (by rw [h]; exact nI_m1 (by omega))
    exact Or.inl ⟨eT_1 hj h, j, hj, h, tT_eq hj h, h1, h2⟩
theorem rootX {F : Nat → Int32} (hF : WF F) (RU WT : Nat → Int32) : SM (s_X0_growTree_RU F RU WT) (rootN F) := by
  unfold s_X0_growTree_RU s_X0_findRoots_RU rootN
  refine least_sim (exT hF (w := fun _ => 0) (fun s hs _ => ⟨?_, by decide⟩)) (lay6 (x := fun v => v) (fun i _ S => rfl) (fun i hi => by show i ≤ _; omega) RU)
  unfold xFill
  rw [if_pos hs]; rfl
