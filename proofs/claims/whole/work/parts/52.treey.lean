/-! the reference's roots and sums settle at the same -/
def eT (F : Nat → Int32) (s : Nat) : Bool := decide (¬ F s = -1)
def tT (F : Nat → Int32) (s : Nat) : Nat := (F s).toNatClampNeg / 6
def gT (F : Nat → Int32) (E : Nat → Bool) (w : Nat → Nat) (t : Nat) (d : Nat → Nat) : Nat → Nat := if F t = -1 then d else rx E sr6 (tT F) w (F t).toNatClampNeg d
theorem rem36 {k : Nat} (h : k < 216) : nI k - nI k / 36 * 36 = nI (k % 36) := by
  rw [show (36 : Int32) = nI 36 from rfl, pk_rem (by omega) (by decide) (by decide)]
theorem gT_rop {F : Nat → Int32} (hF : WF F) {E : Nat → Bool} {w : Nat → Nat} {t : Nat} (ht : t < 36) : ROp E sr6 (tT F) w (gT F E w t) := by
  rcases hF t ht with h | ⟨j, hj, h, -, -⟩
  · have e : gT F E w t = fun d => d := by funext d; unfold gT; rw [if_pos h]
    rw [e]; exact ROp_id
  · have e : gT F E w t = rx E sr6 (tT F) w j := by
      funext d; unfold gT
      rw [h, if_neg (nI_m1 (show j < 2 ^ 31 by omega)), nI_clamp (by omega)]
    rw [e]; exact ROp_rx (fun s hs _ => sr6_lt hs) hj
theorem gT_cov {F : Nat → Int32} (hF : WF F) {E : Nat → Bool} (hE : ∀ s, s < 36 → E s = true → ¬ F s = -1) {w : Nat → Nat} : ∀ s, s < 36 → E s = true → ∃ t, t < 36 ∧ ∀ d, gT F E w t d (tT F s) ≤ d (sr6 s) + w s := by
  intro s hs he
  rcases hF s hs with h | ⟨j, hj, h, h2, -⟩
  · exact absurd h (hE s hs he)
  · refine ⟨j, hj, fun d => ?_⟩
    unfold gT
    rw [h2, if_neg (nI_m1 (show s < 2 ^ 31 by omega)), nI_clamp (by omega)]
    exact rx_edge he d
theorem gT_settle {F : Nat → Int32} (hF : WF F) {E : Nat → Bool} (hE : ∀ s, s < 36 → E s = true → ¬ F s = -1) {w : Nat → Nat} (d0 : Nat → Nat) {v : Nat} (hv : v < 6) : lp (fun _ d => lp (gT F E w) 36 d) 6 d0 v = bn E sr6 (tT F) w d0 5 v := by
  refine rounds_eq (fun s hs _ => sr6_lt hs) (fun s hs he => ?_) (fun t ht => gT_rop hF ht) (gT_cov hF hE) d0 (by decide) hv
  rcases hF s hs with h | ⟨j, hj, h, -, -⟩
  · exact absurd h (hE s hs he)
  · unfold tT; rw [h, nI_clamp (by omega)]; omega
theorem tT_eq {F : Nat → Int32} {s j : Nat} (hj : j < 36) (h : F s = nI j) : tT F s = j / 6 := by
  unfold tT; rw [h, nI_clamp (by omega)]
theorem eT_1 {F : Nat → Int32} {s j : Nat} (hj : j < 36) (h : F s = nI j) : eT F s = true := by
  unfold eT; rw [h]; exact decide_eq_true (nI_m1 (by omega))
theorem eT_0 {F : Nat → Int32} {s : Nat} (h : F s = -1) : eT F s = false := by
  unfold eT; rw [h]; rfl
theorem eT_ne {F : Nat → Int32} : ∀ s, s < 36 → eT F s = true → ¬ F s = -1 := fun s _ h => by unfold eT at h; exact of_decide_eq_true h
theorem l2_sim {F : Nat → Int32} (hF : WF F) {k : Nat} (hk : k < 216) {S : Nat → Int32} {d : Nat → Nat} (h : SM S d) : SM (s_X1_layTree_L2 F k S) (gT F (eT F) (fun _ => 0) (k % 36) d) := by
  unfold s_X1_layTree_L2 gT
  rw [rem36 hk]
  have ht : k % 36 < 36 := Nat.mod_lt _ (by decide)
  generalize k % 36 = t at ht ⊢
  have a1 := SM_at h (show t / 6 < 6 by omega)
  rw [xAt_nI ht (by decide), nI_d6 ht, a1]
  rcases hF t ht with h1 | ⟨j, hj, h1, h2, -⟩
  · rw [if_pos h1, if_pos h1]
    exact SM_self h (by omega)
  · have a2 := SM_at h (show j / 6 < 6 by omega)
    have b1 := (h (j / 6) (by omega)).2
    have b2 := (h (t / 6) (by omega)).2
    rw [h1, if_neg (nI_m1 (show j < 2 ^ 31 by omega)), if_neg (nI_m1 (show j < 2 ^ 31 by omega)), nI_d6 hj, a2, nI_clamp (by omega)]
    unfold rx
    rw [tT_eq ht h2, eT_1 ht h2]
    by_cases q : d (t / 6) ≤ d (j / 6)
    · rw [if_pos ((nI_leI (by omega) (by omega)).mpr q), if_neg (by show ¬ (_ ∧ d (j / 6) + 0 < _); omega)]
      exact SM_self h (by omega)
    · rw [if_neg (fun z => q ((nI_leI (by omega) (by omega)).mp z)), if_pos ⟨rfl, by show d (j / 6) + 0 < _; omega⟩]
      exact SM_put h (by omega) b1
theorem l4_sim {F C : Nat → Int32} (hF : WF F) {w : Nat → Nat} (hW : ∀ t j, t < 36 → j < 36 → F t = nI j → C t = nI (w j) ∧ w j ≤ 20) {k : Nat} (hk : k < 216) {S : Nat → Int32} {d : Nat → Nat} (h : SM S d) : SM (s_X1_layTree_L4 F C k S) (gT F (eT F) w (k % 36) d) := by
  unfold s_X1_layTree_L4 gT
  rw [rem36 hk]
  have ht : k % 36 < 36 := Nat.mod_lt _ (by decide)
  generalize k % 36 = t at ht ⊢
  have a1 := SM_at h (show t / 6 < 6 by omega)
  have b2 := (h (t / 6) (by omega)).2
  rw [xAt_nI ht (by decide), xAt_nI ht (by decide), nI_d6 ht, a1]
  rcases hF t ht with h1 | ⟨j, hj, h1, h2, -⟩
  · rw [if_pos h1, if_pos h1, if_pos (show nI (d (t / 6)) ≤ 1000000 from (nI_leI (b := 1000000) (by omega) (by decide)).mpr b2)]
    exact SM_self h (by omega)
  · have a2 := SM_at h (show j / 6 < 6 by omega)
    have b1 := (h (j / 6) (by omega)).2
    obtain ⟨c1, c2⟩ := hW t j ht hj h1
    rw [h1, if_neg (nI_m1 (show j < 2 ^ 31 by omega)), if_neg (nI_m1 (show j < 2 ^ 31 by omega)), nI_d6 hj, a2, c1, nI_add, nI_clamp (by omega)]
    unfold rx
    rw [tT_eq ht h2, eT_1 ht h2]
    by_cases q : d (t / 6) ≤ w j + d (j / 6)
    · rw [if_pos ((nI_leI (by omega) (by omega)).mpr q), if_neg (by show ¬ (_ ∧ d (j / 6) + w j < _); omega)]
      exact SM_self h (by omega)
    · rw [if_neg (fun z => q ((nI_leI (by omega) (by omega)).mp z)), if_pos ⟨rfl, by show d (j / 6) + w j < _; omega⟩, Nat.add_comm (w j)]
      exact SM_put h (by omega) (by show d (j / 6) + w j ≤ _; omega)
/-- laying six cells -/
theorem lay6 {f : Nat → (Nat → Int32) → Nat → Int32} {x : Nat → Nat} (hf : ∀ i, i < 6 → ∀ S, f i S = xPut 6 S (nI i) (nI (x i))) (hx : ∀ i, i < 6 → x i ≤ 1000000) (S : Nat → Int32) : SM (lp f 6 S) x := by
  have key : ∀ n, n ≤ 6 → ∀ v, v < n → lp f n S v = nI (x v) := by
    intro n
    induction n with
    | zero => intro _ v hv; omega
    | succ n ih =>
      intro hn v hv
      rw [lp_succ, hf n (by omega), xPut_nI (by omega) (by decide)]
      by_cases q : v = n
      · subst q; rw [pk_us]
      · rw [pk_un q]; exact ih (by omega) v (by omega)
  exact fun v hv => ⟨key 6 (Nat.le_refl 6) v hv, hx v hv⟩
def rootN (F : Nat → Int32) : Nat → Nat := bn (eT F) sr6 (tT F) (fun _ => 0) (fun v => v) 5
theorem exT {F : Nat → Int32} (hF : WF F) {WT : Nat → Int32} {w : Nat → Nat} (hw : ∀ s, s < 36 → ¬ F s = -1 → WT s = nI (w s) ∧ w s ≤ 20) : EX F WT (eT F) (tT F) w := by
  intro s hs
  rcases hF s hs with h | ⟨j, hj, h, -, -⟩
  · exact Or.inr ⟨eT_0 h, Or.inl h⟩
  · obtain ⟨h1, h2⟩ := hw s hs (by rw [h]; exact nI_m1 (by omega))
    exact Or.inl ⟨eT_1 hj h, j, hj, h, tT_eq hj h, h1, h2⟩
theorem rootX {F : Nat → Int32} (hF : WF F) (RU WT : Nat → Int32) : SM (s_X0_growTree_RU F RU WT) (rootN F) := by
  unfold s_X0_growTree_RU s_X0_findRoots_RU rootN
  refine least_sim (exT hF (w := fun _ => 0) (fun s hs _ => ⟨?_, by decide⟩)) (lay6 (x := fun v => v) (fun i _ S => rfl) (fun i hi => by show i ≤ _; omega) RU)
  unfold xFill
  rw [if_pos hs]; rfl
theorem rootY {F : Nat → Int32} (hF : WF F) (RO : Nat → Int32) : SM (s_X1_layTree_RO F RO) (rootN F) := by
  refine SM_eq (d := lp (fun k => gT F (eT F) (fun _ => 0) (k % 36)) 216 (fun v => v)) ?_ (fun v hv => ?_)
  · unfold s_X1_layTree_RO
    exact lp_rel SM 216 (fun k hk a b hab => l2_sim hF hk hab) _ _ (lay6 (x := fun v => v) (fun i _ S => rfl) (fun i hi => by show i ≤ _; omega) RO)
  · rw [lp_36 (g := gT F (eT F) (fun _ => 0)) (fun k s _ => rfl)]
    exact gT_settle hF eT_ne _ hv
