/-! ways up, what is on, the set of what is on -/
/-- of the ports from lo to below hi for which c holds the first with the least key; 6 if there is none -/
def Bst (c : Nat → Prop) (key : Nat → Nat) (lo hi b : Nat) : Prop := (b = 6 ∧ ∀ p, lo ≤ p → p < hi → ¬ c p) ∨ (lo ≤ b ∧ b < hi ∧ c b ∧ (∀ q, lo ≤ q → q < hi → c q → key b ≤ key q) ∧ ∀ q, lo ≤ q → q < b → c q → key b < key q)
theorem Bst_one {c : Nat → Prop} {key : Nat → Nat} {a b : Nat} (ha : Bst c key 0 6 a) (hb : Bst c key 0 6 b) : a = b := by
  rcases ha with ⟨a1, a2⟩ | ⟨-, a2, a3, a4, a5⟩
  · rcases hb with ⟨b1, -⟩ | ⟨-, b2, b3, -, -⟩
    · rw [a1, b1]
    · exact absurd b3 (a2 b (Nat.zero_le _) b2)
  · rcases hb with ⟨b1, b2⟩ | ⟨-, b2, b3, b4, b5⟩
    · exact absurd a3 (b2 a (Nat.zero_le _) a2)
    · rcases Nat.lt_trichotomy a b with q | q | q
      · have h1 := b5 a (Nat.zero_le _) q a3
        have h2 := a4 b (Nat.zero_le _) b2 b3
        omega
      · exact q
      · have h1 := a5 b (Nat.zero_le _) q b3
        have h2 := b4 a (Nat.zero_le _) a2 a3
        omega
/-- the way up of switch u as the class keeps it -/
def wv (u b : Nat) : Int32 := if b < 6 then nI (6 * u + b) else -1
theorem wv_eq {u b k : Nat} (hb : b ≤ 6) (hk : k < 36) (hu : k / 6 = u) : wv u b = nI k ↔ b = k % 6 := by
  unfold wv
  by_cases q : b < 6
  · rw [if_pos q, nI_eq (by omega) (by omega)]; omega
  · rw [if_neg q]
    exact ⟨fun z => absurd z.symm (nI_m1 (by omega)), fun z => by omega⟩
section WAY
variable {xf xc : Nat → Nat} {F C RC : Nat → Int32}
def cw (xf xc : Nat → Nat) (F C : Nat → Int32) (u p : Nat) : Prop := ¬ xf (6 * u + p) = 0 ∧ xc (6 * u + p) + costN F C ((xf (6 * u + p) - 1) / 6) = costN F C u
def ck (xf : Nat → Nat) (u p : Nat) : Nat := (xf (6 * u + p) - 1) / 6
theorem wayX (hf : ∀ k, xf k ≤ 36) (hc : ∀ k, xc k ≤ 20) (hF : WF F) (hX : FX xf F) (hC : CX xf xc C) (hW : WC F C C) (hR : SM RC (costN F C)) {u : Nat} (hu : u < 6) : ∃ b, b ≤ 6 ∧ Bst (cw xf xc F C u) (ck xf u) 0 6 b ∧ s_X0_bestWayUp F C RC (nI u) = wv u b := by
  have h := lp_invi (fun n z => ∃ b, b ≤ 6 ∧ Bst (cw xf xc F C u) (ck xf u) 0 n b ∧ ((b = 6 ∧ z = ((-1 : Int32), (6 : Int32))) ∨ (b < 6 ∧ z = (nI (b + 6 * u), nI (ck xf u b))))) (f := s_X0_bestWayUp_L1 F C RC (nI u)) 6 (fun n hn z hz => ?_) ((-1), 6) ⟨6, Nat.le_refl 6, Or.inl ⟨rfl, fun p _ hp => absurd hp (Nat.not_lt_zero p)⟩, Or.inl ⟨rfl, rfl⟩⟩
  · obtain ⟨b, h1, h2, h3⟩ := h
    refine ⟨b, h1, h2, ?_⟩
    unfold s_X0_bestWayUp wv
    rcases h3 with ⟨g1, g2⟩ | ⟨g1, g2⟩
    · rw [g2, if_neg (by omega)]
    · rw [g2, if_pos g1, Nat.add_comm]
  · obtain ⟨b, h1, h2, h3⟩ := hz
    obtain ⟨best, bu⟩ := z
    unfold s_X0_bestWayUp_L1
    have hs : n + 6 * u < 36 := by omega
    have en : 6 * u + n = n + 6 * u := Nat.add_comm _ _
    have hfs := hf (6 * u + n)
    simp only [slotX]
    rw [xAt_nI (f := F) hs (by decide), xAt_nI (f := C) hs (by decide), SM_at hR hu, ← en]
    rw [← en] at hs
    have keep : ¬ cw xf xc F C u n → ∃ b, b ≤ 6 ∧ Bst (cw xf xc F C u) (ck xf u) 0 (n + 1) b ∧ ((b = 6 ∧ (best, bu) = ((-1 : Int32), (6 : Int32))) ∨ (b < 6 ∧ (best, bu) = (nI (b + 6 * u), nI (ck xf u b)))) := by
      intro hn2
      refine ⟨b, h1, ?_, h3⟩
      rcases h2 with ⟨g1, g2⟩ | ⟨g1, g2, g3, g4, g5⟩
      · refine Or.inl ⟨g1, fun p hp hp2 => ?_⟩
        by_cases e : p = n
        · rw [e]; exact hn2
        · exact g2 p hp (by omega)
      · refine Or.inr ⟨g1, by omega, g3, fun q hq hq2 hc2 => ?_, g5⟩
        by_cases e : q = n
        · rw [e] at hc2; exact absurd hc2 hn2
        · exact g4 q hq (by omega) hc2
    by_cases q : xf (6 * u + n) = 0
    · rw [if_pos (FX0 hX hs q)]
      exact keep (fun z => z.1 q)
    · rw [FX1 hX hs q, if_neg (nI_m1 (by omega)), nI_d6 (by omega), SM_at hR (by omega), hC _ hs q, nI_add]
      have b1 := cost_le hF hW (v := (xf (6 * u + n) - 1) / 6) (by omega)
      have b2 := cost_le hF hW hu
      have b3 := hc (6 * u + n)
      by_cases q2 : xc (6 * u + n) + costN F C ((xf (6 * u + n) - 1) / 6) = costN F C u
      · have hcw : cw xf xc F C u n := ⟨q, q2⟩
        rw [if_pos (by rw [q2])]
        have upd : (∀ q, q < n → cw xf xc F C u q → ck xf u n < ck xf u q) → ∃ b, b ≤ 6 ∧ Bst (cw xf xc F C u) (ck xf u) 0 (n + 1) b ∧ ((b = 6 ∧ (nI (6 * u + n), nI ((xf (6 * u + n) - 1) / 6)) = ((-1 : Int32), (6 : Int32))) ∨ (b < 6 ∧ (nI (6 * u + n), nI ((xf (6 * u + n) - 1) / 6)) = (nI (b + 6 * u), nI (ck xf u b)))) := by
          intro hlt
          refine ⟨n, by omega, Or.inr ⟨Nat.zero_le _, by omega, hcw, fun q _ hq2 hc2 => ?_, fun q _ hq2 hc2 => hlt q hq2 hc2⟩, Or.inr ⟨hn, ?_⟩⟩
          · by_cases e : q = n
            · rw [e]; exact Nat.le_refl _
            · exact Nat.le_of_lt (hlt q (by omega) hc2)
          · unfold ck; rw [en]
        rcases h3 with ⟨g1, g2⟩ | ⟨g1, g2⟩
        · cases g2
          rw [if_neg (show ¬ (6 : Int32) ≤ nI ((xf (6 * u + n) - 1) / 6) from nI_ge (b := 6) (by omega) (by decide))]
          refine upd (fun q hq hc2 => ?_)
          rcases h2 with ⟨-, k2⟩ | ⟨-, k2, -⟩
          · exact absurd hc2 (k2 q (Nat.zero_le _) hq)
          · omega
        · cases g2
          have hkb : ck xf u b < 6 := by unfold ck; have := hf (6 * u + b); omega
          by_cases q3 : ck xf u b ≤ (xf (6 * u + n) - 1) / 6
          · rw [if_pos (nI_le q3 (by omega))]
            refine ⟨b, h1, ?_, Or.inr ⟨g1, rfl⟩⟩
            rcases h2 with ⟨k1, -⟩ | ⟨k1, k2, k3, k4, k5⟩
            · omega
            · refine Or.inr ⟨k1, by omega, k3, fun q hq hq2 hc2 => ?_, k5⟩
              by_cases e : q = n
              · rw [e]; exact q3
              · exact k4 q hq (by omega) hc2
          · rw [if_neg (nI_ge (by omega) (by omega))]
            refine upd (fun q hq hc2 => ?_)
            rcases h2 with ⟨k1, -⟩ | ⟨-, -, -, k4, -⟩
            · omega
            · have := k4 q (Nat.zero_le _) hq hc2
              show (xf (6 * u + n) - 1) / 6 < _
              omega
      · rw [if_neg (fun z => q2 ((nI_eq (by omega) (by omega)).mp z))]
        exact keep (fun z => q2 z.2)
theorem wayL (hf : ∀ k, xf k ≤ 36) (hc : ∀ k, xc k ≤ 20) (hS : FS xf xc) (hX : FX xf F) (hC : CX xf xc C) {d : Nat → Nat} (hd : ∀ a b, a < 6 → b < 6 → d (6 * a + b) = dst (eT F) (tT F) (wC C) a b) {u : Nat} (hu : u < 6) : Bst (cw xf xc F C u) (ck xf u) 0 6 (s_L_way xf xc d u) := by
  have hF := WF_of hf hS hX
  have hW := WC_of hf hc hS hX hC
  have er := root_eq hF hW hd hu
  have hr := root_le F u
  unfold s_L_way
  rw [er]
  by_cases q0 : rootN F u = u
  · rw [if_pos q0]
    refine Or.inl ⟨rfl, fun p _ hp z => ?_⟩
    have h1 := z.2
    rw [cost_root q0] at h1
    have := (hS (6 * u + p) (by omega) z.1).2.2.1
    omega
  · rw [if_neg q0]
    have key : ∀ n, n ≤ 6 → Bst (cw xf xc F C u) (ck xf u) (6 - n) 6 (lp (s_L_way_L1 xf xc d u) n 6) := by
      intro n
      induction n with
      | zero => intro _; exact Or.inl ⟨rfl, fun p h1 h2 => by omega⟩
      | succ n ih =>
        intro hn
        have ih := ih (by omega)
        rw [lp_succ]
        generalize lp (s_L_way_L1 xf xc d u) n 6 = b at ih ⊢
        have hs : 6 * u + (5 - n) < 36 := by omega
        have h1 := hf (6 * u + (5 - n))
        have keep : ¬ cw xf xc F C u (5 - n) → Bst (cw xf xc F C u) (ck xf u) (6 - (n + 1)) 6 b := by
          intro hn2
          rcases ih with ⟨g1, g2⟩ | ⟨g1, g2, g3, g4, g5⟩
          · refine Or.inl ⟨g1, fun p hp hp2 => ?_⟩
            by_cases e : p = 5 - n
            · rw [e]; exact hn2
            · exact g2 p (by omega) hp2
          · refine Or.inr ⟨by omega, g2, g3, fun q hq hq2 hc2 => ?_, fun q hq hq2 hc2 => ?_⟩
            · by_cases e : q = 5 - n
              · rw [e] at hc2; exact absurd hc2 hn2
              · exact g4 q (by omega) hq2 hc2
            · by_cases e : q = 5 - n
              · rw [e] at hc2; exact absurd hc2 hn2
              · exact g5 q (by omega) hq2 hc2
        have put : cw xf xc F C u (5 - n) → (∀ q, 6 - n ≤ q → q < 6 → cw xf xc F C u q → ck xf u (5 - n) ≤ ck xf u q) → Bst (cw xf xc F C u) (ck xf u) (6 - (n + 1)) 6 (5 - n) := by
          intro hcw hle
          refine Or.inr ⟨by omega, by omega, hcw, fun q hq hq2 hc2 => ?_, fun q hq hq2 _ => by omega⟩
          by_cases e : q = 5 - n
          · rw [e]; exact Nat.le_refl _
          · exact hle q (by omega) hq2 hc2
        unfold s_L_way_L1
        rw [er]
        by_cases q : xf (6 * u + (5 - n)) = 0
        · rw [if_pos q]; exact keep (fun z => z.1 q)
        · rw [if_neg q]
          have e1 : d ((xf (6 * u + (5 - n)) - 1) / 6 * 6 + rootN F u) = costN F C ((xf (6 * u + (5 - n)) - 1) / 6) := by
            have hv : (xf (6 * u + (5 - n)) - 1) / 6 < 6 := by omega
            have hs1 := root_edge hF hs ((eT_iff hf hX hs).mpr q)
            obtain ⟨g1, -, -, -⟩ := hS _ hs q
            have hj : xf (6 * u + (5 - n)) - 1 < 36 := by omega
            have hs2 := root_edge hF hj ((eT_iff hf hX hj).mpr (by rw [g1]; omega))
            rw [tT_of hf hX hs q] at hs1
            rw [tT_of hf hX hj (by rw [g1]; omega), g1, Nat.add_sub_cancel] at hs2
            rw [show (6 * u + (5 - n)) / 6 = u by omega] at hs1 hs2
            have er2 : rootN F u = rootN F ((xf (6 * u + (5 - n)) - 1) / 6) := Nat.le_antisymm hs2 hs1
            rw [Nat.mul_comm, hd _ _ hv (by omega), er2, cost_dst hF hW hv]
          have e2 : d (6 * u + rootN F u) = costN F C u := by rw [hd _ _ hu (by omega), cost_dst hF hW hu]
          rw [e1, e2]
          by_cases q2 : xc (6 * u + (5 - n)) + costN F C ((xf (6 * u + (5 - n)) - 1) / 6) = costN F C u
          · rw [if_pos q2]
            have hcw : cw xf xc F C u (5 - n) := ⟨q, q2⟩
            by_cases q3 : 6 ≤ b
            · rw [if_pos q3]
              refine put hcw (fun p hp hp2 hc2 => ?_)
              rcases ih with ⟨-, g2⟩ | ⟨-, g2, -⟩
              · exact absurd hc2 (g2 p hp hp2)
              · omega
            · rw [if_neg q3]
              rcases ih with ⟨g1, -⟩ | ⟨g1, g2, g3, g4, g5⟩
              · omega
              · by_cases q4 : (xf (6 * u + b) - 1) / 6 < (xf (6 * u + (5 - n)) - 1) / 6
                · rw [if_pos q4]
                  refine Or.inr ⟨by omega, g2, g3, fun p hp hp2 hc2 => ?_, fun p hp hp2 hc2 => ?_⟩
                  · by_cases e : p = 5 - n
                    · rw [e]; exact Nat.le_of_lt q4
                    · exact g4 p (by omega) hp2 hc2
                  · by_cases e : p = 5 - n
                    · rw [e]; exact q4
                    · exact g5 p (by omega) hp2 hc2
                · rw [if_neg q4]
                  refine put hcw (fun p hp hp2 hc2 => ?_)
                  have := g4 p hp hp2 hc2
                  unfold ck at this ⊢
                  omega
          · rw [if_neg q2]; exact keep (fun z => q2 z.2)
    exact key 6 (Nat.le_refl 6)
theorem way_of (hf : ∀ k, xf k ≤ 36) (hc : ∀ k, xc k ≤ 20) (hS : FS xf xc) (hX : FX xf F) (hC : CX xf xc C) (hR : SM RC (costN F C)) {d : Nat → Nat} (hd : ∀ a b, a < 6 → b < 6 → d (6 * a + b) = dst (eT F) (tT F) (wC C) a b) {u : Nat} (hu : u < 6) : s_X0_bestWayUp F C RC (nI u) = wv u (s_L_way xf xc d u) := by
  obtain ⟨b, -, h2, h3⟩ := wayX hf hc (WF_of hf hS hX) hX hC (WC_of hf hc hS hX hC) hR hu
  rw [h3, Bst_one h2 (wayL hf hc hS hX hC hd hu)]
/-- the class's isOn and the law's -/
theorem on_eq {xn : Nat → Nat} (hf : ∀ k, xf k ≤ 36) (hX : FX xf F) {WU : Nat → Int32} {d : Nat → Nat} (hN : xn 1 ≤ 1) (hW : ∀ v, v < 6 → WU v = wv v (s_L_way xf xc d v)) {k : Nat} (hk : k < 36) : s_X0_hasLiveCable F WU (nI (xn 1)) (nI k) = nI (s_L_isOn xn xf xc d k) := by
  have h1 := hf k
  unfold s_X0_hasLiveCable s_L_isOn
  rw [xAt_nI (f := F) hk (by decide)]
  by_cases q : xf k = 0
  · rw [if_pos (FX0 hX hk q), if_pos q]; rfl
  · rw [FX1 hX hk q, if_neg (nI_m1 (by omega)), if_neg q, nI_d6 hk, nI_d6 (show xf k - 1 < 36 by omega), xAt_nI (f := WU) (show k / 6 < 6 by omega) (by decide), xAt_nI (f := WU) (show (xf k - 1) / 6 < 6 by omega) (by decide), hW _ (by omega), hW _ (by omega)]
    by_cases q1 : xn 1 = 0
    · rw [if_pos (by rw [q1]; rfl), if_pos q1]; rfl
    · rw [if_neg (nI_ne0 (by omega) (by omega)), if_neg q1]
      have e1 := wv_eq (u := k / 6) (b := s_L_way xf xc d (k / 6)) (k := k) le_way hk rfl
      have e2 := wv_eq (u := (xf k - 1) / 6) (b := s_L_way xf xc d ((xf k - 1) / 6)) (k := xf k - 1) le_way (by omega) rfl
      by_cases q2 : s_L_way xf xc d (k / 6) = k % 6
      · rw [if_pos (e1.mpr q2), if_pos q2]; rfl
      · rw [if_neg (fun z => q2 (e1.mp z)), if_neg q2]
        by_cases q3 : s_L_way xf xc d ((xf k - 1) / 6) = (xf k - 1) % 6
        · rw [if_pos (e2.mpr q3), if_pos q3]; rfl
        · rw [if_neg (fun z => q3 (e2.mp z)), if_neg q3]; rfl
end WAY
/-! the set of ports whose cables are on -/
theorem bit_iff {x k : Nat} : x / 2 ^ k % 2 = 1 ↔ x.testBit k = true := by
  rw [Nat.testBit_eq_decide_div_mod_eq, decide_eq_true_iff]
theorem live_lp (xn xf xc : Nat → Nat) : ∀ n, lp (s_L_live_L1 xn xf xc) n 0 < 2 ^ n ∧ ∀ k, k < n → ((lp (s_L_live_L1 xn xf xc) n 0).testBit k = true ↔ ¬ s_L_isOn xn xf xc (s_L_sums_xd xf xc (fun _ => 0)) k = 0) := by
  intro n
  induction n with
  | zero => exact ⟨Nat.one_pos, fun k hk => absurd hk (Nat.not_lt_zero k)⟩
  | succ n ih =>
    rw [lp_succ]
    generalize lp (s_L_live_L1 xn xf xc) n 0 = z at ih ⊢
    obtain ⟨h1, h2⟩ := ih
    have h3 : z < 2 ^ (n + 1) := Nat.lt_trans h1 (Nat.pow_lt_pow_right (by decide) (Nat.lt_succ_self n))
    unfold s_L_live_L1
    by_cases q : s_L_isOn xn xf xc (s_L_sums_xd xf xc (fun _ => 0)) n = 0
    · rw [if_pos q, Nat.or_zero]
      refine ⟨h3, fun k hk => ?_⟩
      by_cases e : k = n
      · rw [e, Nat.testBit_lt_two_pow h1]
        exact ⟨fun z => (by cases z), fun z => absurd q z⟩
      · exact h2 k (by omega)
    · rw [if_neg q]
      refine ⟨Nat.or_lt_two_pow h3 (Nat.pow_lt_pow_right (by decide) (Nat.lt_succ_self n)), fun k hk => ?_⟩
      rw [set_bit]
      by_cases e : k = n
      · rw [e, decide_eq_true rfl, Bool.or_true]
        exact ⟨fun _ => q, fun _ => rfl⟩
      · rw [decide_eq_false (fun z => e z.symm), Bool.or_false]
        exact h2 k (by omega)
theorem live_lt {xn xf xc : Nat → Nat} : s_L_live xn xf xc < 2 ^ 36 := (live_lp xn xf xc 36).1
theorem live_bit {xn xf xc : Nat → Nat} {k : Nat} (hk : k < 36) : s_L_live xn xf xc / 2 ^ k % 2 = 1 ↔ ¬ s_L_isOn xn xf xc (s_L_sums_xd xf xc (fun _ => 0)) k = 0 := bit_iff.trans ((live_lp xn xf xc 36).2 k hk)
theorem isOn_0 {xn xf xc d : Nat → Nat} {k : Nat} (h : xf k = 0) : s_L_isOn xn xf xc d k = 0 := by unfold s_L_isOn; rw [if_pos h]
theorem live_f {xn xf xc : Nat → Nat} : ∀ k, k < 36 → s_L_live xn xf xc / 2 ^ k % 2 = 1 → ¬ xf k = 0 := fun _ hk h z => (live_bit hk).mp h (isOn_0 z)
