/-! what spreads reaches: just what the class's frames reach -/
section RCH
variable {xu xt xf xc : Nat → Nat} {F WU : Nat → Int32} {TR : Int32} {live : Nat}
theorem comes_bit {k lanes l : Nat} : (s_L_comes xu xt xf k lanes).testBit l = true ↔ (lanes.testBit l = true ∧ (xt k).testBit l = true ∧ (xt (xf k - 1)).testBit l = true) ∨ (¬ xu k = 0 ∧ ¬ xu (xf k - 1) = 0 ∧ lanes.testBit (xu k) = true ∧ l = xu (xf k - 1)) := by
  have h0 : ((lanes &&& xt k) &&& xt (xf k - 1)).testBit l = true ↔ (lanes.testBit l = true ∧ (xt k).testBit l = true ∧ (xt (xf k - 1)).testBit l = true) := by
    rw [Nat.testBit_and, Nat.testBit_and, Bool.and_eq_true, Bool.and_eq_true, and_assoc]
  unfold s_L_comes
  by_cases q1 : xu k = 0
  · rw [if_pos q1, h0]
    exact ⟨Or.inl, fun z => z.elim id (fun z => absurd q1 z.1)⟩
  · rw [if_neg q1]
    by_cases q2 : xu (xf k - 1) = 0
    · rw [if_pos q2, h0]
      exact ⟨Or.inl, fun z => z.elim id (fun z => absurd q2 z.2.1)⟩
    · rw [if_neg q2]
      by_cases q3 : lanes / 2 ^ xu k % 2 = 1
      · rw [if_pos q3, set_bit, Bool.or_eq_true, h0, decide_eq_true_iff]
        exact ⟨fun z => z.imp id (fun e => ⟨q1, q2, bit_iff.mp q3, e.symm⟩), fun z => z.imp id (fun e => e.2.2.2.symm)⟩
      · rw [if_neg q3, h0]
        exact ⟨Or.inl, fun z => z.elim id (fun z => absurd (bit_iff.mpr z.2.2.1) q3)⟩
theorem st_bit (hf : ∀ k, xf k ≤ 36) (m : Nat → Nat) (l : Nat) : ∀ n, n ≤ 36 → ∀ j, (lp (s_L_spreads_L2 xu xt xf live m) n m j).testBit l = true ↔ (m j).testBit l = true ∨ ∃ k, k < n ∧ live / 2 ^ k % 2 = 1 ∧ (xf k - 1) / 6 = j ∧ (s_L_comes xu xt xf k (m (k / 6))).testBit l = true := by
  intro n
  induction n with
  | zero => intro _ j; exact ⟨Or.inl, fun z => z.elim id (fun ⟨k, hk, _⟩ => absurd hk (Nat.not_lt_zero k))⟩
  | succ n ih =>
    intro hn j
    have ih := ih (by omega)
    rw [lp_succ]
    generalize lp (s_L_spreads_L2 xu xt xf live m) n m = w at ih ⊢
    unfold s_L_spreads_L2
    by_cases q : live / 2 ^ n % 2 = 1
    · rw [if_pos q]
      by_cases e : j = (xf n - 1) / 6
      · rw [e, updN_s, Nat.testBit_or, Bool.or_eq_true, ih]
        refine ⟨fun z => ?_, fun z => ?_⟩
        · rcases z with (z | ⟨k, hk, z⟩) | z
          · exact Or.inl z
          · exact Or.inr ⟨k, by omega, z⟩
          · exact Or.inr ⟨n, Nat.lt_succ_self n, q, rfl, z⟩
        · rcases z with z | ⟨k, hk, z⟩
          · exact Or.inl (Or.inl z)
          · by_cases e2 : k = n
            · rw [e2] at z; exact Or.inr z.2.2
            · exact Or.inl (Or.inr ⟨k, by omega, z⟩)
      · rw [updN_n e, ih]
        refine ⟨fun z => z.imp id (fun ⟨k, hk, z⟩ => ⟨k, by omega, z⟩), fun z => z.imp id (fun ⟨k, hk, z⟩ => ⟨k, ?_, z⟩)⟩
        by_cases e2 : k = n
        · rw [e2] at z; exact absurd z.2.1.symm e
        · omega
    · rw [if_neg q, ih]
      refine ⟨fun z => z.imp id (fun ⟨k, hk, z⟩ => ⟨k, by omega, z⟩), fun z => z.imp id (fun ⟨k, hk, z⟩ => ⟨k, ?_, z⟩)⟩
      by_cases e2 : k = n
      · rw [e2] at z; exact absurd z.1 q
      · omega
theorem lane_iff (hu : ∀ k, xu k ≤ 15) (hf : ∀ k, xf k ≤ 36) (hX : FX xf F) {k l c : Nat} (hk : k < 36) (h0 : ¬ xf k = 0) (hl : l < 16) (hc : c < 16) : s_X0_laneBeyond (nA xu) (nA xt) F (nI k) (nI l) = nI c ↔ ((xt k).testBit l = true ∧ (xt (xf k - 1)).testBit l = true ∧ c = l) ∨ ((xt k).testBit l = false ∧ xu k = l ∧ ¬ xu (xf k - 1) = 0 ∧ c = xu (xf k - 1)) := by
  have h1 := hf k
  have hj : xf k - 1 < 36 := by omega
  have u1 := hu k
  have u2 := hu (xf k - 1)
  have t1 := tag_ne (T := nA xt) hk hl rfl
  have t2 := tag_ne (T := nA xt) hj hl rfl
  unfold s_X0_laneBeyond
  rw [xAt_nI (f := F) hk (by decide), FX1 hX hk h0, xAt_nI (f := nA xu) hk (by decide), xAt_nI (f := nA xu) hj (by decide)]
  show (if s_X0_isTagged (nA xt) (nI k) (nI l) = 0 then (if nI (xu k) = nI l then (if nI (xu (xf k - 1)) = 0 then -1 else nI (xu (xf k - 1))) else -1) else (if s_X0_isTagged (nA xt) (nI (xf k - 1)) (nI l) = 0 then -1 else nI l)) = nI c ↔ _
  by_cases q : s_X0_isTagged (nA xt) (nI k) (nI l) = 0
  · have b0 := t1.mp q
    rw [if_pos q]
    by_cases q2 : xu k = l
    · rw [if_pos (by rw [q2])]
      by_cases q3 : xu (xf k - 1) = 0
      · rw [if_pos (by rw [q3]; rfl)]
        exact ⟨fun z => absurd z.symm (nI_m1 (by omega)), fun z => z.elim (fun z => by rw [b0] at z; cases z.1) (fun z => absurd q3 z.2.2.1)⟩
      · rw [if_neg (nI_ne0 (by omega) (by omega)), nI_eq (by omega) (by omega)]
        exact ⟨fun z => Or.inr ⟨b0, q2, q3, z.symm⟩, fun z => z.elim (fun z => by rw [b0] at z; cases z.1) (fun z => z.2.2.2.symm)⟩
    · rw [if_neg (fun z => q2 ((nI_eq (by omega) (by omega)).mp z))]
      exact ⟨fun z => absurd z.symm (nI_m1 (by omega)), fun z => z.elim (fun z => by rw [b0] at z; cases z.1) (fun z => absurd z.2.1 q2)⟩
  · have b1 : (xt k).testBit l = true := by
      cases g : (xt k).testBit l
      · exact absurd (t1.mpr g) q
      · rfl
    rw [if_neg q]
    by_cases q2 : s_X0_isTagged (nA xt) (nI (xf k - 1)) (nI l) = 0
    · have b2 := t2.mp q2
      rw [if_pos q2]
      exact ⟨fun z => absurd z.symm (nI_m1 (by omega)), fun z => z.elim (fun z => by rw [b2] at z; cases z.2.1) (fun z => by rw [b1] at z; cases z.1)⟩
    · have b2 : (xt (xf k - 1)).testBit l = true := by
        cases g : (xt (xf k - 1)).testBit l
        · exact absurd (t2.mpr g) q2
        · rfl
      rw [if_neg q2, nI_eq (by omega) (by omega)]
      exact ⟨fun z => Or.inl ⟨b1, b2, z.symm⟩, fun z => z.elim (fun z => z.2.2.symm) (fun z => by rw [b1] at z; cases z.1)⟩
/-- what the law's set of live cables says of the class's -/
def LV (F WU : Nat → Int32) (TR : Int32) (live : Nat) : Prop := ∀ k, k < 36 → (live / 2 ^ k % 2 = 1 ↔ ¬ s_X0_hasLiveCable F WU TR (nI k) = 0)
theorem LV_f (hf : ∀ k, xf k ≤ 36) (hX : FX xf F) (hL : LV F WU TR live) : ∀ k, k < 36 → live / 2 ^ k % 2 = 1 → ¬ xf k = 0 := fun k hk h z => (hL k hk).mp h (live_0 hk (FX0 hX hk z))
/-- one step of the law's, of one place -/
theorem step_iff (hu : ∀ k, xu k ≤ 15) (hG : TG xu xt) (hf : ∀ k, xf k ≤ 36) (hX : FX xf F) (hF : WF F) (hL : LV F WU TR live) {a p : Nat} (ha : a < 96) (hp : p < 96) (h1 : 1 ≤ a % 16) : Sp1 (nA xu) (nA xt) F WU TR a p ↔ ∃ k, k < 36 ∧ live / 2 ^ k % 2 = 1 ∧ k / 6 = a / 16 ∧ (xf k - 1) / 6 = p / 16 ∧ (((xt k).testBit (a % 16) = true ∧ (xt (xf k - 1)).testBit (a % 16) = true ∧ p % 16 = a % 16) ∨ (xu k = a % 16 ∧ ¬ xu (xf k - 1) = 0 ∧ p % 16 = xu (xf k - 1))) := by
  have hl : a % 16 < 16 := Nat.mod_lt _ (by decide)
  constructor
  · intro h
    obtain ⟨-, i, hi, e⟩ := h
    have hk : a / 16 * 6 + i < 36 := by omega
    rcases pb_or (T := nA xt) (WU := WU) (TR := TR) hF (WU_of hu) hk hl with ⟨g1, -⟩ | ⟨j, c, hj, hc, g1, g2, g3, g4⟩
    · rw [g1] at e; exact absurd e.symm (nI_m1 (by omega))
    · have hpc : 16 * (j / 6) + c = p := (nI_eq (by omega) (by omega)).mp (g4.symm.trans e)
      have hlv := (hL _ hk).mpr g2
      have h0 := LV_f hf hX hL _ hk hlv
      have hj2 : xf (a / 16 * 6 + i) - 1 = j := by
        rw [FX1 hX hk h0] at g1
        exact (nI_eq (by have := hf (a / 16 * 6 + i); omega) (by omega)).mp g1
      have g5 := (lane_iff hu hf hX hk h0 hl hc).mp g3
      refine ⟨a / 16 * 6 + i, hk, hlv, by omega, by omega, ?_⟩
      rcases g5 with ⟨z1, z2, z3⟩ | ⟨-, z2, z3, z4⟩
      · exact Or.inl ⟨z1, z2, by omega⟩
      · exact Or.inr ⟨z2, z3, by omega⟩
  · rintro ⟨k, hk, hlv, e1, e2, hh⟩
    have h0 := LV_f hf hX hL k hk hlv
    have h3 := hf k
    have ek : a / 16 * 6 + k % 6 = k := by omega
    refine ⟨hp, k % 6, Nat.mod_lt _ (by decide), ?_⟩
    rw [ek]
    have g : s_X0_laneBeyond (nA xu) (nA xt) F (nI k) (nI (a % 16)) = nI (p % 16) := by
      refine (lane_iff hu hf hX hk h0 hl (Nat.mod_lt _ (by decide))).mpr ?_
      rcases hh with z | ⟨z1, z2, z3⟩
      · exact Or.inl z
      · refine Or.inr ⟨?_, z1, z2, z3⟩
        rw [← z1]
        exact (hG k hk).2 (by omega)
    unfold s_X0_placeBeyond
    rw [if_neg ((hL k hk).mp hlv), g, if_neg (nI_m1 (by omega)), xAt_nI hk (by decide), FX1 hX hk h0, nI_d6 (by omega), show (16 : Int32) = nI 16 from rfl, pk_mul, nI_add]
    congr 1
    omega
theorem SK_iff (hu : ∀ k, xu k ≤ 15) (ht : ∀ k, xt k < 65536) (hG : TG xu xt) (hf : ∀ k, xf k ≤ 36) (hX : FX xf F) (hF : WF F) (hL : LV F WU TR live) {unit lane : Nat} (hU : unit < 6) (hl1 : 1 ≤ lane) (hl : lane < 16) : ∀ k p, p < 96 → ((SK xu xt xf live unit lane k (p / 16)).testBit (p % 16) = true ↔ ∃ n, n ≤ k ∧ Rn (nA xu) (nA xt) F WU TR n (16 * unit + lane) p) := by
  have hs : 16 * unit + lane < 96 := by omega
  have hT := WT_of hu ht hG
  intro k
  induction k with
  | zero =>
    intro p hp
    show ((if p / 16 = unit then 2 ^ lane else 0 : Nat)).testBit (p % 16) = true ↔ _
    have e : (∃ n, n ≤ 0 ∧ Rn (nA xu) (nA xt) F WU TR n (16 * unit + lane) p) ↔ 16 * unit + lane = p := ⟨fun ⟨n, hn, h⟩ => by
      have h0 : n = 0 := by omega
      subst h0; exact h, fun h => ⟨0, Nat.le_refl 0, h⟩⟩
    rw [e]
    by_cases q : p / 16 = unit
    · rw [if_pos q, Nat.testBit_two_pow, decide_eq_true_iff]; omega
    · rw [if_neg q, Nat.zero_testBit]
      exact ⟨fun z => (by cases z), fun z => absurd (by omega) q⟩
  | succ k ih =>
    intro p hp
    have e : SK xu xt xf live unit lane (k + 1) = lp (s_L_spreads_L2 xu xt xf live (SK xu xt xf live unit lane k)) 36 (SK xu xt xf live unit lane k) := rfl
    rw [e, st_bit hf _ _ 36 (Nat.le_refl 36), ih p hp]
    constructor
    · rintro (⟨n, hn, h⟩ | ⟨k', hk', hlv, e2, hc⟩)
      · exact ⟨n, by omega, h⟩
      · have h0 := LV_f hf hX hL k' hk' hlv
        -- the place that it comes from
        have key : ∀ l0, l0 < 16 → (SK xu xt xf live unit lane k (k' / 6)).testBit l0 = true → (((xt k').testBit l0 = true ∧ (xt (xf k' - 1)).testBit l0 = true ∧ p % 16 = l0) ∨ (xu k' = l0 ∧ ¬ xu (xf k' - 1) = 0 ∧ p % 16 = xu (xf k' - 1))) → ∃ n, n ≤ k + 1 ∧ Rn (nA xu) (nA xt) F WU TR n (16 * unit + lane) p := by
          intro l0 hl0 hb hh
          have a1 : (16 * (k' / 6) + l0) / 16 = k' / 6 := by omega
          have a2 : (16 * (k' / 6) + l0) % 16 = l0 := by omega
          have hb2 := (ih (16 * (k' / 6) + l0) (by omega)).mp (by rw [a1, a2]; exact hb)
          obtain ⟨n, hn, hr⟩ := hb2
          have h1 := (Rn_sym hF (WU_of hu) hT hs (show 1 ≤ (16 * unit + lane) % 16 by omega) n _ hr).2.1
          exact ⟨n + 1, by omega, _, hr, (step_iff hu hG hf hX hF hL (by omega) hp h1).mpr ⟨k', hk', hlv, by rw [a1], e2, by rw [a2]; exact hh⟩⟩
        rcases comes_bit.mp hc with ⟨z1, z2, z3⟩ | ⟨z1, z2, z3, z4⟩
        · exact key (p % 16) (Nat.mod_lt _ (by decide)) z1 (Or.inl ⟨z2, z3, rfl⟩)
        · exact key (xu k') (by have := hu k'; omega) z3 (Or.inr ⟨rfl, z2, z4⟩)
    · rintro ⟨n, hn, h⟩
      cases n with
      | zero => exact Or.inl ⟨0, Nat.zero_le k, h⟩
      | succ n =>
        obtain ⟨c, hr, hst⟩ := h
        have hc96 := Rn_lt hs n hr
        have h1 := (Rn_sym hF (WU_of hu) hT hs (show 1 ≤ (16 * unit + lane) % 16 by omega) n _ hr).2.1
        obtain ⟨k', hk', hlv, e1, e2, hh⟩ := (step_iff hu hG hf hX hF hL hc96 hp h1).mp hst
        have hb := (ih c hc96).mpr ⟨n, by omega, hr⟩
        refine Or.inr ⟨k', hk', hlv, e2, comes_bit.mpr ?_⟩
        rw [e1]
        rcases hh with ⟨z1, z2, z3⟩ | ⟨z1, z2, z3⟩
        · rw [z3]; exact Or.inl ⟨hb, z1, z2⟩
        · rw [z1]; exact Or.inr ⟨by omega, z2, hb, z3⟩
end RCH
