/-! HOW MANY: places joined, islands, used places -/
theorem sb_ct (t : Nat) : ∀ n, sb t n = fb_ct (fun k => t.testBit k) n := by
  intro n
  induction n with
  | zero => rfl
  | succ n ih =>
    show sb t n + t / 2 ^ n % 2 = fb_ct (fun k => t.testBit k) n + (if t.testBit n = true then 1 else 0)
    rw [ih]
    by_cases q : t.testBit n = true
    · rw [if_pos q, bit_iff.mpr q]
    · have h : ¬ t / 2 ^ n % 2 = 1 := fun z => q (bit_iff.mp z)
      rw [if_neg q]
      have : t / 2 ^ n % 2 < 2 := Nat.mod_lt _ (by decide)
      omega
/-- six sets of lanes, as one row of places -/
theorem ct_96 (m : Nat → Nat) : ∀ n, fb_ct (fun p => (m (p / 16)).testBit (p % 16)) (16 * n) = lp (fun j z => z + sb (m j) 16) n 0 := by
  intro n
  induction n with
  | zero => rfl
  | succ n ih =>
    rw [Nat.mul_succ, fb_ct_split, ih, lp_succ, sb_ct]
    refine congrArg _ (fb_ct_cong fun k hk => ?_)
    rw [show (16 * n + k) / 16 = n by omega, show (16 * n + k) % 16 = k by omega]
/-- q different places, just those of v -/
theorem ct_inj {N : Nat} : ∀ (q : Nat) (P : Nat → Nat) (v : Nat → Bool), (∀ j, j < q → P j < N) → (∀ i j, i < j → j < q → P i ≠ P j) → (∀ p, p < N → (v p = true ↔ ∃ j, j < q ∧ P j = p)) → fb_ct v N = q := by
  intro q
  induction q with
  | zero =>
    intro P v _ _ h
    refine fb_ct_zero.mpr fun k hk => ?_
    cases e : v k
    · rfl
    · obtain ⟨j, hj, -⟩ := (h k hk).mp e
      exact absurd hj (Nat.not_lt_zero j)
  | succ q ih =>
    intro P v h1 h2 h3
    have hq := h1 q (Nat.lt_succ_self q)
    have h4 := ih P (fun k => if k = P q then false else v k) (fun j hj => h1 j (by omega)) (fun i j hij hj => h2 i j hij (by omega)) (fun p hp => by
      by_cases e : p = P q
      · rw [if_pos e]
        exact ⟨fun z => (by cases z), fun ⟨j, hj, z⟩ => absurd (z.trans e) (h2 j q hj (Nat.lt_succ_self q))⟩
      · rw [if_neg e, h3 p hp]
        refine ⟨fun ⟨j, hj, z⟩ => ⟨j, ?_, z⟩, fun ⟨j, hj, z⟩ => ⟨j, by omega, z⟩⟩
        by_cases e2 : j = q
        · rw [e2] at z; exact absurd z.symm e
        · omega)
    have h5 := fb_ct_upd v false hq
    have h6 : v (P q) = true := (h3 _ hq).mpr ⟨q, Nat.lt_succ_self q, rfl⟩
    rw [h4, h6] at h5
    simp at h5
    omega
section CNT
variable {xu xt xf xc : Nat → Nat} {F WU : Nat → Int32} {TR : Int32} {live : Nat}
theorem joined_eq (hu : ∀ k, xu k ≤ 15) (ht : ∀ k, xt k < 65536) (hG : TG xu xt) (hf : ∀ k, xf k ≤ 36) (hX : FX xf F) (hF : WF F) (hL : LV F WU TR live) {unit lane : Nat} (hUn : unit < 6) (hl1 : 1 ≤ lane) (hl : lane < 16) (S R : Nat → Int32) : s_X0_walkFrom_RN (nA xu) (nA xt) F WU (s_X0_forgetWalks_ST S) R s_X0_forgetWalks_RN TR (nI (16 * unit + lane)) = nI (lp (fun j z => z + sb (SK xu xt xf live unit lane 90 j) 16) 6 0) := by
  have hp0 : 16 * unit + lane < 96 := by omega
  obtain ⟨q, P, Dq, h1, h2, h3⟩ := walk_from (U := nA xu) (T := nA xt) (WU := WU) (TR := TR) hF (WU_of hu) hp0 S R
  rw [h1]
  refine congrArg nI (Eq.symm ?_)
  rw [← ct_96]
  refine ct_inj q P _ (fun j hj => (h2.2.1 j hj).1) h2.2.2.1 (fun p hp => ?_)
  rw [SK_90 hu ht hG hf hX hF hL hUn hl1 hl hp]
  refine ⟨fun ⟨n, h⟩ => ?_, fun ⟨j, hj, e⟩ => ?_⟩
  · obtain ⟨j, g1, g2, -⟩ := TO_all h2 h3 n p h
    exact ⟨j, g1, g2⟩
  · have := (h2.2.1 j hj).2.2.2.1
    rw [e] at this
    exact ⟨_, this⟩
/-! used places -/
theorem used_bit (u l : Nat) : ∀ n, (lp (s_L_used_L1 xu xt u) n 0).testBit l = true ↔ ∃ i, i < n ∧ ((xt (i + 6 * u)).testBit l = true ∨ (¬ xu (i + 6 * u) = 0 ∧ xu (i + 6 * u) = l)) := by
  intro n
  induction n with
  | zero =>
    show (0 : Nat).testBit l = true ↔ _
    rw [Nat.zero_testBit]
    exact ⟨fun z => (by cases z), fun ⟨i, hi, _⟩ => absurd hi (Nat.not_lt_zero i)⟩
  | succ n ih =>
    rw [lp_succ]
    generalize lp (s_L_used_L1 xu xt u) n 0 = z at ih ⊢
    have key : (∃ i, i < n + 1 ∧ ((xt (i + 6 * u)).testBit l = true ∨ (¬ xu (i + 6 * u) = 0 ∧ xu (i + 6 * u) = l))) ↔ z.testBit l = true ∨ ((xt (n + 6 * u)).testBit l = true ∨ (¬ xu (n + 6 * u) = 0 ∧ xu (n + 6 * u) = l)) := by
      rw [ih]
      refine ⟨fun ⟨i, hi, h⟩ => ?_, fun h => ?_⟩
      · by_cases e : i = n
        · rw [e] at h; exact Or.inr h
        · exact Or.inl ⟨i, by omega, h⟩
      · rcases h with ⟨i, hi, h⟩ | h
        · exact ⟨i, by omega, h⟩
        · exact ⟨n, Nat.lt_succ_self n, h⟩
    rw [key]
    unfold s_L_used_L1
    by_cases q : xu (n + 6 * u) = 0
    · rw [if_pos q, Nat.or_zero, Nat.testBit_or, Bool.or_eq_true]
      exact ⟨fun h => h.imp id Or.inl, fun h => h.imp id (fun h => h.elim id (fun h => absurd q h.1))⟩
    · rw [if_neg q, Nat.testBit_or, Nat.testBit_or, Nat.testBit_two_pow, Bool.or_eq_true, Bool.or_eq_true, decide_eq_true_iff]
      exact ⟨fun h => h.imp id (fun h => h.imp id (fun h => ⟨q, h⟩)), fun h => h.imp id (fun h => h.imp id (fun h => h.2))⟩
theorem used_iff (hu : ∀ k, xu k ≤ 15) (hG : TG xu xt) {p : Nat} (hp : p < 96) : (s_L_used xu xt (p / 16)).testBit (p % 16) = true ↔ Uq (nA xu) (nA xt) p := by
  have hl : p % 16 < 16 := Nat.mod_lt _ (by decide)
  unfold s_L_used
  rw [used_bit]
  constructor
  · rintro ⟨i, hi, h⟩
    have hk : p / 16 * 6 + i < 36 := by omega
    rw [show i + 6 * (p / 16) = p / 16 * 6 + i by omega] at h
    have t1 := tag_ne (T := nA xt) hk hl rfl
    refine ⟨⟨i, hi, ?_⟩, ?_⟩
    · rcases h with h | ⟨-, h⟩
      · refine Or.inl (fun z => ?_)
        rw [t1.mp z] at h; cases h
      · exact Or.inr (congrArg nI h)
    · rcases h with h | ⟨h1, h⟩
      · rcases Nat.eq_zero_or_pos (p % 16) with z | z
        · rw [z, (hG _ hk).1] at h; cases h
        · exact z
      · omega
  · rintro ⟨⟨i, hi, h⟩, h1⟩
    have hk : p / 16 * 6 + i < 36 := by omega
    have t1 := tag_ne (T := nA xt) hk hl rfl
    refine ⟨i, hi, ?_⟩
    rw [show i + 6 * (p / 16) = p / 16 * 6 + i by omega]
    rcases h with h | h
    · refine Or.inl ?_
      cases g : (xt (p / 16 * 6 + i)).testBit (p % 16)
      · exact absurd (t1.mpr g) h
      · rfl
    · have h2 : xu (p / 16 * 6 + i) = p % 16 := (nI_eq (by have := hu (p / 16 * 6 + i); omega) (by omega)).mp h
      exact Or.inr ⟨by omega, h2⟩
/-! islands -/
theorem isl_L1 : ∀ n j, j < n → lp (s_L_islands_L1 xu xt) n (fun _ => 0) j = s_L_used xu xt j := by
  intro n
  induction n with
  | zero => intro j hj; exact absurd hj (Nat.not_lt_zero j)
  | succ n ih =>
    intro j hj
    rw [lp_succ]
    unfold s_L_islands_L1
    by_cases e : j = n
    · rw [e, updN_s]
    · rw [updN_n e]; exact ih j (by omega)
theorem isl_L3 (ma : Nat → Nat) (i : Nat) (ra : Nat → Nat) : ∀ n j, lp (s_L_islands_L3 xu xt xf live ma i) n ra j = if j < n then ra j &&& (s_L_spreads_xm xu xt xf live (i / 16) (i % 16) 90 ma j ^^^ 4294967295) else ra j := by
  intro n
  induction n with
  | zero => intro j; rw [if_neg (Nat.not_lt_zero j)]; rfl
  | succ n ih =>
    intro j
    rw [lp_succ]
    generalize lp (s_L_islands_L3 xu xt xf live ma i) n ra = w at ih ⊢
    unfold s_L_islands_L3
    by_cases e : j = n
    · rw [e, updN_s, if_pos (Nat.lt_succ_self n)]
      have := ih n
      rw [if_neg (Nat.lt_irrefl n)] at this
      rw [this]
    · rw [updN_n e, ih j]
      by_cases e2 : j < n
      · rw [if_pos e2, if_pos (by omega)]
      · rw [if_neg e2, if_neg (by omega)]
theorem not_bit {x l : Nat} (hl : l < 32) : (x ^^^ 4294967295).testBit l = !x.testBit l := by
  rw [Nat.testBit_xor, show (4294967295 : Nat) = 2 ^ 32 - 1 from rfl, Nat.testBit_two_pow_sub_one, decide_eq_true hl]
  cases x.testBit l <;> rfl
def LI_ (xu xt : Nat → Nat) (F WU : Nat → Int32) (TR : Int32) (k : Nat) (z : Nat × (Nat → Nat) × (Nat → Nat)) : Prop := CI (nA xu) (nA xt) F WU TR k (nI z.1) ∧ ∀ p, p < 96 → ((z.2.1 (p / 16)).testBit (p % 16) = true ↔ Uq (nA xu) (nA xt) p ∧ ∀ p', p' < k → Uq (nA xu) (nA xt) p' → ¬ Rch (nA xu) (nA xt) F WU TR p' p)
theorem isl_step (hu : ∀ k, xu k ≤ 15) (ht : ∀ k, xt k < 65536) (hG : TG xu xt) (hf : ∀ k, xf k ≤ 36) (hX : FX xf F) (hF : WF F) (hL : LV F WU TR live) {k : Nat} (hk : k < 96) {z : Nat × (Nat → Nat) × (Nat → Nat)} (h : LI_ xu xt F WU TR k z) : LI_ xu xt F WU TR (k + 1) (s_L_islands_L2 xu xt xf live k z) := by
  obtain ⟨many, ra, ma⟩ := z
  obtain ⟨h1, h2⟩ := h
  dsimp only at h1 h2
  have hnew : (ra (k / 16)).testBit (k % 16) = true ↔ New (nA xu) (nA xt) F WU TR k := h2 k hk
  unfold s_L_islands_L2
  dsimp only
  by_cases q : ra (k / 16) / 2 ^ (k % 16) % 2 = 1
  · rw [if_pos q]
    have hn := hnew.mp (bit_iff.mp q)
    refine ⟨⟨nI many, h1, Or.inl ⟨hn, (nI_1 many).symm⟩⟩, fun p hp => ?_⟩
    have e := isl_L3 (xu := xu) (xt := xt) (xf := xf) (live := live) ma k ra 6 (p / 16)
    rw [if_pos (show p / 16 < 6 by omega)] at e
    show ((lp (s_L_islands_L3 xu xt xf live ma k) 6 ra (p / 16)).testBit (p % 16) = true ↔ _)
    have hs := sp_SK (xu := xu) (xt := xt) (live := live) (unit := k / 16) (lane := k % 16) hf 90 ma (p / 16) (by omega)
    have hr := SK_90 (unit := k / 16) (lane := k % 16) hu ht hG hf hX hF hL (by omega) hn.1.2 (Nat.mod_lt _ (by decide)) hp
    rw [Nat.div_add_mod] at hr
    rw [e, hs, Nat.testBit_and, not_bit (by omega), Bool.and_eq_true, h2 p hp, Bool.not_eq_true', ← Bool.not_eq_true, hr]
    refine ⟨fun ⟨⟨g1, g2⟩, g3⟩ => ⟨g1, fun p' hp' hu' => ?_⟩, fun ⟨g1, g2⟩ => ⟨⟨g1, fun p' hp' hu' => g2 p' (by omega) hu'⟩, g2 k (Nat.lt_succ_self k) hn.1⟩⟩
    by_cases e2 : p' = k
    · rw [e2]; exact g3
    · exact g2 p' (by omega) hu'
  · rw [if_neg q]
    have hn : ¬ New (nA xu) (nA xt) F WU TR k := fun z => q (bit_iff.mpr (hnew.mpr z))
    refine ⟨⟨nI many, h1, Or.inr ⟨hn, rfl⟩⟩, fun p hp => ?_⟩
    show ((ra (p / 16)).testBit (p % 16) = true ↔ _)
    rw [h2 p hp]
    refine ⟨fun ⟨g1, g2⟩ => ⟨g1, fun p' hp' hu' hr => ?_⟩, fun ⟨g1, g2⟩ => ⟨g1, fun p' hp' hu' => g2 p' (by omega) hu'⟩⟩
    by_cases e2 : p' = k
    · rw [e2] at hu' hr
      refine hn ⟨hu', fun p'' hp'' hu'' hr'' => ?_⟩
      obtain ⟨n, hn'⟩ := hr
      exact g2 p'' hp'' hu'' (Rch_add hr'' n p hn')
    · exact g2 p' (by omega) hu' hr
theorem islands_eq (hu : ∀ k, xu k ≤ 15) (ht : ∀ k, xt k < 65536) (hG : TG xu xt) (hf : ∀ k, xf k ≤ 36) (hX : FX xf F) (hF : WF F) (hL : LV F WU TR live) (ST RP : Nat → Int32) : s_X0_islands (nA xu) (nA xt) F WU ST RP TR = nI (s_L_islands xu xt xf live) := by
  refine CI_one 96 _ _ (islands_X hF (WU_of hu) ST RP) ?_
  unfold s_L_islands
  refine (lp_invi (LI_ xu xt F WU TR) 96 (fun i hi a ha => isl_step hu ht hG hf hX hF hL hi ha) (0, lp (s_L_islands_L1 xu xt) 6 (fun _ => 0), fun _ => 0) ⟨rfl, fun p hp => ?_⟩).1
  show ((lp (s_L_islands_L1 xu xt) 6 (fun _ => 0) (p / 16)).testBit (p % 16) = true ↔ _)
  rw [isl_L1 6 (p / 16) (by omega), used_iff hu hG hp]
  exact ⟨fun h => ⟨h, fun p' hp' => absurd hp' (Nat.not_lt_zero p')⟩, fun h => h.1⟩
end CNT
