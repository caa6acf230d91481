/-! changes; the book -/
section CHG
variable {xu xt xf xc : Nat → Nat} {F WU : Nat → Int32} {TR : Int32} {live : Nat}
theorem tag_bit {k l : Nat} (hk : k < 36) (hl : l < 16) : (s_X0_isTagged (nA xt) (nI k) (nI l) = 0 ∧ xt k / 2 ^ l % 2 = 0) ∨ (¬ s_X0_isTagged (nA xt) (nI k) (nI l) = 0 ∧ xt k / 2 ^ l % 2 = 1) := by
  have t1 := tag_ne (T := nA xt) hk hl rfl
  have h2 : xt k / 2 ^ l % 2 < 2 := Nat.mod_lt _ (by decide)
  by_cases q : s_X0_isTagged (nA xt) (nI k) (nI l) = 0
  · refine Or.inl ⟨q, ?_⟩
    have h3 : ¬ xt k / 2 ^ l % 2 = 1 := fun z => by rw [bit_iff.mp z] at t1; cases t1.mp q
    omega
  · refine Or.inr ⟨q, bit_iff.mpr ?_⟩
    cases g : (xt k).testBit l
    · exact absurd (t1.mpr g) q
    · rfl
/-- what a live cable costs a lane: the class's and the law's -/
theorem chJ (hu : ∀ k, xu k ≤ 15) (hf : ∀ k, xf k ≤ 36) (hX : FX xf F) (hL : LV F WU TR live) {s one : Nat} (hs : s < 36) (hlv : live / 2 ^ s % 2 = 1) : (s_X0_changesOver (nA xu) (nA xt) F WU TR (nI s) (nI (xu one)) = -1 ∧ s_L_changes_J1 xu xt xf one s = 9999) ∨ ∃ c, c ≤ 2 ∧ s_X0_changesOver (nA xu) (nA xt) F WU TR (nI s) (nI (xu one)) = nI c ∧ s_L_changes_J1 xu xt xf one s = c := by
  have h0 := LV_f hf hX hL s hs hlv
  have h1 := hf s
  have hj : xf s - 1 < 36 := by omega
  have hl : xu one < 16 := by have := hu one; omega
  have u1 := hu s
  have u2 := hu (xf s - 1)
  unfold s_X0_changesOver s_L_changes_J1
  rw [if_neg ((hL s hs).mp hlv), xAt_nI (f := F) hs (by decide), FX1 hX hs h0, xAt_nI (f := nA xu) hs (by decide), xAt_nI (f := nA xu) hj (by decide)]
  have e1 : nA xu s = nI (xu one) ↔ xu s = xu one := nI_eq (by omega) (by omega)
  have e2 : nA xu (xf s - 1) = nI (xu one) ↔ xu (xf s - 1) = xu one := nI_eq (by omega) (by omega)
  by_cases q1 : xu s = xu one
  · rw [if_pos (e1.mpr q1), if_pos q1]
    by_cases q2 : xu (xf s - 1) = xu one
    · rw [if_pos (e2.mpr q2), if_pos (q1.trans q2.symm)]
      exact Or.inr ⟨0, by decide, rfl, rfl⟩
    · rw [if_neg (fun z => q2 (e2.mp z)), if_neg (fun z => q2 (z.symm.trans q1))]
      exact Or.inl ⟨rfl, rfl⟩
  · rw [if_neg (fun z => q1 (e1.mp z)), if_neg q1]
    by_cases q2 : xu (xf s - 1) = xu one
    · rw [if_pos (e2.mpr q2), if_pos q2, if_neg (fun z => q1 (z.trans q2))]
      exact Or.inl ⟨rfl, rfl⟩
    · rw [if_neg (fun z => q2 (e2.mp z)), if_neg q2]
      refine Or.inr ?_
      rcases tag_bit (xt := xt) hs hl with ⟨a1, a2⟩ | ⟨a1, a2⟩
      · rw [if_pos a1, a2]
        rcases tag_bit (xt := xt) hj hl with ⟨b1, b2⟩ | ⟨b1, b2⟩
        · rw [if_pos b1, b2]; exact ⟨2, by decide, rfl, rfl⟩
        · rw [if_neg b1, b2]; exact ⟨1, by decide, rfl, rfl⟩
      · rw [if_neg a1, a2]
        rcases tag_bit (xt := xt) hj hl with ⟨b1, b2⟩ | ⟨b1, b2⟩
        · rw [if_pos b1, b2]; exact ⟨1, by decide, rfl, rfl⟩
        · rw [if_neg b1, b2]; exact ⟨0, by decide, rfl, rfl⟩
theorem ch_dead (hL : LV F WU TR live) {s : Nat} (hs : s < 36) (hlv : ¬ live / 2 ^ s % 2 = 1) {L : Int32} : s_X0_changesOver (nA xu) (nA xt) F WU TR (nI s) L = -1 := by
  have q : s_X0_hasLiveCable F WU TR (nI s) = 0 := Classical.byContradiction fun z => hlv ((hL s hs).mpr z)
  unfold s_X0_changesOver
  rw [if_pos q]
theorem cE_live (hu : ∀ k, xu k ≤ 15) (hf : ∀ k, xf k ≤ 36) (hX : FX xf F) (hL : LV F WU TR live) {s one : Nat} (hs : s < 36) (he : cE (nA xu) (nA xt) F WU TR (xu one) s = true) : live / 2 ^ s % 2 = 1 ∧ s_X0_changesOver (nA xu) (nA xt) F WU TR (nI s) (nI (xu one)) = nI (cW (nA xu) (nA xt) F WU TR (xu one) s) ∧ cW (nA xu) (nA xt) F WU TR (xu one) s ≤ 2 ∧ s_L_changes_J1 xu xt xf one s = cW (nA xu) (nA xt) F WU TR (xu one) s := by
  have h := of_decide_eq_true he
  by_cases q : live / 2 ^ s % 2 = 1
  · rcases chJ (xt := xt) (one := one) hu hf hX hL hs q with ⟨e1, -⟩ | ⟨c, hc, e1, e2⟩
    · exact absurd e1 h
    · have hw : cW (nA xu) (nA xt) F WU TR (xu one) s = c := by unfold cW; rw [e1, nI_clamp (by omega)]
      rw [hw]
      exact ⟨q, e1, hc, e2⟩
  · exact absurd (ch_dead hL hs q) h
theorem cE_sym (hu : ∀ k, xu k ≤ 15) (hf : ∀ k, xf k ≤ 36) (hS : FS xf xc) (hX : FX xf F) (hL : LV F WU TR live) {one : Nat} : Sym (cE (nA xu) (nA xt) F WU TR (xu one)) (tT F) (cW (nA xu) (nA xt) F WU TR (xu one)) := by
  intro s hs he
  obtain ⟨hlv, e1, e2, -⟩ := cE_live (xt := xt) hu hf hX hL hs he
  obtain ⟨hj, hlj, g3, -⟩ := live_back hf hS hX hL hs hlv
  have h0 := LV_f hf hX hL s hs hlv
  have hj0 := LV_f hf hX hL _ hj hlj
  have f1 := FX1 hX hs h0
  have f2 := FX1 hX hj hj0
  rw [g3] at f2
  have sy := ch_sym (U := nA xu) (T := nA xt) (WU := WU) (TR := TR) (L := nI (xu one)) hs hj f1 f2
  refine ⟨by rw [tT_eq hj f1]; omega, by omega, xf s - 1, hj, ?_, by rw [tT_eq hj f1], by rw [tT_eq hs f2], ?_⟩
  · unfold cE at he ⊢
    rw [← sy]; exact he
  · unfold cW
    rw [← sy]
theorem sL3_fw2 : s_L_changes_L3 = fw := by
  funext k d
  unfold s_L_changes_L3 fw
  rw [Nat.mul_comm (k / 6 % 6) 6, Nat.mul_comm (k / 36) 6]
  split <;> rfl
theorem changesD (hu : ∀ k, xu k ≤ 15) (hf : ∀ k, xf k ≤ 36) (hS : FS xf xc) (hX : FX xf F) (hL : LV F WU TR live) {one : Nat} (d : Nat → Nat) {a b : Nat} (ha : a < 6) (hb : b < 6) : lp s_L_changes_L3 216 (lp (s_L_changes_L2 xu xt xf live one) 36 (lp s_L_changes_L1 36 d)) (6 * a + b) = dst (cE (nA xu) (nA xt) F WU TR (xu one)) (tT F) (cW (nA xu) (nA xt) F WU TR (xu one)) a b := by
  have hY := cE_sym (xt := xt) (one := one) hu hf hS hX hL
  rw [sL3_fw2]
  refine ED_done hY (lp_invi (ED (cE (nA xu) (nA xt) F WU TR (xu one)) (tT F) (cW (nA xu) (nA xt) F WU TR (xu one))) 36 (fun i hi z hz => ?_) _ (ED_0 _ _ _ (lay36 (fun _ _ => rfl) d 36))) ha hb
  have h1 := hf i
  have e6 : (i / 6) * 6 + (xf i - 1) / 6 = 6 * (i / 6) + (xf i - 1) / 6 := by rw [Nat.mul_comm]
  unfold s_L_changes_L2
  rw [e6]
  by_cases q : live / 2 ^ i % 2 = 1
  · rw [if_pos q]
    have h0 := LV_f hf hX hL i hi q
    have e2 : tT F i = (xf i - 1) / 6 := tT_of hf hX hi h0
    have h9 := hz.2.1 (i / 6) ((xf i - 1) / 6) (by omega) (by omega)
    by_cases he : cE (nA xu) (nA xt) F WU TR (xu one) i = true
    · obtain ⟨-, -, -, e3⟩ := cE_live (xt := xt) hu hf hX hL hi he
      split
      · rename_i w
        refine ED_put hY hi hz (by omega) (Or.inl ⟨he, e2.symm, ?_⟩)
        rw [← e3]; exact (if_pos w).symm
      · rename_i w
        refine ED_put hY hi hz (by omega) (Or.inl ⟨he, e2.symm, ?_⟩)
        rw [← e3]; exact (if_neg w).symm
    · have hf1 : cE (nA xu) (nA xt) F WU TR (xu one) i = false := by simpa using he
      have e3 : s_L_changes_J1 xu xt xf one i = 9999 := by
        rcases chJ (xt := xt) (one := one) hu hf hX hL hi q with ⟨-, e⟩ | ⟨c, hc, e, -⟩
        · exact e
        · refine absurd (decide_eq_true ?_) he
          rw [e]; exact nI_m1 (by omega)
      rw [e3, if_pos (show z (6 * (i / 6) + (xf i - 1) / 6) ≤ 9999 from h9)]
      exact ED_put hY hi hz (by omega) (Or.inr ⟨hf1, rfl⟩)
  · rw [if_neg q]
    refine ED_same hz ?_
    cases g : cE (nA xu) (nA xt) F WU TR (xu one) i
    · rfl
    · exact absurd (cE_live (xt := xt) hu hf hX hL hi g).1 q
theorem changes_eq (hu : ∀ k, xu k ≤ 15) (hf : ∀ k, xf k ≤ 36) (hS : FS xf xc) (hX : FX xf F) (hF : WF F) (hL : LV F WU TR live) {unit port ou op : Int32} {u o one two : Nat} (hU : u < 6) (hO : o < 6) (eu : unit = nI u) (eo : ou = nI o) (h1 : one < 36) (h2 : two < 36) (e1 : s_X0_slotOf unit port = nI one) (e2 : s_X0_slotOf ou op = nI two) (ho1 : one / 6 = u) (ho2 : two / 6 = o) (WT SM0 : Nat → Int32) : s_X0_changes (nA xu) (nA xt) F WU WT SM0 TR unit port ou op = s_L_changes xu xt xf live one two := by
  have x1 : xAt 36 (nA xu) (s_X0_slotOf unit port) = nI (xu one) := by rw [e1, xAt_nI h1 (by decide)]; rfl
  have x2 : xAt 36 (nA xu) (s_X0_slotOf ou op) = nI (xu two) := by rw [e2, xAt_nI h2 (by decide)]; rfl
  have u1 := hu one
  have u2 := hu two
  unfold s_X0_changes s_L_changes
  rw [x1, x2]
  by_cases q1 : xu one = 0
  · rw [if_pos (by rw [q1]; rfl), if_pos q1]
  · rw [if_neg (nI_ne0 (by omega) (by omega)), if_neg q1]
    by_cases q2 : xu two = xu one
    · rw [if_pos (by rw [q2]), if_pos q2]
      have hY := cE_sym (xt := xt) (one := one) hu hf hS hX hL
      have hE : EX F (lp (s_X0_changes_L1 (nA xu) (nA xt) F WU TR unit port) 36 WT) (cE (nA xu) (nA xt) F WU TR (xu one)) (tT F) (cW (nA xu) (nA xt) F WU TR (xu one)) := by
        intro s hs
        have hw := chW (T := nA xt) (F := F) (WU := WU) (TR := TR) x1 WT s hs
        by_cases he : cE (nA xu) (nA xt) F WU TR (xu one) s = true
        · obtain ⟨hlv, g1, g2, -⟩ := cE_live (xt := xt) hu hf hX hL hs he
          obtain ⟨hj, -, -, -⟩ := live_back hf hS hX hL hs hlv
          have f1 := FX1 hX hs (LV_f hf hX hL s hs hlv)
          exact Or.inl ⟨he, xf s - 1, hj, f1, tT_eq hj f1, by rw [hw, g1], by omega⟩
        · refine Or.inr ⟨by simpa using he, Or.inr ?_⟩
          rw [hw]
          exact Classical.byContradiction fun z => he (decide_eq_true z)
      have sX : SM (xPut 6 (xFill SM0 1000 6) unit 0) (cs u 1000) := by
        intro v hv
        rw [eu, xPut_nI hU (by decide)]
        unfold cs
        by_cases q : v = u
        · subst q; rw [pk_us, if_pos rfl]; exact ⟨rfl, by decide⟩
        · rw [pk_un q, if_neg q]
          unfold xFill
          rw [if_pos hv]
          exact ⟨rfl, by decide⟩
      have hX2 := least_sim hE sX
      have hD := changesD (xt := xt) (one := one) hu hf hS hX hL (fun _ => 0) hU hO
      rw [Nat.mul_comm (one / 6) 6, ho1, ho2, hD, eo, SM_at hX2 hO]
      have h3 := IRg_bn (E := cE (nA xu) (nA xt) F WU TR (xu one)) (sr := sr6) (ds := tT F) (w := cW (nA xu) (nA xt) F WU TR (xu one)) (x := 1000) (y := 9999) (by decide) (by decide) (fun s hs _ => sr6_lt hs) (fun s hs he => (hY s hs he).2.1) (d1 := cs u 1000) (d2 := cs9 u) (fun v _ => by
        unfold cs cs9
        by_cases q : v = u
        · rw [if_pos q, if_pos q]; exact Or.inl ⟨rfl, by omega⟩
        · rw [if_neg q, if_neg q]; exact Or.inr ⟨rfl, rfl⟩) 5 (by decide) o hO
      unfold dst
      generalize bn (cE (nA xu) (nA xt) F WU TR (xu one)) sr6 (tT F) (cW (nA xu) (nA xt) F WU TR (xu one)) (cs u 1000) 5 o = a at h3
      generalize bn (cE (nA xu) (nA xt) F WU TR (xu one)) sr6 (tT F) (cW (nA xu) (nA xt) F WU TR (xu one)) (cs9 u) 5 o = b at h3
      rcases h3 with ⟨h4, h5⟩ | ⟨h4, h5⟩
      · subst h4
        rw [if_neg (fun z => by have := (nI_eq (a := a) (b := 1000) (by omega) (by decide)).mp z; omega), if_pos (by omega)]
      · rw [h4, h5, if_pos (show nI 1000 = 1000 from rfl), if_neg (by omega)]
    · rw [if_neg (fun z => q2 ((nI_eq (by omega) (by omega)).mp z).symm), if_neg q2]
end CHG
/-! the book -/
def fB (xb : Nat → Nat) (k : Nat) : Int32 := if xb k = 0 then -1 else s_X0_endName (nI (xb k - 1))
def BX (xb : Nat → Nat) (B : Nat → Int32) : Prop := ∀ k, k < 36 → B k = fB xb k
def wrF (xf xb : Nat → Nat) (i n : Nat) : Nat := if xb i = 0 then n + 0 else (if xb i = xf i then n + 0 else n + 1)
theorem wrong_nI {xf xb : Nat → Nat} {F B : Nat → Int32} (hf : ∀ k, xf k ≤ 36) (hb : ∀ k, xb k ≤ 36) (hX : FX xf F) (hB : BX xb B) : s_X0_wrong F B = nI (lp (wrF xf xb) 36 0) := by
  unfold s_X0_wrong
  refine lp_rel (fun a b => a = nI b) 36 (fun i hi a b e => ?_) 0 0 rfl
  subst e
  have h1 := hf i
  have h2 := hb i
  unfold s_X0_wrong_L1 wrF
  rw [xAt_nI (f := B) hi (by decide), xAt_nI (f := F) hi (by decide), hB i hi, hX i hi]
  unfold fB fF
  by_cases q1 : xb i = 0
  · rw [if_pos q1, if_pos rfl, if_pos q1]; rfl
  · rw [if_neg q1, if_neg (end_ne (by omega)), if_neg q1]
    by_cases q2 : xf i = 0
    · rw [if_pos q2, end_m1, if_neg (end_ne (by omega)), if_neg (by omega), nI_1]
    · rw [if_neg q2]
      by_cases q3 : xb i = xf i
      · rw [q3, if_pos rfl, if_pos rfl]; rfl
      · rw [if_neg (fun z => by have := (end_inj (by omega) (by omega)).mp z; omega), if_neg q3, nI_1]
theorem far_nI {xf : Nat → Nat} {F : Nat → Int32} (hf : ∀ k, xf k ≤ 36) (hX : FX xf F) {k : Nat} (hk : k < 36) : s_X0_endName (xAt 36 F (nI k)) = if xf k = 0 then -1 else nI ((xf k - 1) / 6 * 10 + (xf k - 1) % 6) := by
  rw [xAt_nI hk (by decide), hX k hk]
  unfold fF
  by_cases q : xf k = 0
  · rw [if_pos q, if_pos q, end_m1]
  · rw [if_neg q, if_neg q, end_nI (by have := hf k; omega)]
