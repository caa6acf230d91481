/-! THE PICTURE: the law's rows, and the class's rows beside them; roots, costs -/
def fF (xf : Nat → Nat) (k : Nat) : Int32 := if xf k = 0 then -1 else nI (xf k - 1)
/-- tags: none of lane 0, none of the untagged lane -/
def TG (xu xt : Nat → Nat) : Prop := ∀ k, k < 36 → (xt k).testBit 0 = false ∧ (0 < xu k → (xt k).testBit (xu k) = false)
/-- cables: the far end's far end is this one, at another switch; both ends tell the same cost -/
def FS (xf xc : Nat → Nat) : Prop := ∀ k, k < 36 → ¬ xf k = 0 → xf (xf k - 1) = k + 1 ∧ (xf k - 1) / 6 ≠ k / 6 ∧ 1 ≤ xc k ∧ xc (xf k - 1) = xc k
def FX (xf : Nat → Nat) (F : Nat → Int32) : Prop := ∀ k, k < 36 → F k = fF xf k
def CX (xf xc : Nat → Nat) (C : Nat → Int32) : Prop := ∀ k, k < 36 → ¬ xf k = 0 → C k = nI (xc k)
section PIC
variable {xu xt xf xc : Nat → Nat} {F C : Nat → Int32}
theorem FX0 (h : FX xf F) {k : Nat} (hk : k < 36) (h0 : xf k = 0) : F k = -1 := by rw [h k hk]; unfold fF; rw [if_pos h0]
theorem FX1 (h : FX xf F) {k : Nat} (hk : k < 36) (h0 : ¬ xf k = 0) : F k = nI (xf k - 1) := by rw [h k hk]; unfold fF; rw [if_neg h0]
theorem FX_m1 (hf : ∀ k, xf k ≤ 36) (h : FX xf F) {k : Nat} (hk : k < 36) : F k = -1 ↔ xf k = 0 := by
  refine ⟨fun z => ?_, FX0 h hk⟩
  by_cases q : xf k = 0
  · exact q
  · rw [FX1 h hk q] at z
    exact absurd z (nI_m1 (by have := hf k; omega))
theorem WF_of (hf : ∀ k, xf k ≤ 36) (hS : FS xf xc) (h : FX xf F) : WF F := by
  intro k hk
  by_cases q : xf k = 0
  · exact Or.inl (FX0 h hk q)
  · have h1 := hf k
    obtain ⟨g1, g2, -, -⟩ := hS k hk q
    refine Or.inr ⟨xf k - 1, by omega, FX1 h hk q, ?_, g2⟩
    rw [FX1 h (by omega) (by rw [g1]; omega), g1, Nat.add_sub_cancel]
theorem WU_of (hu : ∀ k, xu k ≤ 15) : WU_ (nA xu) := fun k _ => ⟨xu k, hu k, rfl⟩
theorem WT_of (hu : ∀ k, xu k ≤ 15) (ht : ∀ k, xt k < 65536) (hG : TG xu xt) : WT_ (nA xu) (nA xt) := by
  intro k hk
  refine ⟨xt k, ht k, rfl, (hG k hk).1, fun u hu2 e h0 => ?_⟩
  have e2 : xu k = u := (nI_eq (by have := hu k; omega) (by omega)).mp e
  rw [← e2]
  exact (hG k hk).2 (by omega)
theorem WC_of (hf : ∀ k, xf k ≤ 36) (hc : ∀ k, xc k ≤ 20) (hS : FS xf xc) (h : FX xf F) (hC : CX xf xc C) : WC F C C := by
  intro k hk hn
  have q : ¬ xf k = 0 := fun z => hn (FX0 h hk z)
  have h1 := hf k
  obtain ⟨g1, -, g3, g4⟩ := hS k hk q
  refine ⟨xc k, g3, hc k, hC k hk q, hC k hk q, fun j hj e => ?_⟩
  rw [FX1 h hk q] at e
  have e2 : xf k - 1 = j := (nI_eq (by omega) (by omega)).mp e
  rw [← e2, hC _ (by omega) (by rw [g1]; omega), g4]
theorem eT_iff (hf : ∀ k, xf k ≤ 36) (h : FX xf F) {k : Nat} (hk : k < 36) : eT F k = true ↔ ¬ xf k = 0 := by
  unfold eT
  rw [decide_eq_true_iff, FX_m1 hf h hk]
theorem tT_of (hf : ∀ k, xf k ≤ 36) (h : FX xf F) {k : Nat} (hk : k < 36) (q : ¬ xf k = 0) : tT F k = (xf k - 1) / 6 := tT_eq (by have := hf k; omega) (FX1 h hk q)
theorem wC_of (hc : ∀ k, xc k ≤ 20) (hC : CX xf xc C) {k : Nat} (hk : k < 36) (q : ¬ xf k = 0) : wC C k = xc k := by
  unfold wC
  rw [hC k hk q, nI_clamp (by have := hc k; omega)]
theorem Sym_cab {C' : Nat → Int32} (hF : WF F) (hC : WC F C C') : Sym (eT F) (tT F) (wC C) := by
  intro s hs he
  have hn := eT_ne s hs he
  rcases hF s hs with z | ⟨j, hj, e1, e2, -⟩
  · exact absurd z hn
  · obtain ⟨c, -, h2, h3, -, h5⟩ := hC s hs hn
    have w1 : wC C s = c := by unfold wC; rw [h3, nI_clamp (by omega)]
    have w2 : wC C j = c := by unfold wC; rw [h5 j hj e1, nI_clamp (by omega)]
    refine ⟨by rw [tT_eq hj e1]; omega, by omega, j, hj, eT_1 hs e2, by rw [tT_eq hj e1], tT_eq hs e2, by rw [w1, w2]⟩
/-- a row laid with 0 at equal pairs, 9999 else -/
theorem lay36 {f : Nat → (Nat → Nat) → Nat → Nat} (hf : ∀ i d, f i d = if i % 7 = 0 then updN d i 0 else updN d i 9999) (d : Nat → Nat) : ∀ n j, j < n → lp f n d j = if j % 7 = 0 then 0 else 9999 := by
  intro n
  induction n with
  | zero => intro j hj; omega
  | succ n ih =>
    intro j hj
    rw [lp_succ, hf]
    by_cases q : j = n
    · subst q
      split
      · exact updN_s
      · exact updN_s
    · have h := ih j (by omega)
      split
      · rw [updN_n q]; exact h
      · rw [updN_n q]; exact h
theorem sL3_fw : s_L_sums_L3 = fw := by
  funext k d
  unfold s_L_sums_L3 fw
  split <;> rfl
theorem sums_eq (hf : ∀ k, xf k ≤ 36) (hc : ∀ k, xc k ≤ 20) (hS : FS xf xc) (h : FX xf F) (hC : CX xf xc C) (d : Nat → Nat) {a b : Nat} (ha : a < 6) (hb : b < 6) : s_L_sums_xd xf xc d (6 * a + b) = dst (eT F) (tT F) (wC C) a b := by
  have hF := WF_of hf hS h
  have hY := Sym_cab hF (WC_of hf hc hS h hC)
  unfold s_L_sums_xd
  rw [sL3_fw]
  refine ED_done hY (lp_invi (ED (eT F) (tT F) (wC C)) 36 (fun i hi z hz => ?_) _ (ED_0 _ _ _ (lay36 (fun _ _ => rfl) d 36))) ha hb
  have h1 := hf i
  have e6 : (i / 6) * 6 + (xf i - 1) / 6 = 6 * (i / 6) + (xf i - 1) / 6 := by rw [Nat.mul_comm]
  unfold s_L_sums_L2
  rw [e6]
  by_cases q : xf i = 0
  · rw [if_pos q]
    refine ED_put hY hi hz (by omega) (Or.inr ⟨?_, rfl⟩)
    cases g : eT F i
    · rfl
    · exact absurd q ((eT_iff hf h hi).mp g)
  · rw [if_neg q]
    have e1 := (eT_iff hf h hi).mpr q
    have e2 := tT_of hf h hi q
    have e3 := wC_of hc hC hi q
    split
    · rename_i z
      refine ED_put hY hi hz (by omega) (Or.inl ⟨e1, e2.symm, ?_⟩)
      rw [e3]; exact (if_pos z).symm
    · rename_i z
      refine ED_put hY hi hz (by omega) (Or.inl ⟨e1, e2.symm, ?_⟩)
      rw [e3]; exact (if_neg z).symm
/-- what is joined has one root; the root is joined -/
theorem root_same {C' : Nat → Int32} (hF : WF F) (hC : WC F C C') {a b : Nat} (hb : b < 6) (h : dst (eT F) (tT F) (wC C) a b < 9999) : rootN F b = rootN F a := by
  have hY := Sym_cab hF hC
  have same : ∀ s, s < 36 → eT F s = true → rootN F (tT F s) = rootN F (s / 6) := by
    intro s hs he
    have h1 := root_edge hF hs he
    obtain ⟨-, -, j, hj, g1, g2, g3, -⟩ := hY s hs he
    have h2 := root_edge hF hj g1
    rw [g2, g3] at h2
    exact Nat.le_antisymm h1 h2
  have key : (if rootN F b = rootN F a then 0 else 9999) ≤ dst (eT F) (tT F) (wC C) a b := by
    refine dst_great (P := fun v => if rootN F v = rootN F a then 0 else 9999) (fun s hs he => ?_) (fun v hv => ?_) hb
    · show (if rootN F (tT F s) = rootN F a then 0 else 9999) ≤ (if rootN F (s / 6) = rootN F a then 0 else 9999) + _
      rw [same s hs he]
      exact Nat.le_add_right _ _
    · show (if rootN F v = rootN F a then 0 else 9999) ≤ cs9 a v
      unfold cs9
      by_cases q : v = a
      · rw [q, if_pos rfl]; exact Nat.zero_le _
      · rw [if_neg q]; split <;> omega
  by_cases q : rootN F b = rootN F a
  · exact q
  · rw [if_neg q] at key; omega
theorem cost_dst {C' : Nat → Int32} (hF : WF F) (hC : WC F C C') {v : Nat} (hv : v < 6) : dst (eT F) (tT F) (wC C) v (rootN F v) = costN F C v := by
  have hY := Sym_cab hF hC
  have hr : rootN F v < 6 := Nat.lt_of_le_of_lt (root_le F v) hv
  rw [dst_sym hY hv hr]
  have hw : ∀ s, s < 36 → eT F s = true → wC C s ≤ 20 := fun s hs he => (hY s hs he).2.1
  have hds : ∀ s, s < 36 → eT F s = true → tT F s < 6 := fun s hs he => (hY s hs he).1
  have same : ∀ s, s < 36 → eT F s = true → rootN F (tT F s) = rootN F (s / 6) := by
    intro s hs he
    have h1 := root_edge hF hs he
    obtain ⟨-, -, j, hj, g1, g2, g3, -⟩ := hY s hs he
    have h2 := root_edge hF hj g1
    rw [g2, g3] at h2
    exact Nat.le_antisymm h1 h2
  refine Nat.le_antisymm ?_ ?_
  · have h1 : dst (eT F) (tT F) (wC C) (rootN F v) v ≤ bn (eT F) sr6 (tT F) (wC C) (c0 F 9999) 5 v := by
      refine bn_ge (P := fun u => dst (eT F) (tT F) (wC C) (rootN F u) u) (fun s hs _ => sr6_lt hs) (fun s hs he => ?_) (fun u hu => ?_) 5 v hv
      · show dst _ _ _ (rootN F (tT F s)) (tT F s) ≤ dst _ _ _ (rootN F (s / 6)) (s / 6) + wC C s
        rw [same s hs he]
        exact dst_step hds _ hs he
      · show dst _ _ _ (rootN F u) u ≤ c0 F 9999 u
        unfold c0
        split
        · rename_i q; rw [q, dst_self]; exact Nat.le_refl 0
        · exact dst_9 _ _
    have h2 := IRg_bn (E := eT F) (sr := sr6) (ds := tT F) (w := wC C) (x := 1000) (y := 9999) (by decide) (by decide) (fun s hs _ => sr6_lt hs) hw (d1 := c0 F 1000) (d2 := c0 F 9999) (fun u _ => by
      unfold c0
      split
      · exact Or.inl ⟨rfl, by omega⟩
      · exact Or.inr ⟨rfl, rfl⟩) 5 (by decide) v hv
    have h3 := cost_le hF hC hv
    unfold costN at h3 ⊢
    omega
  · refine dst_great (P := costN F C) (fun s hs he => ?_) (fun u hu => ?_) hv
    · exact bn_cl (fun s hs _ => sr6_lt hs) hds (c0 F 1000) hs he
    · unfold cs9
      split
      · rename_i q; rw [q, cost_root (root_root hF hv)]; exact Nat.le_refl 0
      · have := cost_le hF hC hu; omega
theorem root_lp (d : Nat → Nat) {u : Nat} (hu : u < 6) : ∀ n, n ≤ 6 → (∀ o, o < 6 → 6 - n ≤ o → d (6 * u + o) < 9999 → lp (s_L_root_L1 d u) n u ≤ o) ∧ (lp (s_L_root_L1 d u) n u = u ∨ (6 - n ≤ lp (s_L_root_L1 d u) n u ∧ lp (s_L_root_L1 d u) n u < 6 ∧ d (6 * u + lp (s_L_root_L1 d u) n u) < 9999)) := by
  intro n
  induction n with
  | zero => intro _; exact ⟨fun o ho h => by omega, Or.inl rfl⟩
  | succ n ih =>
    intro hn
    obtain ⟨h1, h2⟩ := ih (by omega)
    rw [lp_succ]
    generalize lp (s_L_root_L1 d u) n u = r at h1 h2 ⊢
    unfold s_L_root_L1
    by_cases q : 9999 ≤ d (6 * u + (5 - n))
    · rw [if_pos q]
      refine ⟨fun o ho h hd => ?_, ?_⟩
      · by_cases e : o = 5 - n
        · rw [e] at hd; omega
        · exact h1 o ho (by omega) hd
      · rcases h2 with e | ⟨e1, e2, e3⟩
        · exact Or.inl e
        · exact Or.inr ⟨by omega, e2, e3⟩
    · rw [if_neg q]
      exact ⟨fun o ho h hd => by omega, Or.inr ⟨by omega, by omega, by omega⟩⟩
theorem root_eq {C' : Nat → Int32} (hF : WF F) (hC : WC F C C') {d : Nat → Nat} (hd : ∀ a b, a < 6 → b < 6 → d (6 * a + b) = dst (eT F) (tT F) (wC C) a b) {u : Nat} (hu : u < 6) : s_L_root d u = rootN F u := by
  obtain ⟨h1, h2⟩ := root_lp d hu 6 (Nat.le_refl 6)
  unfold s_L_root
  generalize lp (s_L_root_L1 d u) 6 u = r at h1 h2
  have hr := root_le F u
  have h3 : r ≤ rootN F u := by
    refine h1 (rootN F u) (by omega) (by omega) ?_
    rw [hd u _ hu (by omega), cost_dst hF hC hu]
    have := cost_le hF hC hu
    omega
  refine Nat.le_antisymm h3 ?_
  rcases h2 with e | ⟨-, e2, e3⟩
  · rw [e]; exact hr
  · rw [hd u r hu e2] at e3
    rw [← root_same hF hC e2 e3]
    exact root_le F r
end PIC
