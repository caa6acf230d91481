/-! changes over one cable: the two questions alike -/
section CH
variable {U T F WU : Nat → Int32} {TR : Int32}
theorem ch_or (hF : WF F) (hT : WT_ U T) {s l : Nat} (hs : s < 36) (hl : l < 16) (hL : ¬ s_X0_hasLiveCable F WU TR (nI s) = 0) : (s_X0_changesOver U T F WU TR (nI s) (nI l) = -1 ∧ s_X1_changesAt U T F (nI s) (nI l) = 1000000) ∨ ∃ c, c ≤ 2 ∧ s_X0_changesOver U T F WU TR (nI s) (nI l) = nI c ∧ s_X1_changesAt U T F (nI s) (nI l) = nI c := by
  rcases hF s hs with z | ⟨j, hj, eF, -, -⟩
  · exact absurd (live_0 hs z) hL
  · unfold s_X0_changesOver s_X1_changesAt
    rw [if_neg hL, xAt_nI (f := F) hs (by decide), eF, xAt_nI (f := U) hs (by decide), xAt_nI (f := U) hj (by decide), tag_eq hT hs hl, tag_eq hT hj hl]
    by_cases q1 : U s = nI l
    · rw [if_pos q1, if_pos q1, q1]
      by_cases q2 : U j = nI l
      · rw [if_pos q2, if_pos q2.symm]
        exact Or.inr ⟨0, by decide, rfl, rfl⟩
      · rw [if_neg q2, if_neg (fun z => q2 z.symm)]
        exact Or.inl ⟨rfl, rfl⟩
    · rw [if_neg q1, if_neg q1]
      by_cases q2 : U j = nI l
      · rw [if_pos q2, if_pos q2, q2, if_neg q1]
        exact Or.inl ⟨rfl, rfl⟩
      · rw [if_neg q2, if_neg q2]
        refine Or.inr ?_
        split
        · split
          · exact ⟨2, by decide, rfl, rfl⟩
          · exact ⟨1, by decide, rfl, rfl⟩
        · split
          · exact ⟨1, by decide, rfl, rfl⟩
          · exact ⟨0, by decide, rfl, rfl⟩
theorem ch_sym {s j : Nat} {L : Int32} (hs : s < 36) (hj : j < 36) (e1 : F s = nI j) (e2 : F j = nI s) : s_X0_changesOver U T F WU TR (nI s) L = s_X0_changesOver U T F WU TR (nI j) L := by
  unfold s_X0_changesOver
  rw [xAt_nI (f := F) hs (by decide), xAt_nI (f := F) hj (by decide), e1, e2]
  by_cases q : s_X0_hasLiveCable F WU TR (nI s) = 0
  · by_cases q2 : s_X0_hasLiveCable F WU TR (nI j) = 0
    · rw [if_pos q, if_pos q2]
    · exact absurd q (live_sym hj hs e2 e1 q2)
  · rw [if_neg q, if_neg (live_sym hs hj e1 e2 q)]
    by_cases a : xAt 36 U (nI s) = L
    · by_cases b : xAt 36 U (nI j) = L
      · rw [if_pos a, if_pos b, if_pos b, if_pos a]
      · rw [if_pos a, if_neg b, if_neg b, if_pos a]
    · by_cases b : xAt 36 U (nI j) = L
      · rw [if_neg a, if_pos b, if_pos b, if_neg a]
      · rw [if_neg a, if_neg b, if_neg b, if_neg a]
        by_cases c : s_X0_isTagged T (nI s) L = 0
        · by_cases d : s_X0_isTagged T (nI j) L = 0
          · rw [if_pos c, if_pos d, if_pos d, if_pos c]
          · rw [if_pos c, if_neg d, if_neg d, if_pos c]; rfl
        · by_cases d : s_X0_isTagged T (nI j) L = 0
          · rw [if_neg c, if_pos d, if_pos d, if_neg c]; rfl
          · rw [if_neg c, if_neg d, if_neg d, if_neg c]
/-- a cable that counts for the lane, and its changes -/
def cE (U T F WU : Nat → Int32) (TR : Int32) (l s : Nat) : Bool := decide (¬ s_X0_changesOver U T F WU TR (nI s) (nI l) = -1)
def cW (U T F WU : Nat → Int32) (TR : Int32) (l s : Nat) : Nat := (s_X0_changesOver U T F WU TR (nI s) (nI l)).toNatClampNeg
theorem c2_sim (hF : WF F) (hT : WT_ U T) {C RO WY SU : Nat → Int32} (hW : ∀ RO WY SU v, v < 6 → s_X1_layTree_WY F C RO WY SU v = WU v) {l : Nat} (hl : l < 16) {unit port : Int32} (eL : xAt 36 U (6 * unit + port) = nI l) {k : Nat} (hk : k < 216) {S : Nat → Int32} {d : Nat → Nat} (h : SM S d) : SM (s_X1_changes_L2 U T F C TR RO WY SU unit port k S) (gT F (cE U T F WU TR l) (cW U T F WU TR l) (k % 36) d) := by
  unfold s_X1_changes_L2 gT
  rw [rem36 hk, eL]
  have ht : k % 36 < 36 := Nat.mod_lt _ (by decide)
  generalize k % 36 = t at ht ⊢
  have a1 := SM_at h (show t / 6 < 6 by omega)
  have b2 := (h (t / 6) (by omega)).2
  rw [xAt_nI ht (by decide), nI_d6 ht, a1, live_eq hF (hW _ _ _) ht]
  have c0 : (if nI (d (t / 6)) ≤ 1000000 then xPut 6 S (nI (t / 6)) (nI (d (t / 6))) else xPut 6 S (nI (t / 6)) 1000000) = xPut 6 S (nI (t / 6)) (nI (d (t / 6))) := if_pos ((nI_leI (b := 1000000) (by omega) (by decide)).mpr b2)
  rcases hF t ht with h1 | ⟨j, hj, h1, h2, -⟩
  · rw [if_pos (live_0 ht h1), if_pos h1, c0]
    exact SM_self h (by omega)
  · have a2 := SM_at h (show j / 6 < 6 by omega)
    have b1 := (h (j / 6) (by omega)).2
    rw [h1, if_neg (nI_m1 (show j < 2 ^ 31 by omega)), nI_d6 hj, a2, nI_clamp (by omega)]
    have sy := ch_sym (U := U) (T := T) (WU := WU) (TR := TR) (L := nI l) ht hj h1 h2
    unfold rx
    by_cases q0 : s_X0_hasLiveCable F WU TR (nI t) = 0
    · have e : s_X0_changesOver U T F WU TR (nI t) (nI l) = -1 := by unfold s_X0_changesOver; rw [if_pos q0]
      rw [if_pos q0, c0, if_neg (fun z => by have := of_decide_eq_true z.1; exact this (sy.symm.trans e))]
      exact SM_self h (by omega)
    · rw [if_neg q0]
      rcases ch_or hF hT ht hl q0 with ⟨e1, e2⟩ | ⟨c, hc, e1, e2⟩
      · rw [e2, show (1000000 : Int32) = nI 1000000 from rfl, nI_add, if_pos ((nI_leI (by omega) (by omega)).mpr (by omega)), if_neg (fun z => by have := of_decide_eq_true z.1; exact this (sy.symm.trans e1))]
        exact SM_self h (by omega)
      · have w1 : cW U T F WU TR l j = c := by unfold cW; rw [← sy, e1, nI_clamp (by omega)]
        have w2 : cE U T F WU TR l j = true := by unfold cE; rw [← sy, e1]; exact decide_eq_true (nI_m1 (by omega))
        rw [e2, nI_add, tT_eq ht h2, w1, w2]
        by_cases q : d (t / 6) ≤ d (j / 6) + c
        · rw [if_pos ((nI_leI (by omega) (by omega)).mpr q), if_neg (by show ¬ (_ ∧ d (j / 6) + c < _); omega)]
          exact SM_self h (by omega)
        · rw [if_neg (fun z => q ((nI_leI (by omega) (by omega)).mp z)), if_pos ⟨rfl, by show d (j / 6) + c < _; omega⟩]
          exact SM_put h (by omega) (by show d (j / 6) + c ≤ _; omega)
theorem cE_1 (hF : WF F) (hT : WT_ U T) {l s : Nat} (hl : l < 16) (hs : s < 36) (he : cE U T F WU TR l s = true) : ¬ F s = -1 ∧ s_X0_changesOver U T F WU TR (nI s) (nI l) = nI (cW U T F WU TR l s) ∧ cW U T F WU TR l s ≤ 20 := by
  have h := of_decide_eq_true he
  by_cases q : s_X0_hasLiveCable F WU TR (nI s) = 0
  · exact absurd (by unfold s_X0_changesOver; rw [if_pos q]) h
  · refine ⟨fun z => q (live_0 hs z), ?_⟩
    rcases ch_or hF hT hs hl q with ⟨e1, -⟩ | ⟨c, hc, e1, -⟩
    · exact absurd e1 h
    · unfold cW
      rw [e1, nI_clamp (by omega)]
      exact ⟨rfl, by omega⟩
theorem chX (hF : WF F) (hT : WT_ U T) {l : Nat} (hl : l < 16) {W : Nat → Int32} (hW : ∀ s, s < 36 → W s = s_X0_changesOver U T F WU TR (nI s) (nI l)) : EX F W (cE U T F WU TR l) (tT F) (cW U T F WU TR l) := by
  intro s hs
  by_cases he : cE U T F WU TR l s = true
  · obtain ⟨h1, h2, h3⟩ := cE_1 hF hT hl hs he
    rcases hF s hs with z | ⟨j, hj, z, -, -⟩
    · exact absurd z h1
    · exact Or.inl ⟨he, j, hj, z, tT_eq hj z, by rw [hW s hs, h2], h3⟩
  · refine Or.inr ⟨by simpa using he, Or.inr ?_⟩
    rw [hW s hs]
    by_cases q : s_X0_changesOver U T F WU TR (nI s) (nI l) = -1
    · exact q
    · exact absurd (decide_eq_true q) he
theorem chW {unit port : Int32} {l : Nat} (eL : xAt 36 U (s_X0_slotOf unit port) = nI l) (WT : Nat → Int32) : ∀ s, s < 36 → lp (s_X0_changes_L1 U T F WU TR unit port) 36 WT s = s_X0_changesOver U T F WU TR (nI s) (nI l) := by
  have key : ∀ n, n ≤ 36 → ∀ s, s < n → lp (s_X0_changes_L1 U T F WU TR unit port) n WT s = s_X0_changesOver U T F WU TR (nI s) (nI l) := by
    intro n
    induction n with
    | zero => intro _ s hs; omega
    | succ n ih =>
      intro hn s hs
      rw [lp_succ]
      generalize lp (s_X0_changes_L1 U T F WU TR unit port) n WT = Z at ih
      unfold s_X0_changes_L1
      rw [eL, xPut_nI (by omega) (by decide)]
      by_cases q : s = n
      · subst q; rw [pk_us]
      · rw [pk_un q]; exact ih (by omega) s (by omega)
  exact key 36 (Nat.le_refl 36)
def cs (u x v : Nat) : Nat := if v = u then 0 else x
/-- both settle at the same sums, but for what stands for 'not reached' -/
theorem ch_eq (hF : WF F) (hT : WT_ U T) {C RO WY SU : Nat → Int32} (hY : ∀ RO WY SU v, v < 6 → s_X1_layTree_WY F C RO WY SU v = WU v) {l : Nat} (hl : l < 16) {unit port : Int32} (eX : xAt 36 U (s_X0_slotOf unit port) = nI l) (eY : xAt 36 U (6 * unit + port) = nI l) {u : Nat} (hu : u < 6) (eu : unit = nI u) (WT SU0 FE : Nat → Int32) {o : Nat} (ho : o < 6) : (if xAt 6 (s_X0_leastSums F (xPut 6 (xFill SU0 1000 6) unit 0) (lp (s_X0_changes_L1 U T F WU TR unit port) 36 WT)) (nI o) = 1000 then (-1 : Int32) else xAt 6 (s_X0_leastSums F (xPut 6 (xFill SU0 1000 6) unit 0) (lp (s_X0_changes_L1 U T F WU TR unit port) 36 WT)) (nI o)) = (if xAt 6 (lp (s_X1_changes_L2 U T F C TR RO WY SU unit port) 216 (lp (s_X1_changes_L1 unit) 6 FE)) (nI o) = 1000000 then (-1) else xAt 6 (lp (s_X1_changes_L2 U T F C TR RO WY SU unit port) 216 (lp (s_X1_changes_L1 unit) 6 FE)) (nI o)) := by
  have sX : SM (xPut 6 (xFill SU0 1000 6) unit 0) (cs u 1000) := by
    intro v hv
    rw [eu, xPut_nI hu (by decide)]
    unfold cs
    by_cases q : v = u
    · subst q; rw [pk_us, if_pos rfl]; exact ⟨rfl, by decide⟩
    · rw [pk_un q, if_neg q]
      unfold xFill
      rw [if_pos hv]
      exact ⟨rfl, by decide⟩
  have hX := least_sim (chX hF hT hl (chW (T := T) (F := F) (WU := WU) (TR := TR) eX WT)) sX
  have hY1 : SM (lp (s_X1_changes_L2 U T F C TR RO WY SU unit port) 216 (lp (s_X1_changes_L1 unit) 6 FE)) (lp (fun k => gT F (cE U T F WU TR l) (cW U T F WU TR l) (k % 36)) 216 (cs u 1000000)) := by
    refine lp_rel SM 216 (fun k hk a b hab => c2_sim hF hT hY hl eY hk hab) _ _ (lay6 (x := cs u 1000000) (fun i hi S => ?_) (fun i hi => ?_) FE)
    · unfold s_X1_changes_L1 cs
      rw [eu]
      by_cases q : i = u
      · rw [if_pos (by rw [q]), if_pos q]; rfl
      · rw [if_neg (fun z => q ((nI_eq (by omega) (by omega)).mp z)), if_neg q]; rfl
    · unfold cs; split <;> omega
  have hY2 : lp (fun k => gT F (cE U T F WU TR l) (cW U T F WU TR l) (k % 36)) 216 (cs u 1000000) o = bn (cE U T F WU TR l) sr6 (tT F) (cW U T F WU TR l) (cs u 1000000) 5 o := by
    rw [lp_36 (g := gT F (cE U T F WU TR l) (cW U T F WU TR l)) (fun k s _ => rfl), gT_settle hF (fun s hs he => (cE_1 hF hT hl hs he).1) _ ho]
  have h2 := IR_bn (E := cE U T F WU TR l) (sr := sr6) (ds := tT F) (w := cW U T F WU TR l) (d1 := cs u 1000) (d2 := cs u 1000000) (fun s hs _ => sr6_lt hs) (fun s hs he => (cE_1 hF hT hl hs he).2.2) (fun v _ => by
    unfold cs
    by_cases q : v = u
    · rw [if_pos q, if_pos q]; exact Or.inl ⟨rfl, by omega⟩
    · rw [if_neg q, if_neg q]; exact Or.inr ⟨rfl, rfl⟩) 5 (by decide) o ho
  rw [SM_at hX ho, SM_at hY1 ho, hY2]
  generalize bn (cE U T F WU TR l) sr6 (tT F) (cW U T F WU TR l) (cs u 1000) 5 o = a at h2
  generalize bn (cE U T F WU TR l) sr6 (tT F) (cW U T F WU TR l) (cs u 1000000) 5 o = b at h2
  rcases h2 with ⟨h3, h4⟩ | ⟨h3, h4⟩
  · subst h3
    rw [if_neg (fun z => by have := (nI_eq (a := a) (b := 1000) (by omega) (by decide)).mp z; omega), if_neg (fun z => by have := (nI_eq (a := a) (b := 1000000) (by omega) (by decide)).mp z; omega)]
  · rw [h3, h4, if_pos (show nI 1000 = 1000 from rfl), if_pos (show nI 1000000 = 1000000 from rfl)]
end CH
