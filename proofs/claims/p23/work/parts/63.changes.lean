/-! changes over one cable: the two questions alike -/
section CH
variable {U T F WU : Nat → Int32} {TR : Int32}
theorem ch_sym {s j : Nat} {L : Int32} (hs : s < 36) (hj : j < 36) (e1 : F s = nI j) (e2 : F j = nI s) : s_X0_changesOver U T F WU TR (nI s) L = s_X0_changesOver U T F WU TR (nI j) L := by
  unfold s_X0_changesOver
  rw [xAt_nI (f := F) hs (by decide), xAt_nI (f := F) hj (by decide), e1, e2]
  by_cases q : s_X0_hasLiveCable F WU TR (nI s) = 0
  · by_cases q2 : s_X0_hasLiveCable F WU TR (nI j) = 0
    · rw [if_pos q, if_pos q2]
    · exact absurd q (live_sym hj hs e2 e1 q2)
  · rw [if_neg q, if_neg (live_sym hs hj e1 e2 q)]
    by_cases a : xAt 36 U (nI s) = L
    · by_cases b : xAt 36 U (nI j) = L
      · rw [if_pos a, if_pos b, if_pos b, if_pos a]
      · rw [if_pos a, if_neg b, if_neg b, if_pos a]
    · by_cases b : xAt 36 U (nI j) = L
      · rw [if_neg a, if_pos b, if_pos b, if_neg a]
      · rw [if_neg a, if_neg b, if_neg b, if_neg a]
        by_cases c : s_X0_isTagged T (nI s) L = 0
        · by_cases d : s_X0_isTagged T (nI j) L = 0
          · rw [if_pos c, if_pos d, if_pos d, if_pos c]
          · rw [if_pos c, if_neg d, if_neg d, if_pos c]; rfl
        · by_cases d : s_X0_isTagged T (nI j) L = 0
          · rw [if_neg c, if_pos d, if_pos d, if_neg c]; rfl
          · rw [if_neg c, if_neg d, if_neg d, if_neg c]
/-- a cable that counts for the lane, and its changes -/
def cE (U T F WU : Nat → Int32) (TR : Int32) (l s : Nat) : Bool := decide (¬ s_X0_changesOver U T F WU TR (nI s) (nI l) = -1)
def cW (U T F WU : Nat → Int32) (TR : Int32) (l s : Nat) : Nat := (s_X0_changesOver U T F WU TR (nI s) (nI l)).toNatClampNeg
theorem chW {unit port : Int32} {l : Nat} (eL : xAt 36 U (s_X0_slotOf unit port) = nI l) (WT : Nat → Int32) : ∀ s, s < 36 → lp (s_X0_changes_L1 U T F WU TR unit port) 36 WT s = s_X0_changesOver U T F WU TR (nI s) (nI l) := by
  have key : ∀ n, n ≤ 36 → ∀ s, s < n → lp (s_X0_changes_L1 U T F WU TR unit port) n WT s = s_X0_changesOver U T F WU TR (nI s) (nI l) := by
    intro n
    induction n with
    | zero => intro _ s hs; omega
    | succ n ih =>
      intro hn s hs
      rw [lp_succ]
      generalize lp (s_X0_changes_L1 U T F WU TR unit port) n WT = Z at ih
      unfold s_X0_changes_L1
      rw [eL, xPut_nI (by omega) (by decide)]
      by_cases q : s = n
      · subst q; rw [pk_us]
      · rw [pk_un q]; exact ih (by omega) s (by omega)
  exact key 36 (Nat.le_refl 36)
def cs (u x v : Nat) : Nat := if v = u then 0 else x
end CH
