section LY
variable {U T F C WU : Nat → Int32} {TR : Int32}
theorem sm_neg (f : Nat → Int32) : ∀ n, sm (fun i => - f i) n = - sm f n := by
  intro n
  induction n with
  | zero => show (0 : Int32) = - (0 : Int32); decide
  | succ n ih =>
    show sm (fun i => - f i) n + - f n = - (sm f n + f n)
    rw [ih, Int32.neg_add, Int32.sub_eq_add_neg]
def gw (U T F WU : Nat → Int32) (TR : Int32) (s : Nat) : Int32 := if s_X0_hasLiveCable F WU TR (nI s) = 0 then 0 else (if xAt 36 F (nI s) ≤ nI s then 0 else s_X0_waysOver U T (nI s) (xAt 36 F (nI s)))
def gy (U T F WU : Nat → Int32) (TR : Int32) (p i : Nat) : Int32 := if s_X0_hasLiveCable F WU TR (nI (p / 16 * 6 + i)) = 0 then 0 else (if xAt 36 F (nI (p / 16 * 6 + i)) ≤ nI (p / 16 * 6 + i) then 0 else (if s_X0_laneBeyond U T F (nI (p / 16 * 6 + i)) (nI (p % 16)) = -1 then 0 else 1))
def gu (U T : Nat → Int32) (p : Nat) : Int32 := if s_X0_isUsed U T (nI (p / 16)) (nI (p % 16)) = 0 then 0 else 1
def gp (U T F WU : Nat → Int32) (TR : Int32) (p : Nat) : Int32 := if p % 16 = 0 then 0 else - gu U T p + sm (gy U T F WU TR p) 6
theorem ways_sm : s_X0_countWays U T F WU TR = sm (gw U T F WU TR) 36 := by
  unfold s_X0_countWays
  rw [lp_sm (g := gw U T F WU TR) 36 (fun i hi z => ?_), Int32.zero_add]
  unfold s_X0_countWays_L1 gw
  split
  · exact (Int32.add_zero z).symm
  · split
    · exact (Int32.add_zero z).symm
    · rfl
theorem used_sm : s_X0_countUsedPlaces U T = sm (fun u => sm (fun l => gu U T (16 * u + (1 + l))) 15) 6 := by
  unfold s_X0_countUsedPlaces
  rw [lp_sm (g := fun u => sm (fun l => gu U T (16 * u + (1 + l))) 15) 6 (fun u hu z => ?_), Int32.zero_add]
  unfold s_X0_countUsedPlaces_L1
  refine lp_sm 15 (fun l hl z => ?_) z
  unfold s_X0_countUsedPlaces_L2 gu
  rw [show (16 * u + (1 + l)) / 16 = u by omega, show (16 * u + (1 + l)) % 16 = l + 1 by omega]
  split
  · exact (Int32.add_zero z).symm
  · rfl
theorem gy_sum (hF : WF F) (hU : WU_ U) (hT : WT_ U T) {u i : Nat} (hu : u < 6) (hi : i < 6) : sm (fun l => gy U T F WU TR (16 * u + (1 + l)) i) 15 = gw U T F WU TR (6 * u + i) := by
  have hs : 6 * u + i < 36 := by omega
  have e : ∀ l, l < 15 → gy U T F WU TR (16 * u + (1 + l)) i = if s_X0_hasLiveCable F WU TR (nI (6 * u + i)) = 0 then 0 else (if xAt 36 F (nI (6 * u + i)) ≤ nI (6 * u + i) then 0 else (if s_X0_laneBeyond U T F (nI (6 * u + i)) (nI (l + 1)) = -1 then 0 else 1)) := by
    intro l hl
    unfold gy
    rw [show (16 * u + (1 + l)) / 16 * 6 + i = 6 * u + i by omega, show (16 * u + (1 + l)) % 16 = l + 1 by omega]
  rw [sm_congr 15 e]
  unfold gw
  by_cases q : s_X0_hasLiveCable F WU TR (nI (6 * u + i)) = 0
  · rw [if_pos q, sm_congr 15 (g := fun _ => 0) (fun l _ => if_pos q), sm_zero]
  · rw [if_neg q, sm_congr 15 (fun l _ => if_neg q)]
    by_cases q2 : xAt 36 F (nI (6 * u + i)) ≤ nI (6 * u + i)
    · rw [if_pos q2, sm_congr 15 (g := fun _ => 0) (fun l _ => if_pos q2), sm_zero]
    · rw [if_neg q2, sm_congr 15 (fun l _ => if_neg q2)]
      rcases hF _ hs with z | ⟨j, hj, z, -, -⟩
      · exact absurd (live_0 hs z) q
      · rw [lane_sum hU hT hs hj z, xAt_nI hs (by decide), z]
theorem gp_sum (hF : WF F) (hU : WU_ U) (hT : WT_ U T) : sm (gp U T F WU TR) 96 = s_X0_countWays U T F WU TR - s_X0_countUsedPlaces U T := by
  rw [ways_sm, used_sm, show (96 : Nat) = 16 * 6 from rfl, sm_mul, show (36 : Nat) = 6 * 6 from rfl, sm_mul (gw U T F WU TR)]
  have e : ∀ u, u < 6 → sm (fun i => gp U T F WU TR (16 * u + i)) 16 = - sm (fun l => gu U T (16 * u + (1 + l))) 15 + sm (fun i => gw U T F WU TR (6 * u + i)) 6 := by
    intro u hu
    rw [show (16 : Nat) = 1 + 15 from rfl, sm_app]
    have e0 : sm (fun i => gp U T F WU TR ((1 + 15) * u + i)) 1 = 0 := by
      show (0 : Int32) + gp U T F WU TR ((1 + 15) * u + 0) = 0
      unfold gp
      rw [if_pos (by omega)]
      rfl
    have e1 : ∀ l, l < 15 → gp U T F WU TR ((1 + 15) * u + (1 + l)) = - gu U T (16 * u + (1 + l)) + sm (gy U T F WU TR (16 * u + (1 + l))) 6 := by
      intro l hl
      unfold gp
      rw [if_neg (by omega)]
    rw [e0, Int32.zero_add, sm_congr 15 e1, sm_add, sm_neg, sm_swap, sm_congr 6 (fun i hi => gy_sum hF hU hT hu hi)]
  rw [sm_congr 6 e, sm_add, sm_neg, Int32.add_comm, Int32.sub_eq_add_neg]
/-- both count the same loops -/
theorem loops_eq (hF : WF F) (hU : WU_ U) (hT : WT_ U T) (hW : ∀ RO WY SU v, v < 6 → s_X1_layTree_WY F C RO WY SU v = WU v) (ST' RP' RO WY SU ST QU : Nat → Int32) (QN : Int32) : s_X1_loops U T F C TR RO WY SU ST QU QN = s_X0_loops U T F WU ST' RP' TR := by
  unfold s_X1_loops s_X0_loops
  rw [islands_eq (TR := TR) hF hU hT hW ST' RP', ← gp_sum hF hU hT, Int32.add_comm]
  rw [lp_sm (g := gp U T F WU TR) 96 (fun p hp z => ?_), Int32.add_comm]
  have hy : ∀ z, lp (s_X1_loops_L2 U T F C TR RO WY SU ST QU QN p) 6 z = z + sm (gy U T F WU TR p) 6 := by
    refine lp_sm 6 (fun i hi z => ?_)
    have hs : p / 16 * 6 + i < 36 := by omega
    unfold s_X1_loops_L2 gy
    rw [m16 hp, d16 hp, slot16, live_eq hF (hW _ _ _) hs]
    by_cases q : s_X0_hasLiveCable F WU TR (nI (p / 16 * 6 + i)) = 0
    · rw [if_pos q, if_pos q]
    · rw [if_neg q, if_neg q]
      have hne : ¬ F (p / 16 * 6 + i) = -1 := fun z => q (live_0 hs z)
      rw [carried_eq hF hU hT hs (Nat.mod_lt _ (by decide)) hne]
      split
      · rfl
      · split <;> rfl
  unfold s_X1_loops_L1 gp
  rw [hy, hy, m16 hp]
  by_cases q : p % 16 = 0
  · rw [if_pos q, q, if_pos (show nI 0 ≤ (0 : Int32) by decide), if_pos (show nI 0 ≤ (0 : Int32) by decide)]
    rcases used1 (T := T) hT hp with ⟨u1, -⟩ | ⟨-, u2⟩
    · rw [u1, if_pos rfl, Int32.sub_zero, Int32.add_zero]
    · have := u2.2; omega
  · rw [if_neg q, if_neg (nI_nle (by omega) (by omega)), if_neg (nI_nle (by omega) (by omega))]
    have hu := used0 (U := U) (T := T) hp
    unfold gu
    rcases used1 (T := T) hT hp with ⟨u1, u2⟩ | ⟨u1, u2⟩
    · rw [u1, if_pos rfl, if_pos (hu.mpr (fun z => u2 ⟨z, by omega⟩)), ← Int32.add_assoc, Int32.sub_eq_add_neg]
    · rw [u1, if_neg (show ¬ (1 : Int32) = 0 by decide), if_neg (fun z => hu.mp z u2.1), ← Int32.add_assoc, Int32.sub_eq_add_neg]
end LY
