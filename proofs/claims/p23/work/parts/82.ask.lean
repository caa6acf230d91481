/-! WHAT THE CLASS ANSWERS, told by the law's rows -/
def LIs (xu xt xf xc xb xn : Nat → Nat) : Prop := (∀ k, xu k ≤ 15) ∧ (∀ k, xt k < 65536) ∧ (∀ k, xf k ≤ 36) ∧ (∀ k, xc k ≤ 20) ∧ (∀ k, xb k ≤ 36) ∧ (∀ k, xn k ≤ 18) ∧ xn 1 ≤ 1 ∧ TG xu xt ∧ FS xf xc ∧ fb_ct (fun k => decide (¬ xf k = 0)) 36 = 2 * xn 0
def PX (xf xc xb : Nat → Nat) (F C B RU RC WU : Nat → Int32) : Prop := FX xf F ∧ CX xf xc C ∧ BX xb B ∧ SM RU (rootN F) ∧ SM RC (costN F C) ∧ ∀ v, v < 6 → WU v = s_X0_bestWayUp F C RC (nI v)
/-- the class's object, in the picture of the law's rows -/
def WQ (cI : ClassId) (ad : Nat → Nat) (xu xt xf xc xb xn : Nat → Nat) (wx : va_W) : Prop := ∃ (F C B RU RC WU ST RP : Nat → Int32) (RN : Int32) (WT SS : Nat → Int32), wx = wX cI ad (nA xu) (nA xt) F C B RU RC WU ST RP RN WT SS (nI (xn 0)) (nI (xn 1)) ∧ PX xf xc xb F C B RU RC WU
theorem WQ.x0 {cI : ClassId} {ad : Nat → Nat} {xu xt xf xc xb xn : Nat → Nat} {wx : va_W} (h : WQ cI ad xu xt xf xc xb xn wx) : ∃ fs, wx[0]? = some (ad 0, .inr (0, fs)) := by
  obtain ⟨F, C, B, RU, RC, WU, ST, RP, RN, WT, SS, rfl, -⟩ := h
  exact ⟨_, rfl⟩
abbrev D0 (xf xc : Nat → Nat) : Nat → Nat := s_L_sums_xd xf xc (fun _ => 0)
theorem okU_nI {u : Nat} (h : u < 6) : okU (nI u) := ⟨nI_pos (by omega), nI_lt h (by decide)⟩
theorem okL_nI {u : Nat} (h1 : 1 ≤ u) (h : u < 16) : okL (nI u) := ⟨nI_nlt (b := 1) h1 (by omega), nI_le (b := 15) (by omega) (by decide)⟩
theorem slot_nI (u p : Nat) : s_X0_slotOf (nI u) (nI p) = nI (6 * u + p) := by
  unfold s_X0_slotOf
  rw [slotX, Nat.add_comm]
theorem slot_k (k : Nat) : s_X0_slotOf (nI (k / 6)) (nI (k % 6)) = nI k := by
  rw [slot_nI, Nat.div_add_mod]
theorem place_nI (u p : Nat) : s_X0_placeOf (nI u) (nI p) = nI (16 * u + p) := by
  unfold s_X0_placeOf
  rw [show (16 : Int32) = nI 16 from rfl, pk_mul, nI_add, Nat.mul_comm]
theorem tr01 {x : Nat} (h : x ≤ 1) : nI x = 0 ∨ nI x = 1 := by
  rcases (show x = 0 ∨ x = 1 by omega) with e | e
  · rw [e]; exact Or.inl rfl
  · rw [e]; exact Or.inr rfl
theorem PK {xu xt xf xc xb xn : Nat → Nat} {F C B RU RC WU : Nat → Int32} (h : LIs xu xt xf xc xb xn) (hx : PX xf xc xb F C B RU RC WU) : WF F ∧ WC F C C ∧ LV F WU (nI (xn 1)) (s_L_live xn xf xc) ∧ (∀ a b, a < 6 → b < 6 → D0 xf xc (6 * a + b) = dst (eT F) (tT F) (wC C) a b) ∧ ∀ v, v < 6 → WU v = wv v (s_L_way xf xc (D0 xf xc) v) := by
  obtain ⟨hu, ht, hf, hc, hb, hn, hn1, hG, hS, -⟩ := h
  obtain ⟨hX, hC, hB, h1, h2, h3⟩ := hx
  have hF := WF_of hf hS hX
  have hW := WC_of hf hc hS hX hC
  have hd : ∀ a b, a < 6 → b < 6 → D0 xf xc (6 * a + b) = dst (eT F) (tT F) (wC C) a b := fun a b ha hb => sums_eq hf hc hS hX hC _ ha hb
  have hw : ∀ v, v < 6 → WU v = wv v (s_L_way xf xc (D0 xf xc) v) := fun v hv => (h3 v hv).trans (way_of hf hc hS hX hC h2 hd hv)
  refine ⟨hF, hW, fun k hk => ?_, hd, hw⟩
  rw [live_bit hk, on_eq (xn := xn) hf hX hn1 hw hk]
  refine not_congr ⟨fun z => by rw [z]; rfl, fun z => ?_⟩
  have := le_isOn (xn := xn) (xf := xf) (xc := xc) (xd := s_L_sums_xd xf xc (fun _ => 0)) (at9 := k)
  exact (nI_eq0 (by omega)).mp z
theorem p_far (l : Launch) (D : va_G) {cI : ClassId} {ad : Nat → Nat} {xu xt xf xc xb xn : Nat → Nat} {wx : va_W} (h : LIs xu xt xf xc xb xn) (hw : WQ cI ad xu xt xf xc xb xn wx) {k : Nat} (hk : k < 36) : Ki l yX0_far wsX0_far 2 41 0 0 D (TI cI) [.ref (ad 0), .int (nI (k / 6)), .int (nI (k % 6))] wx wx (if xf k = 0 then -1 else nI ((xf k - 1) / 6 * 10 + (xf k - 1) % 6)) := by
  obtain ⟨F, C, B, RU, RC, WU, ST, RP, RN, WT, SS, rfl, hx⟩ := hw
  obtain ⟨hF, hW, hL, hd, hwv⟩ := PK h hx
  obtain ⟨hu, ht, hf, hc, hb, hn, hn1, hG, hS, hct⟩ := id h
  obtain ⟨hX, hC, hB, h1, h2, h3⟩ := id hx
  have kk := k_X0_far l D cI ad (nA xu) (nA xt) F C B RU RC WU ST RP RN WT SS (nI (xn 0)) (nI (xn 1)) (nI (k / 6)) (nI (k % 6)) (okU_nI (by omega)) (okU_nI (by omega))
  rw [s_X0_far, slot_k, far_nI hf hX hk] at kk
  exact kk
theorem p_wrong (l : Launch) (D : va_G) {cI : ClassId} {ad : Nat → Nat} {xu xt xf xc xb xn : Nat → Nat} {wx : va_W} (h : LIs xu xt xf xc xb xn) (hw : WQ cI ad xu xt xf xc xb xn wx)  : Ki l yX0_wrong wsX0_wrong 1 21 0 0 D (TI cI) [.ref (ad 0)] wx wx (nI (lp (wrF xf xb) 36 0)) := by
  obtain ⟨F, C, B, RU, RC, WU, ST, RP, RN, WT, SS, rfl, hx⟩ := hw
  obtain ⟨hF, hW, hL, hd, hwv⟩ := PK h hx
  obtain ⟨hu, ht, hf, hc, hb, hn, hn1, hG, hS, hct⟩ := id h
  obtain ⟨hX, hC, hB, h1, h2, h3⟩ := id hx
  have kk := k_X0_wrong l D cI ad (nA xu) (nA xt) F C B RU RC WU ST RP RN WT SS (nI (xn 0)) (nI (xn 1))
  rw [wrong_nI hf hb hX hB] at kk
  exact kk
theorem p_root (l : Launch) (D : va_G) {cI : ClassId} {ad : Nat → Nat} {xu xt xf xc xb xn : Nat → Nat} {wx : va_W} (h : LIs xu xt xf xc xb xn) (hw : WQ cI ad xu xt xf xc xb xn wx) {u : Nat} (hU : u < 6) : Ki l yX0_root wsX0_root 1 21 0 0 D (TI cI) [.ref (ad 0), .int (nI u)] wx wx (nI (s_L_root (D0 xf xc) u)) := by
  obtain ⟨F, C, B, RU, RC, WU, ST, RP, RN, WT, SS, rfl, hx⟩ := hw
  obtain ⟨hF, hW, hL, hd, hwv⟩ := PK h hx
  obtain ⟨hu, ht, hf, hc, hb, hn, hn1, hG, hS, hct⟩ := id h
  obtain ⟨hX, hC, hB, h1, h2, h3⟩ := id hx
  have kk := k_X0_root l D cI ad (nA xu) (nA xt) F C B RU RC WU ST RP RN WT SS (nI (xn 0)) (nI (xn 1)) (nI u) (okU_nI hU)
  rw [s_X0_root, SM_at h1 hU, ← root_eq hF hW hd hU] at kk
  exact kk
theorem p_costOf (l : Launch) (D : va_G) {cI : ClassId} {ad : Nat → Nat} {xu xt xf xc xb xn : Nat → Nat} {wx : va_W} (h : LIs xu xt xf xc xb xn) (hw : WQ cI ad xu xt xf xc xb xn wx) {u : Nat} (hU : u < 6) : Ki l yX0_costOf wsX0_costOf 1 21 0 0 D (TI cI) [.ref (ad 0), .int (nI u)] wx wx (nI (D0 xf xc (6 * u + s_L_root (D0 xf xc) u))) := by
  obtain ⟨F, C, B, RU, RC, WU, ST, RP, RN, WT, SS, rfl, hx⟩ := hw
  obtain ⟨hF, hW, hL, hd, hwv⟩ := PK h hx
  obtain ⟨hu, ht, hf, hc, hb, hn, hn1, hG, hS, hct⟩ := id h
  obtain ⟨hX, hC, hB, h1, h2, h3⟩ := id hx
  have kk := k_X0_costOf l D cI ad (nA xu) (nA xt) F C B RU RC WU ST RP RN WT SS (nI (xn 0)) (nI (xn 1)) (nI u) (okU_nI hU)
  have hr := root_le F u
  rw [s_X0_costOf, SM_at h2 hU, ← cost_dst hF hW hU, ← hd u _ hU (by omega), ← root_eq hF hW hd hU] at kk
  exact kk
theorem p_wayUp (l : Launch) (D : va_G) {cI : ClassId} {ad : Nat → Nat} {xu xt xf xc xb xn : Nat → Nat} {wx : va_W} (h : LIs xu xt xf xc xb xn) (hw : WQ cI ad xu xt xf xc xb xn wx) {u : Nat} (hU : u < 6) : Ki l yX0_wayUp wsX0_wayUp 1 21 0 0 D (TI cI) [.ref (ad 0), .int (nI u)] wx wx (oI (s_L_way xf xc (D0 xf xc) u)) := by
  obtain ⟨F, C, B, RU, RC, WU, ST, RP, RN, WT, SS, rfl, hx⟩ := hw
  obtain ⟨hF, hW, hL, hd, hwv⟩ := PK h hx
  obtain ⟨hu, ht, hf, hc, hb, hn, hn1, hG, hS, hct⟩ := id h
  obtain ⟨hX, hC, hB, h1, h2, h3⟩ := id hx
  have kk := k_X0_wayUp l D cI ad (nA xu) (nA xt) F C B RU RC WU ST RP RN WT SS (nI (xn 0)) (nI (xn 1)) (nI u) (okU_nI hU)
  have e : s_X0_wayUp WU (nI u) = oI (s_L_way xf xc (D0 xf xc) u) := by
    unfold s_X0_wayUp wv oI at *
    rw [xAt_nI (f := WU) hU (by decide), hwv u hU]
    by_cases q : s_L_way xf xc (D0 xf xc) u < 6
    · rw [if_pos q, if_pos q, if_neg (nI_m1 (by omega)), show (6 : Int32) = nI 6 from rfl, pk_rem (by omega) (by decide) (by decide)]
      exact congrArg nI (by omega)
    · rw [if_neg q, if_neg q, if_pos rfl]
  rw [e] at kk
  exact kk
theorem p_hops (l : Launch) (D : va_G) {cI : ClassId} {ad : Nat → Nat} {xu xt xf xc xb xn : Nat → Nat} {wx : va_W} (h : LIs xu xt xf xc xb xn) (hw : WQ cI ad xu xt xf xc xb xn wx) {u a o b : Nat} (hU : u < 6) (ha1 : 1 ≤ a) (ha : a < 16) (hO : o < 6) (hb1 : 1 ≤ b) (hb2 : b < 16) : ∃ wx', WQ cI ad xu xt xf xc xb xn wx' ∧ Ki l yX0_hops wsX0_hops 6 137 0 0 D (TI cI) [.ref (ad 0), .int (nI u), .int (nI a), .int (nI o), .int (nI b)] wx wx' (s_L_hops xu xt xf (s_L_live xn xf xc) u a o b) := by
  obtain ⟨F, C, B, RU, RC, WU, ST, RP, RN, WT, SS, rfl, hx⟩ := hw
  obtain ⟨hF, hW, hL, hd, hwv⟩ := PK h hx
  obtain ⟨hu, ht, hf, hc, hb, hn, hn1, hG, hS, hct⟩ := id h
  obtain ⟨hX, hC, hB, h1, h2, h3⟩ := id hx
  have kk := k_X0_hops l D cI ad (nA xu) (nA xt) F C B RU RC WU ST RP RN WT SS (nI (xn 0)) (nI (xn 1)) (nI u) (nI a) (nI o) (nI b) (tr01 hn1) (okU_nI hU) (okL_nI ha1 ha) (okU_nI hO) (okL_nI hb1 hb2)
  have e : s_X0_hops (nA xu) (nA xt) F WU ST RP (nI (xn 1)) (nI u) (nI a) (nI o) (nI b) = s_L_hops xu xt xf (s_L_live xn xf xc) u a o b := by
    unfold s_X0_hops
    rw [place_nI, place_nI]
    exact hops_eq hu ht hG hf hX hF hL hU ha1 ha hO hb2 ST RP
  rw [e] at kk
  exact ⟨_, ⟨F, C, B, RU, RC, WU, _, _, _, WT, SS, rfl, hx⟩, kk⟩
theorem p_joined (l : Launch) (D : va_G) {cI : ClassId} {ad : Nat → Nat} {xu xt xf xc xb xn : Nat → Nat} {wx : va_W} (h : LIs xu xt xf xc xb xn) (hw : WQ cI ad xu xt xf xc xb xn wx) {u a : Nat} (hU : u < 6) (ha1 : 1 ≤ a) (ha : a < 16) : ∃ wx', WQ cI ad xu xt xf xc xb xn wx' ∧ Ki l yX0_joined wsX0_joined 6 137 0 0 D (TI cI) [.ref (ad 0), .int (nI u), .int (nI a)] wx wx' (nI (lp (fun j z => z + sb (SK xu xt xf (s_L_live xn xf xc) u a 90 j) 16) 6 0)) := by
  obtain ⟨F, C, B, RU, RC, WU, ST, RP, RN, WT, SS, rfl, hx⟩ := hw
  obtain ⟨hF, hW, hL, hd, hwv⟩ := PK h hx
  obtain ⟨hu, ht, hf, hc, hb, hn, hn1, hG, hS, hct⟩ := id h
  obtain ⟨hX, hC, hB, h1, h2, h3⟩ := id hx
  have kk := k_X0_joined l D cI ad (nA xu) (nA xt) F C B RU RC WU ST RP RN WT SS (nI (xn 0)) (nI (xn 1)) (nI u) (nI a) (tr01 hn1) (okU_nI hU) (okL_nI ha1 ha)
  have e : s_X0_joined (nA xu) (nA xt) F WU ST RP (nI (xn 1)) (nI u) (nI a) = nI (lp (fun j z => z + sb (SK xu xt xf (s_L_live xn xf xc) u a 90 j) 16) 6 0) := by
    unfold s_X0_joined
    rw [place_nI]
    exact joined_eq hu ht hG hf hX hF hL hU ha1 ha ST RP
  rw [e] at kk
  exact ⟨_, ⟨F, C, B, RU, RC, WU, _, _, _, WT, SS, rfl, hx⟩, kk⟩
def mt (xu xt xf : Nat → Nat) (live one two : Nat) : Int32 := if xu one = 0 then 0 else (if xu two = 0 then 0 else (if s_L_hops xu xt xf live (one / 6) (xu one) (two / 6) (xu two) = -1 then 0 else 1))
theorem p_meet (l : Launch) (D : va_G) {cI : ClassId} {ad : Nat → Nat} {xu xt xf xc xb xn : Nat → Nat} {wx : va_W} (h : LIs xu xt xf xc xb xn) (hw : WQ cI ad xu xt xf xc xb xn wx) {u a o b : Nat} (hU : u < 6) (ha : a < 6) (hO : o < 6) (hb2 : b < 6) : ∃ wx', WQ cI ad xu xt xf xc xb xn wx' ∧ Ki l yX0_meet wsX0_meet 7 163 0 0 D (TI cI) [.ref (ad 0), .int (nI u), .int (nI a), .int (nI o), .int (nI b)] wx wx' (mt xu xt xf (s_L_live xn xf xc) (6 * u + a) (6 * o + b)) := by
  obtain ⟨F, C, B, RU, RC, WU, ST, RP, RN, WT, SS, rfl, hx⟩ := hw
  obtain ⟨hF, hW, hL, hd, hwv⟩ := PK h hx
  obtain ⟨hu, ht, hf, hc, hb, hn, hn1, hG, hS, hct⟩ := id h
  obtain ⟨hX, hC, hB, h1, h2, h3⟩ := id hx
  have s1 : xAt 36 (nA xu) (s_X0_slotOf (nI u) (nI a)) = nI (xu (6 * u + a)) := by rw [slot_nI, xAt_nI (by omega) (by decide)]; rfl
  have s2 : xAt 36 (nA xu) (s_X0_slotOf (nI o) (nI b)) = nI (xu (6 * o + b)) := by rw [slot_nI, xAt_nI (by omega) (by decide)]; rfl
  have u1 := hu (6 * u + a)
  have u2 := hu (6 * o + b)
  have kk := k_X0_meet l D cI ad (nA xu) (nA xt) F C B RU RC WU ST RP RN WT SS (nI (xn 0)) (nI (xn 1)) (nI u) (nI a) (nI o) (nI b) (tr01 hn1) (okU_nI hU) (okU_nI ha) (okU_nI hO) (okU_nI hb2) (fun z => by rw [s1] at z ⊢; exact okL_nI ((Nat.eq_zero_or_pos (xu (6 * u + a))).elim (fun y => by rw [y] at z; exact absurd rfl z) id) (by omega)) (fun z => by rw [s2] at z ⊢; exact okL_nI ((Nat.eq_zero_or_pos (xu (6 * o + b))).elim (fun y => by rw [y] at z; exact absurd rfl z) id) (by omega))
  have e : s_X0_meet (nA xu) (nA xt) F WU ST RP (nI (xn 1)) (nI u) (nI a) (nI o) (nI b) = mt xu xt xf (s_L_live xn xf xc) (6 * u + a) (6 * o + b) := by
    unfold s_X0_meet mt
    rw [s1, s2]
    by_cases q1 : xu (6 * u + a) = 0
    · rw [if_pos q1, if_pos (by rw [q1]; rfl)]
    · rw [if_neg q1, if_neg (nI_ne0 (by omega) (by omega))]
      by_cases q2 : xu (6 * o + b) = 0
      · rw [if_pos q2, if_pos (by rw [q2]; rfl)]
      · rw [if_neg q2, if_neg (nI_ne0 (by omega) (by omega))]
        unfold s_X0_hops
        rw [place_nI, place_nI, show (6 * u + a) / 6 = u by omega, show (6 * o + b) / 6 = o by omega, hops_eq hu ht hG hf hX hF hL hU (by omega) (by omega) hO (by omega) ST RP]
  rw [e] at kk
  exact ⟨_, ⟨F, C, B, RU, RC, WU, _, _, _, WT, SS, rfl, hx⟩, kk⟩
theorem p_changes (l : Launch) (D : va_G) {cI : ClassId} {ad : Nat → Nat} {xu xt xf xc xb xn : Nat → Nat} {wx : va_W} (h : LIs xu xt xf xc xb xn) (hw : WQ cI ad xu xt xf xc xb xn wx) {u a o b : Nat} (hU : u < 6) (ha : a < 6) (hO : o < 6) (hb2 : b < 6) : ∃ wx', WQ cI ad xu xt xf xc xb xn wx' ∧ Ki l yX0_changes wsX0_changes 3 72 0 0 D (TI cI) [.ref (ad 0), .int (nI u), .int (nI a), .int (nI o), .int (nI b)] wx wx' (s_L_changes xu xt xf (s_L_live xn xf xc) (6 * u + a) (6 * o + b)) := by
  obtain ⟨F, C, B, RU, RC, WU, ST, RP, RN, WT, SS, rfl, hx⟩ := hw
  obtain ⟨hF, hW, hL, hd, hwv⟩ := PK h hx
  obtain ⟨hu, ht, hf, hc, hb, hn, hn1, hG, hS, hct⟩ := id h
  obtain ⟨hX, hC, hB, h1, h2, h3⟩ := id hx
  have kk := k_X0_changes l D cI ad (nA xu) (nA xt) F C B RU RC WU ST RP RN WT SS (nI (xn 0)) (nI (xn 1)) (nI u) (nI a) (nI o) (nI b) (tr01 hn1) (okU_nI hU) (okU_nI ha) (okU_nI hO) (okU_nI hb2)
  rw [changes_eq hu hf hS hX hF hL hU hO rfl rfl (show 6 * u + a < 36 by omega) (show 6 * o + b < 36 by omega) (slot_nI u a) (slot_nI o b) (by omega) (by omega)] at kk
  exact ⟨_, ⟨F, C, B, RU, RC, WU, _, _, _, _, _, rfl, hx⟩, kk⟩
theorem p_islands (l : Launch) (D : va_G) {cI : ClassId} {ad : Nat → Nat} {xu xt xf xc xb xn : Nat → Nat} {wx : va_W} (h : LIs xu xt xf xc xb xn) (hw : WQ cI ad xu xt xf xc xb xn wx)  : ∃ wx', WQ cI ad xu xt xf xc xb xn wx' ∧ Ki l yX0_islands wsX0_islands 6 137 0 0 D (TI cI) [.ref (ad 0)] wx wx' (nI (s_L_islands xu xt xf (s_L_live xn xf xc))) := by
  obtain ⟨F, C, B, RU, RC, WU, ST, RP, RN, WT, SS, rfl, hx⟩ := hw
  obtain ⟨hF, hW, hL, hd, hwv⟩ := PK h hx
  obtain ⟨hu, ht, hf, hc, hb, hn, hn1, hG, hS, hct⟩ := id h
  obtain ⟨hX, hC, hB, h1, h2, h3⟩ := id hx
  have kk := k_X0_islands l D cI ad (nA xu) (nA xt) F C B RU RC WU ST RP RN WT SS (nI (xn 0)) (nI (xn 1)) (tr01 hn1)
  rw [islands_eq hu ht hG hf hX hF hL] at kk
  exact ⟨_, ⟨F, C, B, RU, RC, WU, _, _, _, WT, SS, rfl, hx⟩, kk⟩
theorem p_loops (l : Launch) (D : va_G) {cI : ClassId} {ad : Nat → Nat} {xu xt xf xc xb xn : Nat → Nat} {wx : va_W} (h : LIs xu xt xf xc xb xn) (hw : WQ cI ad xu xt xf xc xb xn wx)  : ∃ wx', WQ cI ad xu xt xf xc xb xn wx' ∧ Ki l yX0_loops wsX0_loops 7 161 0 0 D (TI cI) [.ref (ad 0)] wx wx' (s_L_loops xu xt xf (s_L_live xn xf xc)) := by
  obtain ⟨F, C, B, RU, RC, WU, ST, RP, RN, WT, SS, rfl, hx⟩ := hw
  obtain ⟨hF, hW, hL, hd, hwv⟩ := PK h hx
  obtain ⟨hu, ht, hf, hc, hb, hn, hn1, hG, hS, hct⟩ := id h
  obtain ⟨hX, hC, hB, h1, h2, h3⟩ := id hx
  have kk := k_X0_loops l D cI ad (nA xu) (nA xt) F C B RU RC WU ST RP RN WT SS (nI (xn 0)) (nI (xn 1)) (tr01 hn1)
  rw [loops_eq hu ht hG hf hS hX hF hL] at kk
  exact ⟨_, ⟨F, C, B, RU, RC, WU, _, _, _, WT, SS, rfl, hx⟩, kk⟩
theorem d_isOn (l : Launch) (hst : l.stackTraces = false) (D : va_G) {cI : ClassId} {ad : Nat → Nat} {xu xt xf xc xb xn : Nat → Nat} {wx : va_W} (h : LIs xu xt xf xc xb xn) (hw : WQ cI ad xu xt xf xc xb xn wx) {k : Nat} (hk : k < 36)  : KE l yL_does wsL_does 8 127 D (TI cI) [.ref (ad 0), .int (nI 2), .int (nI (k / 6)), .int (nI (k % 6)), .int (nI 0)] wx wx (if xf k = 0 then -14 else nI (s_L_live xn xf xc / 2 ^ k % 2)) := by
  have hx0 := hw.x0
  obtain ⟨F, C, B, RU, RC, WU, ST, RP, RN, WT, SS, rfl, hx⟩ := hw
  obtain ⟨hF, hW, hL, hd, hwv⟩ := PK h hx
  obtain ⟨hu, ht, hf, hc, hb, hn, hn1, hG, hS, hct⟩ := id h
  obtain ⟨hX, hC, hB, h1, h2, h3⟩ := id hx
  have hcb : s_X0_hasCable F (s_X0_slotOf (nI (k / 6)) (nI (k % 6))) = 0 ↔ xf k = 0 := by rw [slot_k, cab0 hk, FX_m1 hf hX hk]
  by_cases q : xf k = 0
  · rw [if_pos q]
    exact w_isOn_NSE l (r := 0) (wx' := []) _ _ _ hx0 (kx_X0_isOn_NSE l hst D cI ad (nA xu) (nA xt) F C B RU RC WU ST RP RN WT SS (nI (xn 0)) (nI (xn 1)) _ _ (okU_nI (by omega)) (okU_nI (by omega)) (hcb.mpr q))
  · rw [if_neg q]
    have kk := k_X0_isOn l D cI ad (nA xu) (nA xt) F C B RU RC WU ST RP RN WT SS (nI (xn 0)) (nI (xn 1)) (nI (k / 6)) (nI (k % 6)) (tr01 hn1) (okU_nI (by omega)) (okU_nI (by omega)) (fun z => q (hcb.mp z))
    rw [s_X0_isOn, s_X0_slotWithCable, slot_k, bit_nI hL hk] at kk
    exact w_isOn_ok l _ _ _ hx0 (tr01 (by have := Nat.mod_lt (s_L_live xn xf xc / 2 ^ k) (show 0 < 2 by decide); omega)) kk
theorem d_comesAs (l : Launch) (hst : l.stackTraces = false) (D : va_G) {cI : ClassId} {ad : Nat → Nat} {xu xt xf xc xb xn : Nat → Nat} {wx : va_W} (h : LIs xu xt xf xc xb xn) (hw : WQ cI ad xu xt xf xc xb xn wx) {k : Nat} (hk : k < 36) {a : Nat} (ha1 : 1 ≤ a) (ha : a < 16) : KE l yL_does wsL_does 8 128 D (TI cI) [.ref (ad 0), .int (nI 3), .int (nI (k / 6)), .int (nI (k % 6)), .int (nI a)] wx wx (if xf k = 0 then -14 else aI (lp (asF (s_L_comes xu xt xf k (2 ^ a))) 15 16)) := by
  have hx0 := hw.x0
  obtain ⟨F, C, B, RU, RC, WU, ST, RP, RN, WT, SS, rfl, hx⟩ := hw
  obtain ⟨hF, hW, hL, hd, hwv⟩ := PK h hx
  obtain ⟨hu, ht, hf, hc, hb, hn, hn1, hG, hS, hct⟩ := id h
  obtain ⟨hX, hC, hB, h1, h2, h3⟩ := id hx
  have hcb : s_X0_hasCable F (s_X0_slotOf (nI (k / 6)) (nI (k % 6))) = 0 ↔ xf k = 0 := by rw [slot_k, cab0 hk, FX_m1 hf hX hk]
  by_cases q : xf k = 0
  · rw [if_pos q]
    exact w_comesAs_NSE l (r := 0) (wx' := []) _ _ _ hx0 (kx_X0_comesAs_NSE l hst D cI ad (nA xu) (nA xt) F C B RU RC WU ST RP RN WT SS (nI (xn 0)) (nI (xn 1)) _ _ _ (okL_nI ha1 ha) (okU_nI (by omega)) (okU_nI (by omega)) (hcb.mpr q))
  · rw [if_neg q]
    have kk := k_X0_comesAs l D cI ad (nA xu) (nA xt) F C B RU RC WU ST RP RN WT SS (nI (xn 0)) (nI (xn 1)) (nI (k / 6)) (nI (k % 6)) (nI a) (okL_nI ha1 ha) (okU_nI (by omega)) (okU_nI (by omega)) (fun z => q (hcb.mp z))
    rw [s_X0_comesAs, s_X0_slotWithCable, slot_k, comesAs_eq hu hG hf hX hF hk q ha1 ha] at kk
    exact w_comesAs_ok l _ _ _ hx0 kk
theorem d_oneSided (l : Launch) (hst : l.stackTraces = false) (D : va_G) {cI : ClassId} {ad : Nat → Nat} {xu xt xf xc xb xn : Nat → Nat} {wx : va_W} (h : LIs xu xt xf xc xb xn) (hw : WQ cI ad xu xt xf xc xb xn wx) {k : Nat} (hk : k < 36)  : KE l yL_does wsL_does 8 128 D (TI cI) [.ref (ad 0), .int (nI 4), .int (nI (k / 6)), .int (nI (k % 6)), .int (nI 0)] wx wx (if xf k = 0 then -14 else nI (sb (xt k ^^^ xt (xf k - 1)) 16)) := by
  have hx0 := hw.x0
  obtain ⟨F, C, B, RU, RC, WU, ST, RP, RN, WT, SS, rfl, hx⟩ := hw
  obtain ⟨hF, hW, hL, hd, hwv⟩ := PK h hx
  obtain ⟨hu, ht, hf, hc, hb, hn, hn1, hG, hS, hct⟩ := id h
  obtain ⟨hX, hC, hB, h1, h2, h3⟩ := id hx
  have hcb : s_X0_hasCable F (s_X0_slotOf (nI (k / 6)) (nI (k % 6))) = 0 ↔ xf k = 0 := by rw [slot_k, cab0 hk, FX_m1 hf hX hk]
  by_cases q : xf k = 0
  · rw [if_pos q]
    exact w_oneSided_NSE l (r := 0) (wx' := []) _ _ _ hx0 (kx_X0_oneSided_NSE l hst D cI ad (nA xu) (nA xt) F C B RU RC WU ST RP RN WT SS (nI (xn 0)) (nI (xn 1)) _ _ (okU_nI (by omega)) (okU_nI (by omega)) (hcb.mpr q))
  · rw [if_neg q]
    have kk := k_X0_oneSided l D cI ad (nA xu) (nA xt) F C B RU RC WU ST RP RN WT SS (nI (xn 0)) (nI (xn 1)) (nI (k / 6)) (nI (k % 6)) (okU_nI (by omega)) (okU_nI (by omega)) (fun z => q (hcb.mp z))
    rw [s_X0_oneSided, s_X0_slotWithCable, slot_k, one_eq ht hf hX hk q] at kk
    exact w_oneSided_ok l _ _ _ hx0 kk
