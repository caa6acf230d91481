/-! THE LAW'S DEEDS: what each does to the class's object and to the law's rows -/
theorem grow_WU {F C : Nat → Int32} (RU RC WU WT : Nat → Int32) {v : Nat} (hv : v < 6) : s_X0_growTree_WU F C RU RC WU WT v = s_X0_bestWayUp F C (s_X0_growTree_RC F C RU RC WT) (nI v) := by
  unfold s_X0_growTree_WU
  refine lay6v (y := fun v => s_X0_bestWayUp F C (s_X0_growTree_RC F C RU RC WT) (nI v)) (fun i hi S => ?_) WU hv
  have e : s_X0_growTree_L1 F C RU RC WT i S = upd S i (s_X0_bestWayUp F C (s_X0_growTree_RC F C RU RC WT) (nI i)) := by
    show xPut 6 S (nI i) _ = _
    rw [xPut_nI hi (by decide)]; rfl
  rw [e]
  exact ⟨pk_us, fun v _ hn => pk_un hn⟩
theorem PX_grow {xu xt xf xc xb xn : Nat → Nat} {F C B RU RC WU WT : Nat → Int32} (h : LIs xu xt xf xc xb xn) (hX : FX xf F) (hC : CX xf xc C) (hB : BX xb B) : PX xf xc xb F C B (s_X0_growTree_RU F RU WT) (s_X0_growTree_RC F C RU RC WT) (s_X0_growTree_WU F C RU RC WU WT) := by
  obtain ⟨hu, ht, hf, hc, hb, hn, hn1, hG, hS, -⟩ := h
  exact ⟨hX, hC, hB, rootX (WF_of hf hS hX) RU WT, costX (WF_of hf hS hX) (WC_of hf hc hS hX hC) RU RC WT, fun v hv => grow_WU RU RC WU WT hv⟩
theorem updN_self {g : Nat → Nat} {i : Nat} : updN g i (g i) = g := by
  funext j
  by_cases h : j = i
  · subst h; exact updN_s
  · exact updN_n h
theorem tagged_nI {xt : Nat → Nat} {k l : Nat} (hk : k < 36) (hl : l < 16) : s_X0_isTagged (nA xt) (nI k) (nI l) = nI (xt k / 2 ^ l % 2) := by
  rw [tag0 hk hl (T := nA xt) (t := xt k) rfl]
  by_cases h : (xt k).testBit l = true
  · rw [if_pos h, bit_iff.mpr h]; rfl
  · have h3 : ¬ xt k / 2 ^ l % 2 = 1 := fun z => h (bit_iff.mp z)
    rw [if_neg h, show xt k / 2 ^ l % 2 = 0 by omega]; rfl
theorem tb_of {x l : Nat} : x / 2 ^ l % 2 = 0 ↔ x.testBit l = false := by
  have h := bit_iff (x := x) (k := l)
  cases e : x.testBit l
  · have h3 : ¬ x / 2 ^ l % 2 = 1 := fun z => absurd (h.mp z) (by rw [e]; decide)
    exact ⟨fun _ => rfl, fun _ => by omega⟩
  · exact ⟨fun z => by have := h.mpr e; omega, fun z => by cases z⟩
theorem LIs.u {xu xt xf xc xb xn : Nat → Nat} (h : LIs xu xt xf xc xb xn) {k x : Nat} (hx : x ≤ 15) (hk : xt k / 2 ^ x % 2 = 0) : LIs (updN xu k x) xt xf xc xb xn := by
  obtain ⟨hu, ht, hf, hc, hb, hn, hn1, hG, hS, hct⟩ := h
  refine ⟨updN_le hu hx, ht, hf, hc, hb, hn, hn1, fun j hj => ⟨(hG j hj).1, fun z => ?_⟩, hS, hct⟩
  by_cases q : j = k
  · subst q
    rw [updN_s] at z ⊢
    exact tb_of.mp hk
  · rw [updN_n q] at z ⊢
    exact (hG j hj).2 z
theorem LIs.t {xu xt xf xc xb xn : Nat → Nat} (h : LIs xu xt xf xc xb xn) {k x : Nat} (hx : x < 65536) (h0 : x.testBit 0 = false) (h1 : 0 < xu k → x.testBit (xu k) = false) : LIs xu (updN xt k x) xf xc xb xn := by
  obtain ⟨hu, ht, hf, hc, hb, hn, hn1, hG, hS, hct⟩ := h
  refine ⟨hu, fun j => ?_, hf, hc, hb, hn, hn1, fun j hj => ?_, hS, hct⟩
  · by_cases q : j = k
    · subst q; rw [updN_s]; exact hx
    · rw [updN_n q]; exact ht j
  · by_cases q : j = k
    · subst q; rw [updN_s]; exact ⟨h0, h1⟩
    · rw [updN_n q]; exact hG j hj
section DEEDS
variable (l : Launch) (D : va_G) {cI : ClassId} {ad : Nat → Nat} {xu xt xf xc xb xn : Nat → Nat} {wx : va_W}
theorem e_untag (hst : l.stackTraces = false) (h : LIs xu xt xf xc xb xn) (hw : WQ cI ad xu xt xf xc xb xn wx) {k x : Nat} (hk : k < 36) (hx : x ≤ 15) : (xt k / 2 ^ x % 2 = 0 → LIs (updN xu k x) xt xf xc xb xn ∧ ∃ wx', WQ cI ad (updN xu k x) xt xf xc xb xn wx' ∧ KE l yL_does wsL_does 7 107 D (TI cI) [.ref (ad 0), .int (nI 0), .int (nI (k / 6)), .int (nI (k % 6)), .int (nI x)] wx wx' (nI (xu k))) ∧ (¬ xt k / 2 ^ x % 2 = 0 → KE l yL_does wsL_does 7 107 D (TI cI) [.ref (ad 0), .int (nI 0), .int (nI (k / 6)), .int (nI (k % 6)), .int (nI x)] wx wx (-13)) := by
  have hx0 := hw.x0
  obtain ⟨F, C, B, RU, RC, WU, ST, RP, RN, WT, SS, rfl, hX⟩ := hw
  have e := tagged_nI (xt := xt) (k := k) (l := x) hk (by omega)
  have hm := Nat.mod_lt (xt k / 2 ^ x) (show 0 < 2 by decide)
  have hl : nI x = 0 ∨ okL (nI x) := by
    rcases Nat.eq_zero_or_pos x with q | q
    · subst q; exact Or.inl rfl
    · exact Or.inr (okL_nI q (by omega))
  refine ⟨fun z => ⟨h.u hx z, ?_⟩, fun z => ?_⟩
  · have kk := k_X0_untag l D cI ad (nA xu) (nA xt) F C B RU RC WU ST RP RN WT SS (nI (xn 0)) (nI (xn 1)) (nI (k / 6)) (nI (k % 6)) (nI x) (okU_nI (by omega)) (okU_nI (by omega)) hl (by rw [slot_k, e, z]; rfl)
    rw [s_X0_untag, s_X0_untag_U, slot_k, xPut_nI hk (by decide), nA_upd, xAt_nI hk (by decide)] at kk
    exact ⟨_, ⟨F, C, B, RU, RC, WU, ST, RP, RN, WT, SS, rfl, hX⟩, w_untag_ok l _ _ _ hx0 kk⟩
  · exact w_untag_ISE l (r := 0) (wx' := []) _ _ _ hx0 (kx_X0_untag_ISE l hst D cI ad (nA xu) (nA xt) F C B RU RC WU ST RP RN WT SS (nI (xn 0)) (nI (xn 1)) (nI (k / 6)) (nI (k % 6)) (nI x) (okU_nI (by omega)) (okU_nI (by omega)) hl (by rw [slot_k, e, nI_eq0 (by omega)]; exact z))
theorem tag_args {k x : Nat} (hk : k < 36) (hx : x < 16) : (xAt 36 (nA xt) (nI k) &&& (((1 : Int32) <<< (nI x &&& 31)) ^^^ (-1))) = nI (xt k &&& (2 ^ x ^^^ 4294967295)) := by
  rw [xAt_nI hk (by decide), one_shl x hx]
  exact bit_clr
theorem e_tag0 (h : LIs xu xt xf xc xb xn) (hw : WQ cI ad xu xt xf xc xb xn wx) {k x : Nat} (hk : k < 36) (h1 : 1 ≤ x) (hx : x < 16) : LIs xu (updN xt k (xt k &&& (2 ^ x ^^^ 4294967295))) xf xc xb xn ∧ ∃ wx', WQ cI ad xu (updN xt k (xt k &&& (2 ^ x ^^^ 4294967295))) xf xc xb xn wx' ∧ KE l yL_tags wsL_tags 7 109 D (TI cI) [.ref (ad 0), .int (nI (k / 6)), .int (nI (k % 6)), .int (nI x), .int (nI 0)] wx wx' (nI (xt k / 2 ^ x % 2)) := by
  have hx0 := hw.x0
  obtain ⟨F, C, B, RU, RC, WU, ST, RP, RN, WT, SS, rfl, hX⟩ := hw
  have e := tagged_nI (xt := xt) (k := k) (l := x) hk (by omega)
  have hm := Nat.mod_lt (xt k / 2 ^ x) (show 0 < 2 by decide)
  obtain ⟨hu, ht, hf, hc, hb, hn, hn1, hG, hS, hct⟩ := id h
  refine ⟨h.t (clr_lt (ht k)) (by rw [clr_bit (by decide), (hG k hk).1]; rfl) (fun z => by rw [clr_bit (by have := hu k; omega), (hG k hk).2 z]; rfl), ?_⟩
  have kk := k_X0_tag l D cI ad (nA xu) (nA xt) F C B RU RC WU ST RP RN WT SS (nI (xn 0)) (nI (xn 1)) (nI (k / 6)) (nI (k % 6)) (nI x) (nI 0) (Or.inl rfl) (okU_nI (by omega)) (okU_nI (by omega)) (okL_nI h1 hx) (fun z => z.1 rfl)
  rw [s_X0_tag, s_X0_tag_T, slot_k, e, if_pos (show nI 0 = 0 from rfl), tag_args hk hx, xPut_nI hk (by decide), nA_upd] at kk
  exact ⟨_, ⟨F, C, B, RU, RC, WU, ST, RP, RN, WT, SS, rfl, hX⟩, w_tag_ok l _ _ _ _ hx0 (tr01 (by omega)) kk⟩
theorem e_tag1 (hst : l.stackTraces = false) (h : LIs xu xt xf xc xb xn) (hw : WQ cI ad xu xt xf xc xb xn wx) {k x : Nat} (hk : k < 36) (h1 : 1 ≤ x) (hx : x < 16) : (¬ xu k = x → LIs xu (updN xt k (xt k ||| 2 ^ x)) xf xc xb xn ∧ ∃ wx', WQ cI ad xu (updN xt k (xt k ||| 2 ^ x)) xf xc xb xn wx' ∧ KE l yL_tags wsL_tags 7 109 D (TI cI) [.ref (ad 0), .int (nI (k / 6)), .int (nI (k % 6)), .int (nI x), .int (nI 1)] wx wx' (nI (xt k / 2 ^ x % 2))) ∧ (xu k = x → KE l yL_tags wsL_tags 7 109 D (TI cI) [.ref (ad 0), .int (nI (k / 6)), .int (nI (k % 6)), .int (nI x), .int (nI 1)] wx wx (-13)) := by
  have hx0 := hw.x0
  obtain ⟨F, C, B, RU, RC, WU, ST, RP, RN, WT, SS, rfl, hX⟩ := hw
  have e := tagged_nI (xt := xt) (k := k) (l := x) hk (by omega)
  have hm := Nat.mod_lt (xt k / 2 ^ x) (show 0 < 2 by decide)
  obtain ⟨hu, ht, hf, hc, hb, hn, hn1, hG, hS, hct⟩ := id h
  have eu : xAt 36 (nA xu) (nI k) = nI (xu k) := xAt_nI hk (by decide)
  have huk := hu k
  refine ⟨fun z => ⟨h.t (set_lt (ht k) hx) (by rw [set_bit, (hG k hk).1, decide_eq_false (by omega)]; rfl) (fun y => by rw [set_bit, (hG k hk).2 y, decide_eq_false (fun w => z w.symm)]; rfl), ?_⟩, fun z => ?_⟩
  · have kk := k_X0_tag l D cI ad (nA xu) (nA xt) F C B RU RC WU ST RP RN WT SS (nI (xn 0)) (nI (xn 1)) (nI (k / 6)) (nI (k % 6)) (nI x) (nI 1) (Or.inr rfl) (okU_nI (by omega)) (okU_nI (by omega)) (okL_nI h1 hx) (fun y => z ((nI_eq (by omega) (by omega)).mp (by rw [← eu, ← slot_k]; exact y.2)))
    rw [s_X0_tag, s_X0_tag_T, slot_k, e, if_neg (by decide), tag_args hk hx, one_shl x hx, fa_or, clr_set hx (ht k), xPut_nI hk (by decide), nA_upd] at kk
    exact ⟨_, ⟨F, C, B, RU, RC, WU, ST, RP, RN, WT, SS, rfl, hX⟩, w_tag_ok l _ _ _ _ hx0 (tr01 (by omega)) kk⟩
  · exact w_tag_ISE l (r := 0) (wx' := []) _ _ _ _ hx0 (kx_X0_tag_ISE l hst D cI ad (nA xu) (nA xt) F C B RU RC WU ST RP RN WT SS (nI (xn 0)) (nI (xn 1)) (nI (k / 6)) (nI (k % 6)) (nI x) (nI 1) (Or.inr rfl) (okU_nI (by omega)) (okU_nI (by omega)) (okL_nI h1 hx) (by decide) (by rw [slot_k, eu, z]))
/-- one more cable, counted -/
theorem ct_lay {k j : Nat} (hk : k < 36) (hj : j < 36) (hne : k ≠ j) (fk : xf k = 0) (fj : xf j = 0) {a b : Nat} : fb_ct (fun i => decide (¬ updN (updN xf k (a + 1)) j (b + 1) i = 0)) 36 = fb_ct (fun i => decide (¬ xf i = 0)) 36 + 2 := by
  have e1 := fb_ct_upd (fun i => decide (¬ xf i = 0)) true hk
  have e2 := fb_ct_upd (fun i => if i = k then true else decide (¬ xf i = 0)) true hj
  have e3 : fb_ct (fun i => decide (¬ updN (updN xf k (a + 1)) j (b + 1) i = 0)) 36 = fb_ct (fun i => if i = j then true else if i = k then true else decide (¬ xf i = 0)) 36 := fb_ct_cong (fun i _ => by
    by_cases q : i = j
    · subst q; rw [updN_s, if_pos rfl]; exact decide_eq_true (by omega)
    · rw [updN_n q, if_neg q]
      by_cases q2 : i = k
      · subst q2; rw [updN_s, if_pos rfl]; exact decide_eq_true (by omega)
      · rw [updN_n q2, if_neg q2])
  have n1 : ¬ j = k := fun z => hne z.symm
  simp only [fk, fj, n1, not_true_eq_false, decide_false, if_true, Bool.false_eq_true, if_false] at e1 e2
  omega
theorem ct_cut {k j : Nat} (hk : k < 36) (hj : j < 36) (hne : k ≠ j) (fk : ¬ xf k = 0) (fj : ¬ xf j = 0) : fb_ct (fun i => decide (¬ updN (updN xf j 0) k 0 i = 0)) 36 + 2 = fb_ct (fun i => decide (¬ xf i = 0)) 36 := by
  have e1 := fb_ct_upd (fun i => decide (¬ xf i = 0)) false hj
  have e2 := fb_ct_upd (fun i => if i = j then false else decide (¬ xf i = 0)) false hk
  have e3 : fb_ct (fun i => decide (¬ updN (updN xf j 0) k 0 i = 0)) 36 = fb_ct (fun i => if i = k then false else if i = j then false else decide (¬ xf i = 0)) 36 := fb_ct_cong (fun i _ => by
    by_cases q : i = k
    · subst q; rw [updN_s, if_pos rfl]; exact decide_eq_false (by omega)
    · rw [updN_n q, if_neg q]
      by_cases q2 : i = j
      · subst q2; rw [updN_s, if_pos rfl]; exact decide_eq_false (by omega)
      · rw [updN_n q2, if_neg q2])
  simp only [fk, fj, hne, not_false_eq_true, decide_true, if_true, Bool.false_eq_true, if_false] at e1 e2
  omega
theorem LIs.lay (h : LIs xu xt xf xc xb xn) {k j x : Nat} (hk : k < 36) (hj : j < 36) (hkj : ¬ k / 6 = j / 6) (fk : xf k = 0) (fj : xf j = 0) (h1 : 1 ≤ x) (hx : x ≤ 20) : LIs xu xt (updN (updN xf k (j + 1)) j (k + 1)) (updN (updN xc k x) j x) xb (updN xn 0 (xn 0 + 1)) ∧ xn 0 + 1 ≤ 18 := by
  obtain ⟨hu, ht, hf, hc, hb, hn, hn1, hG, hS, hct⟩ := h
  have hne : k ≠ j := fun z => hkj (by rw [z])
  have e := ct_lay (xf := xf) hk hj hne fk fj (a := j) (b := k)
  have hle := fb_ct_le (fun i => decide (¬ updN (updN xf k (j + 1)) j (k + 1) i = 0)) 36
  have hn0 : xn 0 + 1 ≤ 18 := by omega
  refine ⟨⟨hu, ht, updN_le (updN_le hf (by omega)) (by omega), updN_le (updN_le hc hx) hx, hb, updN_le hn hn0, by rw [updN_n (by decide)]; exact hn1, hG, fun i hi z => ?_, by rw [e, updN_s]; omega⟩, hn0⟩
  by_cases q1 : i = j
  · subst q1
    rw [updN_s, Nat.add_sub_cancel, updN_s, updN_n hne, updN_s, updN_n hne, updN_s]
    exact ⟨rfl, hkj, h1, rfl⟩
  · rw [updN_n q1] at z ⊢
    rw [updN_n (g := updN xc k x) q1]
    by_cases q2 : i = k
    · subst q2
      rw [updN_s, Nat.add_sub_cancel, updN_s, updN_s, updN_s]
      exact ⟨rfl, fun w => hkj w.symm, h1, rfl⟩
    · rw [updN_n q2] at z ⊢
      rw [updN_n (g := xc) q2]
      obtain ⟨s1, s2, s3, s4⟩ := hS i hi z
      have m1 : xf i - 1 ≠ j := fun w => by rw [w, fj] at s1; omega
      have m2 : xf i - 1 ≠ k := fun w => by rw [w, fk] at s1; omega
      rw [updN_n m1, updN_n m2, updN_n m1, updN_n m2]
      exact ⟨s1, s2, s3, s4⟩
theorem FX.lay {F : Nat → Int32} (hX : FX xf F) {k j : Nat} (hk : k < 36) (hj : j < 36) : FX (updN (updN xf k (j + 1)) j (k + 1)) (xPut 36 (xPut 36 F (nI k) (nI j)) (nI j) (nI k)) := by
  rw [xPut_nI hk (by decide), xPut_nI hj (by decide)]
  intro i hi
  unfold fF
  by_cases q1 : i = j
  · subst q1
    rw [pk_us, updN_s, if_neg (by omega), Nat.add_sub_cancel]
  · rw [pk_un q1, updN_n q1]
    by_cases q2 : i = k
    · subst q2
      rw [pk_us, updN_s, if_neg (by omega), Nat.add_sub_cancel]
    · rw [pk_un q2, updN_n q2]
      exact hX i hi
theorem CX.lay {C : Nat → Int32} (hC : CX xf xc C) {k j x : Nat} (hk : k < 36) (hj : j < 36) : CX (updN (updN xf k (j + 1)) j (k + 1)) (updN (updN xc k x) j x) (xPut 36 (xPut 36 C (nI k) (nI x)) (nI j) (nI x)) := by
  rw [xPut_nI hk (by decide), xPut_nI hj (by decide)]
  intro i hi z
  by_cases q1 : i = j
  · subst q1
    rw [pk_us, updN_s]
  · rw [updN_n q1] at z
    rw [pk_un q1, updN_n q1]
    by_cases q2 : i = k
    · subst q2
      rw [pk_us, updN_s]
    · rw [updN_n q2] at z
      rw [pk_un q2, updN_n q2]
      exact hC i hi z
theorem e_cable (hst : l.stackTraces = false) (h : LIs xu xt xf xc xb xn) (hw : WQ cI ad xu xt xf xc xb xn wx) {k j x : Nat} (hk : k < 36) (hj : j < 36) (h1 : 1 ≤ x) (hx : x ≤ 20) : (k / 6 = j / 6 → KE l yL_cables wsL_cables 9 150 D (TI cI) [.ref (ad 0), .int (nI (k / 6)), .int (nI (k % 6)), .int (nI (j / 6)), .int (nI (j % 6)), .int (nI x)] wx wx (-12)) ∧ (¬ k / 6 = j / 6 → ¬ (xf k = 0 ∧ xf j = 0) → KE l yL_cables wsL_cables 9 150 D (TI cI) [.ref (ad 0), .int (nI (k / 6)), .int (nI (k % 6)), .int (nI (j / 6)), .int (nI (j % 6)), .int (nI x)] wx wx (-13)) ∧ (¬ k / 6 = j / 6 → xf k = 0 → xf j = 0 → LIs xu xt (updN (updN xf k (j + 1)) j (k + 1)) (updN (updN xc k x) j x) xb (updN xn 0 (xn 0 + 1)) ∧ xn 0 + 1 ≤ 18 ∧ ∃ wx', WQ cI ad xu xt (updN (updN xf k (j + 1)) j (k + 1)) (updN (updN xc k x) j x) xb (updN xn 0 (xn 0 + 1)) wx' ∧ KE l yL_cables wsL_cables 9 150 D (TI cI) [.ref (ad 0), .int (nI (k / 6)), .int (nI (k % 6)), .int (nI (j / 6)), .int (nI (j % 6)), .int (nI x)] wx wx' (nI (xn 0 + 1))) := by
  have hx0 := hw.x0
  obtain ⟨F, C, B, RU, RC, WU, ST, RP, RN, WT, SS, rfl, hX⟩ := hw
  obtain ⟨hu, ht, hf, hc, hb, hn, hn1, hG, hS, hct⟩ := id h
  obtain ⟨hXF, hC, hB, -, -, -⟩ := hX
  have w1 : ¬ nI x < 1 := nI_nlt (b := 1) h1 (by omega)
  have w2 : nI x ≤ 20 := nI_le (b := 20) hx (by decide)
  have c1 : s_X0_hasCable F (s_X0_slotOf (nI (k / 6)) (nI (k % 6))) = 0 ↔ xf k = 0 := by rw [slot_k, cab0 hk, FX_m1 hf hXF hk]
  have c2 : s_X0_hasCable F (s_X0_slotOf (nI (j / 6)) (nI (j % 6))) = 0 ↔ xf j = 0 := by rw [slot_k, cab0 hj, FX_m1 hf hXF hj]
  have ne : ¬ k / 6 = j / 6 → ¬ nI (k / 6) = nI (j / 6) := fun z y => z ((nI_eq (by omega) (by omega)).mp y)
  refine ⟨fun z => ?_, fun z y => ?_, fun z fk fj => ?_⟩
  · exact w_cable_IAE l (r := 0) (wx' := []) _ _ _ _ _ hx0 (kx_X0_cable_IAE l hst D cI ad (nA xu) (nA xt) F C B RU RC WU ST RP RN WT SS (nI (xn 0)) (nI (xn 1)) (nI (k / 6)) (nI (k % 6)) (nI (j / 6)) (nI (j % 6)) (nI x) (fun y => y.2.2.2.2.2.2 (by rw [z])))
  · exact w_cable_ISE l (r := 0) (wx' := []) _ _ _ _ _ hx0 (kx_X0_cable_ISE l hst D cI ad (nA xu) (nA xt) F C B RU RC WU ST RP RN WT SS (nI (xn 0)) (nI (xn 1)) (nI (k / 6)) (nI (k % 6)) (nI (j / 6)) (nI (j % 6)) (nI x) (okU_nI (by omega)) (okU_nI (by omega)) (okU_nI (by omega)) (okU_nI (by omega)) w1 w2 (ne z) (fun q => y ⟨c1.mp q.1, c2.mp q.2⟩))
  · obtain ⟨hL, hn0⟩ := h.lay hk hj z fk fj h1 hx
    refine ⟨hL, hn0, ?_⟩
    have kk := k_X0_cable l D cI ad (nA xu) (nA xt) F C B RU RC WU ST RP RN WT SS (nI (xn 0)) (nI (xn 1)) (nI (k / 6)) (nI (k % 6)) (nI (j / 6)) (nI (j % 6)) (nI x) (okU_nI (by omega)) (okU_nI (by omega)) (okU_nI (by omega)) (okU_nI (by omega)) w1 w2 (ne z) (c1.mpr fk) (c2.mpr fj)
    simp only [s_X0_cable, s_X0_cable_F, s_X0_cable_C, s_X0_cable_RU, s_X0_cable_RC, s_X0_cable_WU, s_X0_cable_WT, s_X0_cable_CC, s_X0_setCable_F, s_X0_setCable_C, slot_k, show nI (xn 0) + 1 = nI (xn 0 + 1) from nI_add (xn 0) 1] at kk
    exact ⟨_, ⟨_, _, B, _, _, _, ST, RP, RN, _, SS, by rw [updN_s, updN_n (show 1 ≠ 0 by decide)], PX_grow hL (hXF.lay hk hj) (hC.lay hk hj) hB⟩, w_cable_ok l _ _ _ _ _ hx0 kk⟩
theorem LIs.cut (h : LIs xu xt xf xc xb xn) {k : Nat} (hk : k < 36) (fk : ¬ xf k = 0) : LIs xu xt (updN (updN xf (xf k - 1) 0) k 0) xc xb (updN xn 0 (xn 0 - 1)) ∧ 1 ≤ xn 0 := by
  obtain ⟨hu, ht, hf, hc, hb, hn, hn1, hG, hS, hct⟩ := h
  obtain ⟨s1, s2, s3, s4⟩ := hS k hk fk
  have hfk := hf k
  have hne : k ≠ xf k - 1 := fun z => s2 (by rw [← z])
  have e := ct_cut (xf := xf) hk (show xf k - 1 < 36 by omega) hne fk (by rw [s1]; omega)
  have hn0 := hn 0
  refine ⟨⟨hu, ht, updN_le (updN_le hf (Nat.zero_le _)) (Nat.zero_le _), hc, hb, updN_le hn (by omega), by rw [updN_n (by decide)]; exact hn1, hG, fun i hi z => ?_, by rw [updN_s]; omega⟩, by omega⟩
  by_cases q1 : i = k
  · subst q1; exact absurd updN_s z
  · rw [updN_n q1] at z ⊢
    by_cases q2 : i = xf k - 1
    · subst q2; exact absurd updN_s z
    · rw [updN_n q2] at z ⊢
      obtain ⟨t1, t2, t3, t4⟩ := hS i hi z
      have hfi := hf i
      have m1 : xf i - 1 ≠ k := fun w => q2 (by rw [← w, t1]; omega)
      have m2 : xf i - 1 ≠ xf k - 1 := fun w => q1 (by rw [w, s1] at t1; omega)
      rw [updN_n m1, updN_n m2]
      exact ⟨t1, t2, t3, t4⟩
theorem FX.cut {F : Nat → Int32} (hX : FX xf F) {k j : Nat} (hk : k < 36) (hj : j < 36) : FX (updN (updN xf j 0) k 0) (xPut 36 (xPut 36 F (nI j) (-1)) (nI k) (-1)) := by
  rw [xPut_nI hj (by decide), xPut_nI hk (by decide)]
  intro i hi
  unfold fF
  by_cases q1 : i = k
  · subst q1
    rw [pk_us, updN_s, if_pos rfl]
  · rw [pk_un q1, updN_n q1]
    by_cases q2 : i = j
    · subst q2
      rw [pk_us, updN_s, if_pos rfl]
    · rw [pk_un q2, updN_n q2]
      exact hX i hi
theorem CX.cut {C : Nat → Int32} (hC : CX xf xc C) {k j : Nat} (hk : k < 36) (hj : j < 36) : CX (updN (updN xf j 0) k 0) xc (xPut 36 (xPut 36 C (nI j) 0) (nI k) 0) := by
  rw [xPut_nI hj (by decide), xPut_nI hk (by decide)]
  intro i hi z
  by_cases q1 : i = k
  · subst q1; exact absurd updN_s z
  · rw [updN_n q1] at z
    by_cases q2 : i = j
    · subst q2; exact absurd updN_s z
    · rw [updN_n q2] at z
      rw [pk_un q1, pk_un q2]
      exact hC i hi z
theorem e_pull (hst : l.stackTraces = false) (h : LIs xu xt xf xc xb xn) (hw : WQ cI ad xu xt xf xc xb xn wx) {k : Nat} (hk : k < 36) : (xf k = 0 → KE l yL_does wsL_does 8 138 D (TI cI) [.ref (ad 0), .int (nI 1), .int (nI (k / 6)), .int (nI (k % 6)), .int (nI 0)] wx wx (-14)) ∧ (¬ xf k = 0 → LIs xu xt (updN (updN xf (xf k - 1) 0) k 0) xc xb (updN xn 0 (xn 0 - 1)) ∧ 1 ≤ xn 0 ∧ ∃ wx', WQ cI ad xu xt (updN (updN xf (xf k - 1) 0) k 0) xc xb (updN xn 0 (xn 0 - 1)) wx' ∧ KE l yL_does wsL_does 8 138 D (TI cI) [.ref (ad 0), .int (nI 1), .int (nI (k / 6)), .int (nI (k % 6)), .int (nI 0)] wx wx' (nI (xc k))) := by
  have hx0 := hw.x0
  obtain ⟨F, C, B, RU, RC, WU, ST, RP, RN, WT, SS, rfl, hX⟩ := hw
  obtain ⟨hu, ht, hf, hc, hb, hn, hn1, hG, hS, hct⟩ := id h
  obtain ⟨hXF, hC, hB, -, -, -⟩ := hX
  have c1 : s_X0_hasCable F (s_X0_slotOf (nI (k / 6)) (nI (k % 6))) = 0 ↔ xf k = 0 := by rw [slot_k, cab0 hk, FX_m1 hf hXF hk]
  refine ⟨fun z => ?_, fun z => ?_⟩
  · exact w_pull_NSE l (r := 0) (wx' := []) _ _ _ hx0 (kx_X0_pull_NSE l hst D cI ad (nA xu) (nA xt) F C B RU RC WU ST RP RN WT SS (nI (xn 0)) (nI (xn 1)) (nI (k / 6)) (nI (k % 6)) (okU_nI (by omega)) (okU_nI (by omega)) (c1.mpr z))
  · obtain ⟨hL, hn0⟩ := h.cut hk z
    refine ⟨hL, hn0, ?_⟩
    have hfk := hf k
    have eF : xAt 36 F (nI k) = nI (xf k - 1) := by rw [xAt_nI hk (by decide), hXF k hk, fF, if_neg z]
    have eC : xAt 36 C (nI k) = nI (xc k) := by rw [xAt_nI hk (by decide), hC k hk z]
    have kk := k_X0_pull l D cI ad (nA xu) (nA xt) F C B RU RC WU ST RP RN WT SS (nI (xn 0)) (nI (xn 1)) (nI (k / 6)) (nI (k % 6)) (okU_nI (by omega)) (okU_nI (by omega)) (fun y => z (c1.mp y))
    simp only [s_X0_pull, s_X0_pull_F, s_X0_pull_C, s_X0_pull_RU, s_X0_pull_RC, s_X0_pull_WU, s_X0_pull_WT, s_X0_pull_CC, s_X0_slotWithCable, s_X0_setCable_F, s_X0_setCable_C, slot_k, eF, eC, show nI (xn 0) - 1 = nI (xn 0 - 1) from pk_sub (b := 1) hn0] at kk
    exact ⟨_, ⟨_, _, B, _, _, _, ST, RP, RN, _, SS, by rw [updN_s, updN_n (show 1 ≠ 0 by decide)], PX_grow hL (hXF.cut hk (by omega)) (hC.cut hk (by omega)) hB⟩, w_pull_ok l _ _ _ hx0 kk⟩
theorem e_tree (h : LIs xu xt xf xc xb xn) (hw : WQ cI ad xu xt xf xc xb xn wx) {b : Nat} (hb : b ≤ 1) : LIs xu xt xf xc xb (updN xn 1 b) ∧ ∃ wx', WQ cI ad xu xt xf xc xb (updN xn 1 b) wx' ∧ Ki l yX0_tree wsX0_tree 0 0 0 0 D (TI cI) [.ref (ad 0), .int (nI b)] wx wx' (nI (xn 1)) := by
  obtain ⟨F, C, B, RU, RC, WU, ST, RP, RN, WT, SS, rfl, hX⟩ := hw
  obtain ⟨hu, ht, hf, hc, hb', hn, hn1, hG, hS, hct⟩ := id h
  have kk := k_X0_tree l D cI ad (nA xu) (nA xt) F C B RU RC WU ST RP RN WT SS (nI (xn 0)) (nI (xn 1)) (nI b) (tr01 hb) (tr01 hn1)
  rw [s_X0_tree, s_X0_tree_TR] at kk
  exact ⟨⟨hu, ht, hf, hc, hb', updN_le hn (by omega), by rw [updN_s]; exact hb, hG, hS, by rw [updN_n (by decide)]; exact hct⟩, _, ⟨F, C, B, RU, RC, WU, ST, RP, RN, WT, SS, by rw [updN_s, updN_n (show 0 ≠ 1 by decide)], hX⟩, kk⟩
theorem BX.put {B : Nat → Int32} (hB : BX xb B) {k x : Nat} (hk : k < 36) {y : Int32} (hy : y = if x = 0 then -1 else s_X0_endName (nI (x - 1))) : BX (updN xb k x) (xPut 36 B (nI k) y) := by
  rw [xPut_nI hk (by decide)]
  intro i hi
  unfold fB
  by_cases q : i = k
  · subst q; rw [pk_us, updN_s]; exact hy
  · rw [pk_un q, updN_n q]; exact hB i hi
theorem e_note (h : LIs xu xt xf xc xb xn) (hw : WQ cI ad xu xt xf xc xb xn wx) {k x : Nat} (hk : k < 36) (hx : x ≤ 36) : LIs xu xt xf xc (updN xb k x) xn ∧ ∃ wx', WQ cI ad xu xt xf xc (updN xb k x) xn wx' ∧ Ki l yX0_note wsX0_note 2 41 0 0 D (TI cI) [.ref (ad 0), .int (nI (k / 6)), .int (nI (k % 6)), .int (if x = 0 then -1 else nI ((x - 1) / 6)), .int (if x = 0 then nI 9 else nI ((x - 1) % 6))] wx wx' (if xb k = 0 then 0 else 1) := by
  obtain ⟨F, C, B, RU, RC, WU, ST, RP, RN, WT, SS, rfl, hX⟩ := hw
  obtain ⟨hu, ht, hf, hc, hb, hn, hn1, hG, hS, hct⟩ := id h
  obtain ⟨hXF, hC, hB, h4, h5, h6⟩ := hX
  refine ⟨⟨hu, ht, hf, hc, updN_le hb hx, hn, hn1, hG, hS, hct⟩, ?_⟩
  have hbk := hb k
  have er : (if xAt 36 B (nI k) = -1 then (0 : Int32) else 1) = if xb k = 0 then 0 else 1 := by
    rw [xAt_nI hk (by decide), hB k hk, fB]
    by_cases z : xb k = 0
    · rw [if_pos z, if_pos rfl, if_pos z]
    · rw [if_neg z, if_neg (end_ne (by omega)), if_neg z]
  by_cases q : x = 0
  · have kk := k_X0_note l D cI ad (nA xu) (nA xt) F C B RU RC WU ST RP RN WT SS (nI (xn 0)) (nI (xn 1)) (nI (k / 6)) (nI (k % 6)) (-1) (nI 9) (okU_nI (by omega)) (okU_nI (by omega)) (Or.inl rfl)
    rw [s_X0_note, s_X0_note_B, slot_k, er, if_pos rfl] at kk
    rw [if_pos q, if_pos q]
    exact ⟨_, ⟨F, C, _, RU, RC, WU, ST, RP, RN, WT, SS, rfl, hXF, hC, hB.put hk (by rw [if_pos q]), h4, h5, h6⟩, kk⟩
  · have kk := k_X0_note l D cI ad (nA xu) (nA xt) F C B RU RC WU ST RP RN WT SS (nI (xn 0)) (nI (xn 1)) (nI (k / 6)) (nI (k % 6)) (nI ((x - 1) / 6)) (nI ((x - 1) % 6)) (okU_nI (by omega)) (okU_nI (by omega)) (Or.inr ⟨okU_nI (by omega), okU_nI (by omega)⟩)
    rw [s_X0_note, s_X0_note_B, slot_k, slot_k, er, if_neg (nI_m1 (by omega))] at kk
    rw [if_neg q, if_neg q]
    exact ⟨_, ⟨F, C, _, RU, RC, WU, ST, RP, RN, WT, SS, rfl, hXF, hC, hB.put hk (by rw [if_neg q]), h4, h5, h6⟩, kk⟩
end DEEDS
