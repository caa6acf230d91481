/-! what spreads holds behind so many steps; hops, used, islands, loops, changes -/
def eq6 (a b : Nat → Nat) : Prop := ∀ j, j < 6 → a j = b j
/-- one step of all places over all cables -/
def stM (xu xt xf : Nat → Nat) (live : Nat) (m : Nat → Nat) : Nat → Nat := lp (s_L_spreads_L2 xu xt xf live m) 36 m
/-- the places that a place reaches over at most k cables, a set of lanes for each switch -/
def SK (xu xt xf : Nat → Nat) (live unit lane k : Nat) : Nat → Nat := lp (fun _ => stM xu xt xf live) k (fun j => if j = unit then 2 ^ lane else 0)
theorem lp_in {α : Type} (f : α → α) : ∀ n s, lp (fun _ => f) (n + 1) s = lp (fun _ => f) n (f s) := by
  intro n
  induction n with
  | zero => intro s; rfl
  | succ n ih => intro s; rw [lp_succ, ih s, lp_succ]
theorem wl_inv {α : Type} {p : α → Nat} {f : α → α} (R : α → Prop) (h : ∀ a, R a → R (f a)) : ∀ n a, R a → R (wl p f n a) := by
  intro n
  induction n with
  | zero => intro a ha; exact ha
  | succ n ih =>
    intro a ha
    show R (if p a = 0 then a else wl p f n (f a))
    split
    · exact ha
    · exact ih _ (h a ha)
section SPR
variable {xu xt xf : Nat → Nat} {live unit lane : Nat}
theorem L2_eq6 (hf : ∀ k, xf k ≤ 36) {m m' w w' : Nat → Nat} (hm : eq6 m m') {i : Nat} (hi : i < 36) (hw : eq6 w w') : eq6 (s_L_spreads_L2 xu xt xf live m i w) (s_L_spreads_L2 xu xt xf live m' i w') := by
  intro j hj
  have h1 := hf i
  unfold s_L_spreads_L2
  rw [hm (i / 6) (by omega)]
  split
  · unfold updN
    split
    · rw [hw ((xf i - 1) / 6) (by omega)]
    · exact hw j hj
  · exact hw j hj
theorem st_eq6 (hf : ∀ k, xf k ≤ 36) {m m' w w' : Nat → Nat} (hm : eq6 m m') (hw : eq6 w w') : eq6 (lp (s_L_spreads_L2 xu xt xf live m) 36 w) (lp (s_L_spreads_L2 xu xt xf live m') 36 w') :=
  lp_rel eq6 (f := s_L_spreads_L2 xu xt xf live m) (g := s_L_spreads_L2 xu xt xf live m') 36 (fun i hi a b hab => L2_eq6 hf hm hi hab) w w' hw
theorem L3_eq (w m : Nat → Nat) : ∀ n, (lp (s_L_spreads_L3 w) n (0, m)).2 = (fun j => if j < n then w j else m j) ∧ ((lp (s_L_spreads_L3 w) n (0, m)).1 = 0 ↔ ∀ j, j < n → w j = m j) := by
  intro n
  induction n with
  | zero => exact ⟨by funext j; simp [lp], ⟨fun _ j hj => absurd hj (Nat.not_lt_zero j), fun _ => rfl⟩⟩
  | succ n ih =>
    rw [lp_succ]
    generalize lp (s_L_spreads_L3 w) n (0, m) = z at ih ⊢
    obtain ⟨g, mm⟩ := z
    obtain ⟨h1, h2⟩ := ih
    have h1 : mm = fun j => if j < n then w j else m j := h1
    have h2 : g = 0 ↔ ∀ j, j < n → w j = m j := h2
    have hn : mm n = m n := by rw [h1]; exact if_neg (Nat.lt_irrefl n)
    have e2 : updN mm n (w n) = fun j => if j < n + 1 then w j else m j := by
      funext j
      unfold updN
      by_cases q : j = n
      · subst q; rw [if_pos rfl, if_pos (Nat.lt_succ_self j)]
      · rw [if_neg q, h1]
        by_cases q2 : j < n
        · show (if j < n then w j else m j) = _
          rw [if_pos q2, if_pos (by omega)]
        · show (if j < n then w j else m j) = _
          rw [if_neg q2, if_neg (by omega)]
    unfold s_L_spreads_L3
    show ((if g = 0 then (if w n = mm n then (0, updN mm n (w n)) else (1, updN mm n (w n))) else (1, updN mm n (w n)) : Nat × (Nat → Nat)).2 = _) ∧ ((if g = 0 then (if w n = mm n then (0, updN mm n (w n)) else (1, updN mm n (w n))) else (1, updN mm n (w n)) : Nat × (Nat → Nat)).1 = 0 ↔ _)
    by_cases q : g = 0
    · rw [if_pos q]
      by_cases q2 : w n = mm n
      · rw [if_pos q2]
        refine ⟨e2, ⟨fun _ j hj => ?_, fun _ => rfl⟩⟩
        by_cases q3 : j = n
        · subst q3; rw [q2, hn]
        · exact h2.mp q j (by omega)
      · rw [if_neg q2]
        exact ⟨e2, ⟨fun z => absurd (show (1 : Nat) = 0 from z) (by decide), fun z => absurd (by rw [hn]; exact z n (Nat.lt_succ_self n)) q2⟩⟩
    · rw [if_neg q]
      exact ⟨e2, ⟨fun z => absurd (show (1 : Nat) = 0 from z) (by decide), fun z => absurd (h2.mpr (fun j hj => z j (by omega))) q⟩⟩
theorem wl_SK (hf : ∀ k, xf k ≤ 36) : ∀ n (m w m0 : Nat → Nat) (g : Nat), eq6 m m0 → eq6 w m0 → (g = 0 → eq6 (stM xu xt xf live m0) m0) → eq6 (wl (fun z => z.2.2) (s_L_spreads_B xu xt xf live) n (m, w, g)).1 (lp (fun _ => stM xu xt xf live) n m0) := by
  intro n
  induction n with
  | zero => intro m w m0 g hm _ _; exact hm
  | succ n ih =>
    intro m w m0 g hm hw hg
    by_cases q : g = 0
    · rw [wl_stop (p := fun z : (Nat → Nat) × (Nat → Nat) × Nat => z.2.2) (s := (m, w, g)) q]
      have key : ∀ k, eq6 m0 (lp (fun _ => stM xu xt xf live) k m0) := by
        intro k
        induction k with
        | zero => exact fun _ _ => rfl
        | succ k ih2 =>
          intro j hj
          have h5 := st_eq6 (xu := xu) (xt := xt) (live := live) hf ih2 ih2
          exact (hg q j hj).symm.trans (h5 j hj)
      intro j hj
      rw [← key (n + 1) j hj]
      exact hm j hj
    · rw [wl_go (p := fun z : (Nat → Nat) × (Nat → Nat) × Nat => z.2.2) (s := (m, w, g)) q, lp_in]
      have e := L3_eq (lp (s_L_spreads_L2 xu xt xf live m) 36 w) m 6
      have e0 : eq6 (lp (s_L_spreads_L2 xu xt xf live m) 36 w) (stM xu xt xf live m0) := st_eq6 hf hm hw
      show eq6 (wl _ _ n ((lp (s_L_spreads_L3 (lp (s_L_spreads_L2 xu xt xf live m) 36 w)) 6 (0, m)).2, lp (s_L_spreads_L2 xu xt xf live m) 36 w, (lp (s_L_spreads_L3 (lp (s_L_spreads_L2 xu xt xf live m) 36 w)) 6 (0, m)).1)).1 _
      refine ih _ _ _ _ (fun j hj => ?_) e0 (fun h => ?_)
      · rw [e.1]
        show (if j < 6 then _ else _) = _
        rw [if_pos hj]
        exact e0 j hj
      · have h2 := e.2.mp h
        have h3 : eq6 (stM xu xt xf live m0) m0 := fun j hj => by rw [← e0 j hj, h2 j hj, hm j hj]
        exact st_eq6 hf h3 h3
theorem L1_eq (xm : Nat → Nat) : ∀ n, n ≤ 6 → ∀ j, j < n → (lp (s_L_spreads_L1 unit lane) n (xm, fun _ => 0)).1 j = (if j = unit then 2 ^ lane else 0) ∧ (lp (s_L_spreads_L1 unit lane) n (xm, fun _ => 0)).2 j = (if j = unit then 2 ^ lane else 0) := by
  intro n
  induction n with
  | zero => intro _ j hj; omega
  | succ n ih =>
    intro hn j hj
    rw [lp_succ]
    have ih := ih (by omega)
    generalize lp (s_L_spreads_L1 unit lane) n (xm, fun _ => 0) = z at ih ⊢
    obtain ⟨a, b⟩ := z
    unfold s_L_spreads_L1
    dsimp only at ih ⊢
    by_cases q : j = n
    · subst q
      by_cases q2 : j = unit
      · rw [if_pos q2, if_pos q2]; exact ⟨updN_s, updN_s⟩
      · rw [if_neg q2, if_neg q2]; exact ⟨updN_s, updN_s⟩
    · have h1 := ih j (by omega)
      split
      · exact ⟨(updN_n q).trans h1.1, (updN_n q).trans h1.2⟩
      · exact ⟨(updN_n q).trans h1.1, (updN_n q).trans h1.2⟩
theorem sp_SK (hf : ∀ k, xf k ≤ 36) (many : Nat) (xm : Nat → Nat) : eq6 (s_L_spreads_xm xu xt xf live unit lane many xm) (SK xu xt xf live unit lane many) := by
  have h := L1_eq (unit := unit) (lane := lane) xm 6 (Nat.le_refl 6)
  unfold s_L_spreads_xm SK
  exact wl_SK hf many _ _ _ 1 (fun j hj => (h j hj).1) (fun j hj => (h j hj).2) (fun z => absurd z (by decide))
theorem lt_spreads (hu : ∀ k, xu k ≤ 15) (hLa : lane < 16) {many : Nat} {xm : Nat → Nat} (hm : ∀ k, xm k < 65536) : ∀ k, s_L_spreads_xm xu xt xf live unit lane many xm k < 65536 := by
  have h0 : (∀ k, (lp (s_L_spreads_L1 unit lane) 6 (xm, fun _ => 0)).1 k < 65536) ∧ ∀ k, (lp (s_L_spreads_L1 unit lane) 6 (xm, fun _ => 0)).2 k < 65536 := by
    refine lp_inv (fun z : (Nat → Nat) × (Nat → Nat) => (∀ k, z.1 k < 65536) ∧ ∀ k, z.2 k < 65536) 6 (fun i _ a ha => ?_) _ ⟨hm, z16⟩
    obtain ⟨a, b⟩ := a
    unfold s_L_spreads_L1
    dsimp only at ha ⊢
    split
    · exact ⟨updN_lt ha.1 (pow_lt16 hLa), updN_lt ha.2 (pow_lt16 hLa)⟩
    · exact ⟨updN_lt ha.1 (by decide), updN_lt ha.2 (by decide)⟩
  unfold s_L_spreads_xm
  refine (wl_inv (fun z : (Nat → Nat) × (Nat → Nat) × Nat => (∀ k, z.1 k < 65536) ∧ ∀ k, z.2.1 k < 65536) (fun z hz => ?_) many _ h0).1
  obtain ⟨m, w, g⟩ := z
  dsimp only at hz
  have hw : ∀ k, lp (s_L_spreads_L2 xu xt xf live m) 36 w k < 65536 := by
    refine lp_inv (fun z : Nat → Nat => ∀ k, z k < 65536) 36 (fun i _ a ha => ?_) _ hz.2
    unfold s_L_spreads_L2
    split
    · exact updN_lt ha (or_lt16 (ha _) (lt_comes hu (hz.1 _)))
    · exact ha
  refine ⟨fun k => ?_, hw⟩
  show (lp (s_L_spreads_L3 (lp (s_L_spreads_L2 xu xt xf live m) 36 w)) 6 (0, m)).2 k < 65536
  rw [(L3_eq _ m 6).1]
  show (if k < 6 then _ else _) < 65536
  split
  · exact hw k
  · exact hz.1 k
end SPR
/-- the first k from k0 on, of n, that p holds of -/
def fstB (p : Nat → Bool) : Nat → Nat → Nat
  | 0, k => k
  | n + 1, k => if p k = true then k else fstB p n (k + 1)
def s_L_hops (xu xt xf : Nat → Nat) (live unit lane ou ol : Nat) : Int32 := if SK xu xt xf live unit lane 90 ou / 2 ^ ol % 2 = 0 then -1 else nI (fstB (fun k => decide (SK xu xt xf live unit lane k ou / 2 ^ ol % 2 = 1)) 90 0)
theorem ac_L_hops : Cond.arrayClass .int ∈ wsL_hops := by decide +kernel
set_option maxHeartbeats 4000000 in
set_option maxRecDepth 100000 in
theorem k_L_hops (l : Launch) (D : va_G) (cI : ClassId) (ua ta fa : Nat) (xu xt xf : Nat → Nat) (live unit lane ou ol : Nat) (hu : ∀ k, xu k ≤ 15) (ht : ∀ k, xt k < 65536) (hf : ∀ k, xf k ≤ 36) (hli : live < 2 ^ 36) (hlv : ∀ k, k < 36 → live / 2 ^ k % 2 = 1 → ¬ xf k = 0) (hUn : unit < 6) (hLa : lane < 16) (hOu : ou < 6) (hOl : ol < 16) : Ki l yL_hops wsL_hops 2 58 93 558 D (TI cI) [.ref ua, .ref ta, .ref fa, .long (nJ live), .int (nI unit), .int (nI lane), .int (nI ou), .int (nI ol)] ([(ua, .inl (cI, 36, .inl (nA xu))), (ta, .inl (cI, 36, .inl (nA xt))), (fa, .inl (cI, 36, .inl (nA xf)))]) ([(ua, .inl (cI, 36, .inl (nA xu))), (ta, .inl (cI, 36, .inl (nA xt))), (fa, .inl (cI, 36, .inl (nA xf)))]) (s_L_hops xu xt xf live unit lane ou ol) := by
  refine Ki.of (cc := cL_hops) (maxL := 11) (rt := .int) (lv0 := [(0, .ref ua), (1, .ref ta), (2, .ref fa), (3, .long (nJ live)), (5, .int (nI unit)), (6, .int (nI lane)), (7, .int (nI ou)), (8, .int (nI ol))]) (by decide +kernel) rfl (Nat.le_of_ble_eq_true rfl) rfl ?_
  intro p e s m args below meth c A C0 hr hlk hK hA
  refine v_bipush C0 (pc' := 2) (nI 6) (by decide +kernel) dL_hops_0 rfl ?_
  refine v_newN C0 hK hA 0 rfl (N := 6) (pc' := 4) (k' := 1) (n' := 6) (by decide) (Nat.le_of_ble_eq_true rfl) (Nat.le_of_ble_eq_true rfl) ac_L_hops dL_hops_2 rfl rfl rfl (fun ma => ?_)
  refine v_astore C0 (lv' := [(9, .ref ma), (0, .ref ua), (1, .ref ta), (2, .ref fa), (3, .long (nJ live)), (5, .int (nI unit)), (6, .int (nI lane)), (7, .int (nI ou)), (8, .int (nI ol))]) (pc' := 6) (by decide) rfl dL_hops_4 rfl ?_
  refine v_aload_n C0 (pc' := 7) 1 rfl rfl dL_hops_6 rfl ?_
  refine v_aload_n C0 (pc' := 8) 2 rfl rfl dL_hops_7 rfl ?_
  refine v_aload_n C0 (pc' := 9) 3 rfl rfl dL_hops_8 rfl ?_
  refine v_lload_n C0 (pc' := 10) 4 rfl rfl dL_hops_9 rfl ?_
  refine v_iload C0 (pc' := 12) 5 rfl dL_hops_10 rfl ?_
  refine v_iload C0 (pc' := 14) 6 rfl dL_hops_12 rfl ?_
  refine v_bipush C0 (pc' := 16) (nI 90) (by decide +kernel) dL_hops_14 rfl ?_
  refine v_aload C0 (pc' := 18) 0 rfl dL_hops_16 rfl ?_
  refine v_callSv C0 (av := [.ref ua, .ref ta, .ref fa, .long (nJ live), .int (nI unit), .int (nI lane), .int (nI 90), .ref ma]) (rest := []) (ws' := [(ma, .inl (cI, 6, .inl (nA (s_L_spreads_xm xu xt xf live unit lane 90 (fun _ => 0))))), (ua, .inl (cI, 36, .inl (nA xu))), (ta, .inl (cI, 36, .inl (nA xt))), (fa, .inl (cI, 36, .inl (nA xf)))]) (pc' := 21) hK hA (k_L_spreads l D cI ua ta fa ma xu xt xf (fun _ => 0) live unit lane 90 hu ht hf z16 (by omega) hlv (by omega) (by omega) (by omega)) (va_cwS 8 C0.2.2.2.2 gL_hops_L_spreads rfl rfl rfl (by decide +kernel) ⟨Nat.le_of_ble_eq_true rfl, Nat.le_of_ble_eq_true rfl⟩) (PLs.of (isC := [1, 2, 3, 0]) (isR := []) (isP := [3, 0, 1, 2]) (wr := []) ⟨rfl, by decide, rfl, by decide, by decide, rfl, by decide⟩) rfl rfl (Nat.le_of_ble_eq_true rfl) ⟨(Nat.le_of_ble_eq_true rfl), (Nat.le_of_ble_eq_true rfl)⟩ dL_hops_18 rfl ?_
  refine v_aload C0 (pc' := 23) 0 rfl dL_hops_21 rfl ?_
  refine v_iload C0 (pc' := 25) 7 rfl dL_hops_23 rfl ?_
  refine v_ialdN C0 hK (pc' := 26) 0 0 rfl rfl (by omega) (by decide) dL_hops_25 rfl ?_
  refine v_iload C0 (pc' := 28) 8 rfl dL_hops_26 rfl ?_
  refine v_ishrN C0 (pc' := 29) (by have := (lt_spreads (xu := xu) (xt := xt) (xf := xf) (live := live) (unit := unit) (lane := lane) (many := 90) hu hLa z16) ou; omega) (by omega) dL_hops_28 rfl ?_
  refine v_iconst C0 (pc' := 30) (nI 1) (by decide +kernel) dL_hops_29 rfl ?_
  refine v_iand1 C0 (pc' := 31) dL_hops_30 rfl ?_
  refine v_if_neN C0 36 (pc' := 34) (by have := (lt_spreads (xu := xu) (xt := xt) (xf := xf) (live := live) (unit := unit) (lane := lane) (many := 90) hu hLa z16) ou; omega) dL_hops_31 (by decide) rfl (fun h1 => ?_) (fun h1 => ?_)
  · have h90 : ¬ SK xu xt xf live unit lane 90 ou / 2 ^ ol % 2 = 0 := fun z => h1 (by rw [← sp_SK (xm := fun _ => 0) hf 90 ou hOu] at z; exact z)
    refine v_iconst C0 (pc' := 37) (nI 0) (by decide +kernel) dL_hops_36 rfl ?_
    refine v_istore C0 (lv' := [(10, .int (nI 0)), (9, .ref ma), (0, .ref ua), (1, .ref ta), (2, .ref fa), (3, .long (nJ live)), (5, .int (nI unit)), (6, .int (nI lane)), (7, .int (nI ou)), (8, .int (nI ol))]) (pc' := 39) (by decide) rfl dL_hops_37 rfl ?_
    refine v_aload_n C0 (pc' := 40) 2 rfl rfl dL_hops_39 rfl ?_
    refine v_aload_n C0 (pc' := 41) 3 rfl rfl dL_hops_40 rfl ?_
    refine v_aload_n C0 (pc' := 42) 4 rfl rfl dL_hops_41 rfl ?_
    refine v_lload_n C0 (pc' := 43) 5 rfl rfl dL_hops_42 rfl ?_
    refine v_iload C0 (pc' := 45) 6 rfl dL_hops_43 rfl ?_
    refine v_iload C0 (pc' := 47) 7 rfl dL_hops_45 rfl ?_
    refine v_iconst C0 (pc' := 48) (nI 0) (by decide +kernel) dL_hops_47 rfl ?_
    refine v_aload C0 (pc' := 50) 1 rfl dL_hops_48 rfl ?_
    refine v_callSv C0 (av := [.ref ua, .ref ta, .ref fa, .long (nJ live), .int (nI unit), .int (nI lane), .int (nI 0), .ref ma]) (rest := []) (ws' := [(ma, .inl (cI, 6, .inl (nA (s_L_spreads_xm xu xt xf live unit lane 0 (s_L_spreads_xm xu xt xf live unit lane 90 (fun _ => 0)))))), (ua, .inl (cI, 36, .inl (nA xu))), (ta, .inl (cI, 36, .inl (nA xt))), (fa, .inl (cI, 36, .inl (nA xf)))]) (pc' := 53) hK hA (k_L_spreads l D cI ua ta fa ma xu xt xf (s_L_spreads_xm xu xt xf live unit lane 90 (fun _ => 0)) live unit lane 0 hu ht hf (lt_spreads (xu := xu) (xt := xt) (xf := xf) (live := live) (unit := unit) (lane := lane) (many := 90) hu hLa z16) (by omega) hlv (by omega) (by omega) (by omega)) (va_cwS 8 C0.2.2.2.2 gL_hops_L_spreads rfl rfl rfl (by decide +kernel) ⟨Nat.le_of_ble_eq_true rfl, Nat.le_of_ble_eq_true rfl⟩) (PLs.of (isC := [1, 2, 3, 0]) (isR := []) (isP := [3, 0, 1, 2]) (wr := []) ⟨rfl, by decide, rfl, by decide, by decide, rfl, by decide⟩) rfl rfl (Nat.le_of_ble_eq_true rfl) ⟨(Nat.le_of_ble_eq_true rfl), (Nat.le_of_ble_eq_true rfl)⟩ dL_hops_50 rfl ?_
    suffices LP_H : ∀ (j_H i_H : Nat) (mh : Nat → Nat), i_H + j_H = 90 → eq6 mh (SK xu xt xf live unit lane i_H) → (∀ k, mh k < 65536) → fstB (fun k => decide (SK xu xt xf live unit lane k ou / 2 ^ ol % 2 = 1)) 90 0 = fstB (fun k => decide (SK xu xt xf live unit lane k ou / 2 ^ ol % 2 = 1)) j_H i_H → V p l e { frames := 2, cells := 93, slots := 558, locals := 58 } s m args below meth c D A 11 (3 + i_H) (18 + 6 * i_H) (MQ below (QI D (TI cI) ([(ua, .inl (cI, 36, .inl (nA xu))), (ta, .inl (cI, 36, .inl (nA xt))), (fa, .inl (cI, 36, .inl (nA xf)))]) A (s_L_hops xu xt xf live unit lane ou ol)) args s 93 558 A) ([(ma, .inl (cI, 6, .inl (nA mh))), (ua, .inl (cI, 36, .inl (nA xu))), (ta, .inl (cI, 36, .inl (nA xt))), (fa, .inl (cI, 36, .inl (nA xf)))]) [(10, .int (nI i_H)), (9, .ref ma), (0, .ref ua), (1, .ref ta), (2, .ref fa), (3, .long (nJ live)), (5, .int (nI unit)), (6, .int (nI lane)), (7, .int (nI ou)), (8, .int (nI ol))] 53 [] by
      exact v_sub (lv' := [(10, .int (nI 0)), (9, .ref ma), (0, .ref ua), (1, .ref ta), (2, .ref fa), (3, .long (nJ live)), (5, .int (nI unit)), (6, .int (nI lane)), (7, .int (nI ou)), (8, .int (nI ol))]) [0, 1, 2, 3, 4, 5, 6, 7, 8, 9] rfl (LP_H 90 0 (s_L_spreads_xm xu xt xf live unit lane 0 (s_L_spreads_xm xu xt xf live unit lane 90 (fun _ => 0))) (Nat.zero_add _) (sp_SK hf _ _) (lt_spreads hu hLa (lt_spreads hu hLa z16)) rfl)
    intro j_H
    induction j_H with
    | zero =>
      intro i_H mh hi_H hm_H hl_H hF_H
      have hi_H : i_H = 90 := by omega
      subst hi_H
      refine v_aload C0 (pc' := 55) 1 rfl dL_hops_53 rfl ?_
      refine v_iload C0 (pc' := 57) 8 rfl dL_hops_55 rfl ?_
      refine v_ialdN C0 hK (pc' := 58) 0 0 rfl rfl (by omega) (by decide) dL_hops_57 rfl ?_
      refine v_iload C0 (pc' := 60) 9 rfl dL_hops_58 rfl ?_
      refine v_ishrN C0 (pc' := 61) (by have := hl_H ou; omega) (by omega) dL_hops_60 rfl ?_
      refine v_iconst C0 (pc' := 62) (nI 1) (by decide +kernel) dL_hops_61 rfl ?_
      refine v_iand1 C0 (pc' := 63) dL_hops_62 rfl ?_
      refine v_if_neN C0 87 (pc' := 66) (by have := hl_H ou; omega) dL_hops_63 (by decide) rfl (fun h2 => ?_) (fun h2 => ?_)
      · refine v_iload C0 (pc' := 89) 0 rfl dL_hops_87 rfl ?_
        refine v_tail ?_
        refine v_widen (k2 := 93) (n2 := 558) (by omega) (by omega) ?_
        exact v_iret C0 hr hlk hK (by unfold s_L_hops; rw [if_neg h90, hF_H]; rfl) dL_hops_89
      · exact absurd ((congrArg (fun z => z / 2 ^ ol % 2) (hm_H ou hOu)).symm.trans h2) h90
    | succ j_H ih_H =>
      intro i_H mh hi_H hm_H hl_H hF_H
      refine v_aload C0 (pc' := 55) 1 rfl dL_hops_53 rfl ?_
      refine v_iload C0 (pc' := 57) 8 rfl dL_hops_55 rfl ?_
      refine v_ialdN C0 hK (pc' := 58) 0 0 rfl rfl (by omega) (by decide) dL_hops_57 rfl ?_
      refine v_iload C0 (pc' := 60) 9 rfl dL_hops_58 rfl ?_
      refine v_ishrN C0 (pc' := 61) (by have := hl_H ou; omega) (by omega) dL_hops_60 rfl ?_
      refine v_iconst C0 (pc' := 62) (nI 1) (by decide +kernel) dL_hops_61 rfl ?_
      refine v_iand1 C0 (pc' := 63) dL_hops_62 rfl ?_
      refine v_if_neN C0 87 (pc' := 66) (by have := hl_H ou; omega) dL_hops_63 (by decide) rfl (fun h3 => ?_) (fun h3 => ?_)
      · refine v_iload C0 (pc' := 89) 0 rfl dL_hops_87 rfl ?_
        refine v_tail ?_
        refine v_widen (k2 := 93) (n2 := 558) (by omega) (by omega) ?_
        exact v_iret C0 hr hlk hK (by unfold s_L_hops; rw [if_neg h90, hF_H]; refine congrArg nI (Eq.symm (if_pos (decide_eq_true ?_))); rw [← hm_H ou hOu]; omega) dL_hops_89
      · refine v_iincN C0 (lv' := [(10, .int (nI (i_H + 1))), (9, .ref ma), (0, .ref ua), (1, .ref ta), (2, .ref fa), (3, .long (nJ live)), (5, .int (nI unit)), (6, .int (nI lane)), (7, .int (nI ou)), (8, .int (nI ol))]) (y := 1) (pc' := 69) 0 rfl (by decide) rfl dL_hops_66 rfl ?_
        refine v_aload_n C0 (pc' := 70) 2 rfl rfl dL_hops_69 rfl ?_
        refine v_aload_n C0 (pc' := 71) 3 rfl rfl dL_hops_70 rfl ?_
        refine v_aload_n C0 (pc' := 72) 4 rfl rfl dL_hops_71 rfl ?_
        refine v_lload_n C0 (pc' := 73) 5 rfl rfl dL_hops_72 rfl ?_
        refine v_iload C0 (pc' := 75) 6 rfl dL_hops_73 rfl ?_
        refine v_iload C0 (pc' := 77) 7 rfl dL_hops_75 rfl ?_
        refine v_iload C0 (pc' := 79) 0 rfl dL_hops_77 rfl ?_
        refine v_aload C0 (pc' := 81) 1 rfl dL_hops_79 rfl ?_
        refine v_callSv C0 (av := [.ref ua, .ref ta, .ref fa, .long (nJ live), .int (nI unit), .int (nI lane), .int (nI (i_H + 1)), .ref ma]) (rest := []) (ws' := [(ma, .inl (cI, 6, .inl (nA (s_L_spreads_xm xu xt xf live unit lane (i_H + 1) mh)))), (ua, .inl (cI, 36, .inl (nA xu))), (ta, .inl (cI, 36, .inl (nA xt))), (fa, .inl (cI, 36, .inl (nA xf)))]) (pc' := 84) hK hA (k_L_spreads l D cI ua ta fa ma xu xt xf mh live unit lane (i_H + 1) hu ht hf hl_H (by omega) hlv (by omega) (by omega) (by omega)) (va_cwS 8 C0.2.2.2.2 gL_hops_L_spreads rfl rfl rfl (by decide +kernel) ⟨Nat.le_of_ble_eq_true rfl, Nat.le_of_ble_eq_true rfl⟩) (PLs.of (isC := [1, 2, 3, 0]) (isR := []) (isP := [3, 0, 1, 2]) (wr := []) ⟨rfl, by decide, rfl, by decide, by decide, rfl, by decide⟩) rfl rfl (Nat.le_of_ble_eq_true rfl) ⟨(by show 3 + i_H + 1 ≤ 93; omega), (by show 18 + 6 * i_H + 6 ≤ 558; omega)⟩ dL_hops_81 rfl ?_
        refine v_goto C0 53 dL_hops_84 (by decide) ?_
        have hx_H : ¬ ((fun k => decide (SK xu xt xf live unit lane k ou / 2 ^ ol % 2 = 1)) i_H = true) := fun z => by have z2 := of_decide_eq_true z; rw [← hm_H ou hOu] at z2; omega
        refine v_widen (k2 := 3 + (i_H + 1)) (n2 := 18 + 6 * (i_H + 1)) (by omega) (by omega) ?_
        exact v_sub (lv' := [(10, .int (nI (i_H + 1))), (9, .ref ma), (0, .ref ua), (1, .ref ta), (2, .ref fa), (3, .long (nJ live)), (5, .int (nI unit)), (6, .int (nI lane)), (7, .int (nI ou)), (8, .int (nI ol))]) [0, 1, 2, 3, 4, 5, 6, 7, 8, 9] rfl (ih_H (i_H + 1) (s_L_spreads_xm xu xt xf live unit lane (i_H + 1) mh) (by omega) (sp_SK hf _ _) (lt_spreads hu hLa hl_H) (by rw [hF_H]; exact if_neg hx_H))
  · refine v_iconst C0 (pc' := 35) (-1) (by decide) dL_hops_34 rfl ?_
    refine v_tail ?_
    refine v_widen (k2 := 93) (n2 := 558) (Nat.le_of_ble_eq_true rfl) (Nat.le_of_ble_eq_true rfl) ?_
    exact v_iret C0 hr hlk hK (by unfold s_L_hops; rw [if_pos (show SK xu xt xf live unit lane 90 ou / 2 ^ ol % 2 = 0 by rw [← sp_SK (xm := fun _ => 0) hf 90 ou hOu]; exact h1)]) dL_hops_35
