/-! LEAST SUMS BETWEEN ALL PAIRS: the law's rows of 36 settle at the sums that the class's rounds settle at -/
/-- what is closed under the edges and lies below the start lies below the settled -/
theorem bn_ge {E : Nat → Bool} {sr ds w d0 P : Nat → Nat} (hsr : ∀ s, s < 36 → E s = true → sr s < 6) (hP : ∀ s, s < 36 → E s = true → P (ds s) ≤ P (sr s) + w s) (h0 : ∀ v, v < 6 → P v ≤ d0 v) : ∀ k v, v < 6 → P v ≤ bn E sr ds w d0 k v := by
  intro k
  induction k with
  | zero => exact h0
  | succ k ih =>
    intro v hv
    rcases jn_or (E := E) (sr := sr) (ds := ds) (w := w) (bn E sr ds w d0 k) v with h | ⟨s, h1, h2, h3, h4⟩
    · show P v ≤ jn E sr ds w (bn E sr ds w d0 k) v
      rw [h]; exact ih v hv
    · show P v ≤ jn E sr ds w (bn E sr ds w d0 k) v
      rw [h4, ← h3]
      have h5 := hP s h1 h2
      have h6 := ih (sr s) (hsr s h1 h2)
      omega
theorem bn_cl {E : Nat → Bool} {sr ds w : Nat → Nat} (hsr : ∀ s, s < 36 → E s = true → sr s < 6) (hds : ∀ s, s < 36 → E s = true → ds s < 6) (d0 : Nat → Nat) {s : Nat} (hs : s < 36) (he : E s = true) : bn E sr ds w d0 5 (ds s) ≤ bn E sr ds w d0 5 (sr s) + w s := by
  rw [← bn_closed hsr d0 (hds s hs he)]
  exact jn_edge _ hs he
/-- two starts, alike but for what stands for 'not reached' -/
def IRg (x y k : Nat) (d1 d2 : Nat → Nat) : Prop := ∀ v, v < 6 → (d1 v = d2 v ∧ d1 v ≤ 20 * k) ∨ (d1 v = x ∧ d2 v = y)
theorem IRg_bn {E : Nat → Bool} {sr ds w : Nat → Nat} {x y : Nat} (hx : 1000 ≤ x) (hy : 1000 ≤ y) (hsr : ∀ s, s < 36 → E s = true → sr s < 6) (hw : ∀ s, s < 36 → E s = true → w s ≤ 20) {d1 d2 : Nat → Nat} (h : IRg x y 0 d1 d2) : ∀ k, k ≤ 40 → IRg x y k (bn E sr ds w d1 k) (bn E sr ds w d2 k) := by
  intro k
  induction k with
  | zero => intro _; exact h
  | succ k ih =>
    intro hk v hv
    have ih := ih (by omega)
    show (jn E sr ds w (bn E sr ds w d1 k) v = jn E sr ds w (bn E sr ds w d2 k) v ∧ jn E sr ds w (bn E sr ds w d1 k) v ≤ 20 * (k + 1)) ∨ (jn E sr ds w (bn E sr ds w d1 k) v = x ∧ jn E sr ds w (bn E sr ds w d2 k) v = y)
    unfold jn
    generalize bn E sr ds w d1 k = e1 at ih ⊢
    generalize bn E sr ds w d2 k = e2 at ih ⊢
    refine lp_rel (fun a b => (a = b ∧ a ≤ 20 * (k + 1)) ∨ (a = x ∧ b = y)) 36 (fun s hs a b hab => ?_) _ _ ?_
    · unfold jnf
      by_cases he : E s = true
      · by_cases hd : ds s = v
        · have h1 := ih (sr s) (hsr s hs he)
          have h2 := hw s hs he
          by_cases q1 : e1 (sr s) + w s < a
          · rw [if_pos ⟨he, hd, q1⟩]
            by_cases q2 : e2 (sr s) + w s < b
            · rw [if_pos ⟨he, hd, q2⟩]; omega
            · rw [if_neg (fun z => q2 z.2.2)]; omega
          · rw [if_neg (fun z => q1 z.2.2)]
            by_cases q2 : e2 (sr s) + w s < b
            · rw [if_pos ⟨he, hd, q2⟩]; omega
            · rw [if_neg (fun z => q2 z.2.2)]; exact hab
        · rw [if_neg (fun z => hd z.2.1), if_neg (fun z => hd z.2.1)]; exact hab
      · rw [if_neg (fun z => he z.1), if_neg (fun z => he z.1)]; exact hab
    · rcases ih v hv with h1 | h1
      · exact Or.inl ⟨h1.1, by omega⟩
      · exact Or.inr h1
/-- the least sum from a to b; 9999 if there is no way -/
def cs9 (a v : Nat) : Nat := if v = a then 0 else 9999
def dst (E : Nat → Bool) (ds w : Nat → Nat) (a b : Nat) : Nat := bn E sr6 ds w (cs9 a) 5 b
section DST
variable {E : Nat → Bool} {ds w : Nat → Nat}
theorem dst_le (a b : Nat) : dst E ds w a b ≤ cs9 a b := bn_le (cs9 a) b 5 0 (by decide)
theorem dst_self (a : Nat) : dst E ds w a a = 0 := Nat.le_zero.mp (Nat.le_trans (dst_le a a) (by unfold cs9; rw [if_pos rfl]; exact Nat.le_refl 0))
theorem dst_9 (a b : Nat) : dst E ds w a b ≤ 9999 := Nat.le_trans (dst_le a b) (by unfold cs9; split <;> omega)
theorem dst_step (hds : ∀ s, s < 36 → E s = true → ds s < 6) (a : Nat) {s : Nat} (hs : s < 36) (he : E s = true) : dst E ds w a (ds s) ≤ dst E ds w a (s / 6) + w s := bn_cl (fun _ h _ => sr6_lt h) hds (cs9 a) hs he
theorem dst_edge (hds : ∀ s, s < 36 → E s = true → ds s < 6) {s : Nat} (hs : s < 36) (he : E s = true) : dst E ds w (s / 6) (ds s) ≤ w s := by
  have h := dst_step (w := w) hds (s / 6) hs he
  rw [dst_self, Nat.zero_add] at h
  exact h
theorem dst_great {P : Nat → Nat} {a : Nat} (hP : ∀ s, s < 36 → E s = true → P (ds s) ≤ P (s / 6) + w s) (h0 : ∀ v, v < 6 → P v ≤ cs9 a v) {b : Nat} (hb : b < 6) : P b ≤ dst E ds w a b := bn_ge (fun _ h _ => sr6_lt h) hP h0 5 b hb
theorem dst_tri (hds : ∀ s, s < 36 → E s = true → ds s < 6) (a k : Nat) {b : Nat} (hb : b < 6) : dst E ds w a b ≤ dst E ds w a k + dst E ds w k b := by
  have h : dst E ds w a b - dst E ds w a k ≤ dst E ds w k b := dst_great (P := fun v => dst E ds w a v - dst E ds w a k) (fun s hs he => by
    have := dst_step (w := w) hds a hs he
    show _ - _ ≤ _ - _ + _
    omega) (fun v hv => by
    show _ - _ ≤ _
    unfold cs9
    have := dst_9 (E := E) (ds := ds) (w := w) a v
    split
    · rename_i q; rw [q]; omega
    · omega) hb
  omega
/-- edges there and back, of one weight -/
def Sym (E : Nat → Bool) (ds w : Nat → Nat) : Prop := ∀ s, s < 36 → E s = true → ds s < 6 ∧ w s ≤ 20 ∧ ∃ j, j < 36 ∧ E j = true ∧ j / 6 = ds s ∧ ds j = s / 6 ∧ w j = w s
theorem dst_le_sym (h : Sym E ds w) {a b : Nat} (ha : a < 6) (hb : b < 6) : dst E ds w a b ≤ dst E ds w b a := by
  have hds : ∀ s, s < 36 → E s = true → ds s < 6 := fun s hs he => (h s hs he).1
  refine dst_great (P := fun v => dst E ds w v b) (fun s hs he => ?_) (fun v hv => ?_) ha
  · obtain ⟨-, -, j, hj, h1, h2, h3, h4⟩ := h s hs he
    have h5 := dst_edge (w := w) hds hj h1
    rw [h2, h3, h4] at h5
    have h6 := dst_tri (w := w) hds (ds s) (s / 6) hb
    show dst E ds w (ds s) b ≤ dst E ds w (s / 6) b + w s
    omega
  · show dst E ds w v b ≤ cs9 b v
    unfold cs9
    split
    · rename_i q; rw [q, dst_self]; exact Nat.le_refl 0
    · exact dst_9 v b
theorem dst_sym (h : Sym E ds w) {a b : Nat} (ha : a < 6) (hb : b < 6) : dst E ds w a b = dst E ds w b a := Nat.le_antisymm (dst_le_sym h ha hb) (dst_le_sym h hb ha)
theorem dst_gap (h : Sym E ds w) (a : Nat) {b : Nat} (hb : b < 6) : dst E ds w a b ≤ 100 ∨ dst E ds w a b = 9999 := by
  have h1 := IRg_bn (E := E) (sr := sr6) (ds := ds) (w := w) (x := 9999) (y := 9999) (by decide) (by decide) (fun _ h _ => sr6_lt h) (fun s hs he => (h s hs he).2.1) (d1 := cs9 a) (d2 := cs9 a) (fun v _ => by
    unfold cs9
    split
    · exact Or.inl ⟨rfl, by omega⟩
    · exact Or.inr ⟨rfl, rfl⟩) 5 (by decide) b hb
  unfold dst
  omega
end DST
/-! the rows of 36 -/
/-- two rows of 36 read by pairs -/
def m36 (d : Nat → Nat) (a b : Nat) : Nat := d (6 * a + b)
/-- the third loop, in the form of both methods -/
def fw (k : Nat) (d : Nat → Nat) : Nat → Nat := updN d (6 * (k / 6 % 6) + k % 6) (if d (6 * (k / 6 % 6) + k % 6) ≤ d (6 * (k / 6 % 6) + k / 36) + d (6 * (k / 36) + k % 6) then d (6 * (k / 6 % 6) + k % 6) else d (6 * (k / 6 % 6) + k / 36) + d (6 * (k / 36) + k % 6))
theorem m36_upd {d : Nat → Nat} {a b x i j : Nat} (hb : b < 6) (hj : j < 6) : m36 (updN d (6 * a + b) x) i j = if i = a ∧ j = b then x else m36 d i j := by
  unfold m36 updN
  by_cases q : i = a ∧ j = b
  · rw [if_pos q, q.1, q.2, if_pos rfl]
  · rw [if_neg q, if_neg (fun z => q ⟨by omega, by omega⟩)]
/-- the phase of one k: all sums by k are told by the rows as they were ahead of it -/
def fwP (d : Nat → Nat) (k a b : Nat) : Nat := if m36 d a b ≤ m36 d a k + m36 d k b then m36 d a b else m36 d a k + m36 d k b
theorem fw_phase {k : Nat} (hk : k < 6) {d : Nat → Nat} (h0 : m36 d k k = 0) : ∀ n, n ≤ 36 → ∀ a b, a < 6 → b < 6 → m36 (lp (fun t => fw (36 * k + t)) n d) a b = if 6 * a + b < n then fwP d k a b else m36 d a b := by
  intro n
  induction n with
  | zero => intro _ a b _ _; rw [if_neg (by omega)]; rfl
  | succ n ih =>
    intro hn a b ha hb
    have ih := ih (by omega)
    rw [lp_succ]
    generalize lp (fun t => fw (36 * k + t)) n d = z at ih ⊢
    have e1 : (36 * k + n) / 6 % 6 = n / 6 := by omega
    have e2 : (36 * k + n) % 6 = n % 6 := by omega
    have e3 : (36 * k + n) / 36 = k := by omega
    have hn6 : n / 6 < 6 := by omega
    have hm6 : n % 6 < 6 := Nat.mod_lt _ (by decide)
    -- row k and column k stay as they are
    have rk : ∀ b, b < 6 → m36 z k b = m36 d k b := by
      intro b hb
      rw [ih k b hk hb]
      split
      · unfold fwP; rw [h0, Nat.zero_add, if_pos (Nat.le_refl _)]
      · rfl
    have ck : ∀ a, a < 6 → m36 z a k = m36 d a k := by
      intro a ha
      rw [ih a k ha hk]
      split
      · unfold fwP; rw [h0, Nat.add_zero, if_pos (Nat.le_refl _)]
      · rfl
    show m36 (fw (36 * k + n) z) a b = _
    unfold fw
    rw [e1, e2, e3, m36_upd hm6 hb]
    have f1 : z (6 * (n / 6) + n % 6) = m36 d (n / 6) (n % 6) := by
      have := ih (n / 6) (n % 6) hn6 hm6
      rw [if_neg (by omega)] at this
      exact this
    have f2 : z (6 * (n / 6) + k) = m36 d (n / 6) k := ck (n / 6) hn6
    have f3 : z (6 * k + n % 6) = m36 d k (n % 6) := rk (n % 6) hm6
    rw [f1, f2, f3]
    by_cases q : a = n / 6 ∧ b = n % 6
    · rw [if_pos q, q.1, q.2, if_pos (show 6 * (n / 6) + n % 6 < n + 1 by omega)]; rfl
    · rw [if_neg q, ih a b ha hb]
      by_cases q2 : 6 * a + b < n
      · rw [if_pos q2, if_pos (by omega)]
      · rw [if_neg q2, if_neg (fun z => q ⟨by omega, by omega⟩)]
theorem lp_app {α : Type} (f : Nat → α → α) (a : Nat) : ∀ n s, lp f (a + n) s = lp (fun t => f (a + t)) n (lp f a s) := by
  intro n
  induction n with
  | zero => intro s; rfl
  | succ n ih => intro s; show f (a + n) (lp f (a + n) s) = _; rw [ih s]; rfl
/-- what the rows keep: the diagonal 0; all sums by k' < k are told -/
def FI (k : Nat) (d : Nat → Nat) : Prop := (∀ a, a < 6 → m36 d a a = 0) ∧ ∀ k' a b, k' < k → a < 6 → b < 6 → m36 d a b ≤ m36 d a k' + m36 d k' b
theorem FI_phase {k : Nat} (hk : k < 6) {d z : Nat → Nat} (h : FI k d) (hz : ∀ a b, a < 6 → b < 6 → m36 z a b = fwP d k a b) : FI (k + 1) z := by
  obtain ⟨h1, h2⟩ := h
  have le : ∀ a b, fwP d k a b ≤ m36 d a b := fun a b => by unfold fwP; split <;> omega
  have le2 : ∀ a b, fwP d k a b ≤ m36 d a k + m36 d k b := fun a b => by unfold fwP; split <;> omega
  have or2 : ∀ a b, fwP d k a b = m36 d a b ∨ fwP d k a b = m36 d a k + m36 d k b := fun a b => by unfold fwP; split <;> omega
  refine ⟨fun a ha => ?_, fun k' a b hk' ha hb => ?_⟩
  · rw [hz a a ha ha]
    have := le a a
    rw [h1 a ha] at this
    omega
  · rcases Nat.lt_or_ge k' k with q | q
    · have hk6 : k' < 6 := by omega
      rw [hz a b ha hb, hz a k' ha hk6, hz k' b hk6 hb]
      have l1 := le a b
      have l2 := le2 a b
      have t1 := h2 k' a b q ha hb
      have t2 := h2 k' k b q hk hb
      have t3 := h2 k' a k q ha hk
      rcases or2 a k' with x | x <;> rcases or2 k' b with y | y <;> omega
    · have e : k' = k := by omega
      subst e
      rw [hz a b ha hb, hz a k' ha hk, hz k' b hk hb]
      have l2 := le2 a b
      have x : fwP d k' a k' = m36 d a k' := by unfold fwP; rw [h1 k' hk, Nat.add_zero, if_pos (Nat.le_refl _)]
      have y : fwP d k' k' b = m36 d k' b := by unfold fwP; rw [h1 k' hk, Nat.zero_add, if_pos (Nat.le_refl _)]
      omega
theorem fw_all {d : Nat → Nat} (h0 : ∀ a, a < 6 → m36 d a a = 0) : ∀ k, k ≤ 6 → FI k (lp fw (36 * k) d) := by
  intro k
  induction k with
  | zero => intro _; exact ⟨h0, fun k' a b hk' => absurd hk' (Nat.not_lt_zero _)⟩
  | succ k ih =>
    intro hk
    have ih := ih (by omega)
    have e : lp fw (36 * (k + 1)) d = lp (fun t => fw (36 * k + t)) 36 (lp fw (36 * k) d) := lp_app fw (36 * k) 36 d
    rw [e]
    refine FI_phase (by omega) ih (fun a b ha hb => ?_)
    rw [fw_phase (by omega) (ih.1 k (by omega)) 36 (Nat.le_refl 36) a b ha hb, if_pos (by omega)]
/-- nothing falls below what is a sum of sums -/
theorem fw_low {P : Nat → Nat → Nat} (hP : ∀ a k b, a < 6 → k < 6 → b < 6 → P a b ≤ P a k + P k b) {d : Nat → Nat} (h : ∀ a b, a < 6 → b < 6 → P a b ≤ m36 d a b) : ∀ n, n ≤ 216 → ∀ a b, a < 6 → b < 6 → P a b ≤ m36 (lp fw n d) a b := by
  intro n
  induction n with
  | zero => intro _; exact h
  | succ n ih =>
    intro hn a b ha hb
    have ih := ih (by omega)
    rw [lp_succ]
    generalize lp fw n d = z at ih ⊢
    unfold fw
    rw [m36_upd (Nat.mod_lt _ (by decide)) hb]
    split
    · rename_i q
      rw [q.1, q.2]
      have hi : n / 6 % 6 < 6 := Nat.mod_lt _ (by decide)
      have hj : n % 6 < 6 := Nat.mod_lt _ (by decide)
      split
      · exact ih _ _ hi hj
      · have h1 := ih (n / 6 % 6) (n / 36) hi (by omega)
        have h2 := ih (n / 36) (n % 6) (by omega) hj
        have h3 := hP (n / 6 % 6) (n / 36) (n % 6) hi (by omega) hj
        unfold m36 at h1 h2
        omega
    · exact ih a b ha hb
theorem fw_down {d : Nat → Nat} : ∀ n a b, b < 6 → m36 (lp fw n d) a b ≤ m36 d a b := by
  intro n
  induction n with
  | zero => intro a b _; exact Nat.le_refl _
  | succ n ih =>
    intro a b hb
    rw [lp_succ]
    refine Nat.le_trans ?_ (ih a b hb)
    generalize lp fw n d = z
    unfold fw
    rw [m36_upd (Nat.mod_lt _ (by decide)) hb]
    split
    · rename_i q
      rw [q.1, q.2]
      unfold m36
      split <;> omega
    · exact Nat.le_refl _
/-- the second loop: what it keeps -/
def ED (E : Nat → Bool) (ds w : Nat → Nat) (n : Nat) (d : Nat → Nat) : Prop := (∀ a, a < 6 → m36 d a a = 0) ∧ (∀ a b, a < 6 → b < 6 → m36 d a b ≤ 9999) ∧ (∀ a b, a < 6 → b < 6 → dst E ds w a b ≤ m36 d a b) ∧ ∀ s, s < n → E s = true → m36 d (s / 6) (ds s) ≤ w s
theorem ED_done {E : Nat → Bool} {ds w : Nat → Nat} (h : Sym E ds w) {d : Nat → Nat} (hd : ED E ds w 36 d) {a b : Nat} (ha : a < 6) (hb : b < 6) : lp fw 216 d (6 * a + b) = dst E ds w a b := by
  obtain ⟨h1, h2, h3, h4⟩ := hd
  have hds : ∀ s, s < 36 → E s = true → ds s < 6 := fun s hs he => (h s hs he).1
  obtain ⟨g1, g2⟩ := fw_all h1 6 (Nat.le_refl 6)
  have e : 36 * 6 = 216 := rfl
  rw [e] at g1 g2
  refine Nat.le_antisymm ?_ (fw_low (fun a k b _ _ hb => dst_tri hds a k hb) h3 216 (Nat.le_refl _) a b ha hb)
  refine dst_great (P := fun v => m36 (lp fw 216 d) a v) (fun s hs he => ?_) (fun v hv => ?_) hb
  · have t := g2 (s / 6) a (ds s) (by omega) ha (hds s hs he)
    have u := fw_down (d := d) 216 (s / 6) (ds s) (hds s hs he)
    have v := h4 s hs he
    show m36 _ a (ds s) ≤ m36 _ a (s / 6) + w s
    omega
  · show m36 (lp fw 216 d) a v ≤ cs9 a v
    unfold cs9
    split
    · rename_i q; rw [q, g1 a ha]; exact Nat.le_refl 0
    · exact Nat.le_trans (fw_down 216 a v hv) (h2 a v ha hv)
theorem ED_put {E : Nat → Bool} {ds w : Nat → Nat} (h : Sym E ds w) {n : Nat} (hn : n < 36) {d : Nat → Nat} (hd : ED E ds w n d) {q x : Nat} (hq : q < 6) (hx : (E n = true ∧ q = ds n ∧ x = if m36 d (n / 6) q ≤ w n then m36 d (n / 6) q else w n) ∨ (E n = false ∧ x = m36 d (n / 6) q)) : ED E ds w (n + 1) (updN d (6 * (n / 6) + q) x) := by
  obtain ⟨h1, h2, h3, h4⟩ := hd
  have hds : ∀ s, s < 36 → E s = true → ds s < 6 := fun s hs he => (h s hs he).1
  have hx1 : x ≤ m36 d (n / 6) q := by
    rcases hx with ⟨-, -, e⟩ | ⟨-, e⟩
    · rw [e]; split <;> omega
    · rw [e]; exact Nat.le_refl _
  have hx2 : dst E ds w (n / 6) q ≤ x := by
    have t := h3 (n / 6) q (by omega) hq
    rcases hx with ⟨e1, e2, e⟩ | ⟨-, e⟩
    · have u := dst_edge (w := w) hds hn e1
      rw [← e2] at u
      rw [e]; split <;> omega
    · rw [e]; exact t
  have down : ∀ a b, b < 6 → m36 (updN d (6 * (n / 6) + q) x) a b ≤ m36 d a b := by
    intro a b hb
    rw [m36_upd hq hb]
    split
    · rename_i z; rw [z.1, z.2]; exact hx1
    · exact Nat.le_refl _
  refine ⟨fun a ha => ?_, fun a b ha hb => Nat.le_trans (down a b hb) (h2 a b ha hb), fun a b ha hb => ?_, fun s hs he => ?_⟩
  · have := down a a ha
    rw [h1 a ha] at this
    omega
  · rw [m36_upd hq hb]
    split
    · rename_i z; rw [z.1, z.2]; exact hx2
    · exact h3 a b ha hb
  · by_cases hsn : s = n
    · subst hsn
      rcases hx with ⟨e1, e2, e⟩ | ⟨e1, -⟩
      · rw [← e2, m36_upd hq hq, if_pos ⟨rfl, rfl⟩, e]; split <;> omega
      · rw [e1] at he; cases he
    · exact Nat.le_trans (down _ _ (hds s (by omega) he)) (h4 s (by omega) he)
theorem ED_same {E : Nat → Bool} {ds w : Nat → Nat} {n : Nat} {d : Nat → Nat} (hd : ED E ds w n d) (he : E n = false) : ED E ds w (n + 1) d := by
  obtain ⟨h1, h2, h3, h4⟩ := hd
  refine ⟨h1, h2, h3, fun s hs h => ?_⟩
  by_cases q : s = n
  · subst q; rw [he] at h; cases h
  · exact h4 s (by omega) h
theorem ED_0 (E : Nat → Bool) (ds w : Nat → Nat) {d : Nat → Nat} (h : ∀ j, j < 36 → d j = if j % 7 = 0 then 0 else 9999) : ED E ds w 0 d := by
  have e : ∀ a b, a < 6 → b < 6 → m36 d a b = cs9 a b := by
    intro a b ha hb
    unfold m36 cs9
    rw [h _ (by omega)]
    by_cases q : b = a
    · rw [if_pos q, if_pos (by omega)]
    · rw [if_neg q, if_neg (by omega)]
  refine ⟨fun a ha => ?_, fun a b ha hb => ?_, fun a b ha hb => ?_, fun s hs => absurd hs (Nat.not_lt_zero _)⟩
  · rw [e a a ha ha]; unfold cs9; rw [if_pos rfl]
  · rw [e a b ha hb]; unfold cs9; split <;> omega
  · rw [e a b ha hb]; exact dst_le a b
