section VKY
variable {p : Program} {l : Launch} {e : Env} {R : Room} {s : State} {m : MethodId} {args : Array Value} {below : List Frame} {meth : Method} {c : Code} {D : va_G} {A : Nat → Prop} {nL k n : Nat} {Q : State → Prop}
variable {cc : ByteArray} {Ts : List Cond} {own : String} {ws ws' : va_W} {lv lv' : List (Nat × Value)} {pc : Nat} {st : List Value} {tys : List (ClassId × FieldType)}
theorem xAt_in {z : Nat} {f : Nat → Int32} {i : Int32} (h : vp_in i z) (hz : z < 2 ^ 31) : xAt z f i = f i.toNatClampNeg := by
  obtain ⟨j, hj, rfl⟩ := vp_in_of h hz
  unfold xAt
  rw [if_neg (nI_pos (show j < 2 ^ 31 by omega)), if_neg (show ¬ Int32.ofNat z ≤ nI j from nI_ge hj hz)]
theorem xPut_in {z : Nat} {f : Nat → Int32} {i x : Int32} (h : vp_in i z) (hz : z < 2 ^ 31) : xPut z f i x = upd f i.toNatClampNeg x := by
  obtain ⟨j, hj, rfl⟩ := vp_in_of h hz
  unfold xPut
  rw [if_neg (nI_pos (show j < 2 ^ 31 by omega)), if_neg (show ¬ Int32.ofNat z ≤ nI j from nI_ge hj hz)]
theorem v_ialx (C0 : CallFix p m c cc nL s args Ts own) (hK : va_K D vwCl tys s) {a : Nat} {cA : ClassId} {z : Nat} {g : Nat → Int32} {i : Int32} {pc' : Nat} (q0 t0 : Nat) (ha : ws[q0]? = some (a, .inl (cA, z, .inl g))) (ht : tys[t0]? = some (cA, .int)) (hin : vp_in i z) (hz : z < 2 ^ 31) (hdg : decode cc pc = .ok (.iaload, 1)) (hn : pc + 1 = pc') (kk : V p l e R s m args below meth c D A nL k n Q ws lv pc' (.int (xAt z g i) :: st)) : V p l e R s m args below meth c D A nL k n Q ws lv pc (.int i :: .ref a :: st) := v_iald C0 hK q0 t0 ha ht hin hdg hn (xAt_in (f := g) hin hz ▸ kk)
theorem v_iasx (C0 : CallFix p m c cc nL s args Ts own) (hK : va_K D vwCl tys s) {a : Nat} {cA : ClassId} {z : Nat} {g : Nat → Int32} {i x : Int32} {pc' : Nat} (q0 t0 : Nat) (ha : ws[q0]? = some (a, .inl (cA, z, .inl g))) (hw : ws.set q0 (a, .inl (cA, z, .inl (xPut z g i x))) = ws') (ht : tys[t0]? = some (cA, .int)) (hin : vp_in i z) (hz : z < 2 ^ 31) (hdg : decode cc pc = .ok (.iastore, 1)) (hn : pc + 1 = pc') (kk : V p l e R s m args below meth c D A nL k n Q ws' lv pc' st) : V p l e R s m args below meth c D A nL k n Q ws lv pc (.int x :: .int i :: .ref a :: st) := v_iast C0 hK q0 t0 ha (by rw [← xPut_in (f := g) hin hz]; exact hw) ht hin hdg hn kk
end VKY
/-- far ends: none, or a port's number -/
def FR (F : Nat → Int32) : Prop := ∀ i : Int32, vp_in i 36 → xAt 36 F i = -1 ∨ vp_in (xAt 36 F i) 36
def UR (U : Nat → Int32) : Prop := ∀ i : Int32, vp_in i 36 → vp_in (xAt 36 U i) 16
theorem FR_in {F : Nat → Int32} {i : Int32} (hF : FR F) (h : vp_in i 36) (hn : ¬ xAt 36 F i = -1) : vp_in (xAt 36 F i) 36 := (hF i h).resolve_left hn
theorem div6_in {x : Int32} (h : vp_in x 36) : vp_in (x / 6) 6 := by
  obtain ⟨j, hj, rfl⟩ := vp_in_of h (by decide)
  rw [show (6 : Int32) = nI 6 from rfl, pk_div (by omega) (by decide) (by decide)]
  exact vp_in_nI (by omega) (by decide)
theorem rem36_in {i : Nat} (h : i < 2 ^ 31) : vp_in (nI i - nI i / 36 * 36) 36 := by
  rw [show (36 : Int32) = nI 36 from rfl, pk_rem h (by decide) (by decide)]
  exact vp_in_nI (Nat.mod_lt _ (by decide)) (by decide)
theorem port_in {u p : Int32} (hu : vp_in u 6) (hp : vp_in p 6) : vp_in (6 * u + p) 36 := by
  obtain ⟨i, hi, rfl⟩ := vp_in_of hu (by decide)
  obtain ⟨j, hj, rfl⟩ := vp_in_of hp (by decide)
  rw [show (6 : Int32) = nI 6 from rfl, pk_mul, nI_add]
  exact vp_in_nI (by omega) (by decide)
theorem place_in {u l : Int32} (hu : vp_in u 6) (hl : vp_in l 16) : vp_in (16 * u + l) 96 := by
  obtain ⟨i, hi, rfl⟩ := vp_in_of hu (by decide)
  obtain ⟨j, hj, rfl⟩ := vp_in_of hl (by decide)
  rw [show (16 : Int32) = nI 16 from rfl, pk_mul, nI_add]
  exact vp_in_nI (by omega) (by decide)
theorem rem16_in {x : Int32} (h : vp_in x 96) : vp_in (x - x / 16 * 16) 16 := by
  obtain ⟨j, hj, rfl⟩ := vp_in_of h (by decide)
  rw [show (16 : Int32) = nI 16 from rfl, pk_rem (by omega) (by decide) (by decide)]
  exact vp_in_nI (Nat.mod_lt _ (by decide)) (by decide)
theorem at_in {x : Int32} {i : Nat} (h : vp_in x 96) (hi : i < 6) : vp_in (x / 16 * 6 + nI i) 36 := by
  obtain ⟨j, hj, rfl⟩ := vp_in_of h (by decide)
  rw [show (16 : Int32) = nI 16 from rfl, show (6 : Int32) = nI 6 from rfl, pk_div (by omega) (by decide) (by decide), pk_mul, nI_add]
  exact vp_in_nI (by omega) (by decide)
theorem vp_in_le {x : Int32} {a b : Nat} (h : vp_in x a) (hab : a ≤ b) : vp_in x b := fun q => h (q.imp id (fun z => Nat.le_trans hab z))
theorem xAt_nI {z j : Nat} {f : Nat → Int32} (hj : j < z) (hz : z < 2 ^ 31) : xAt z f (nI j) = f j := by
  rw [xAt_in (vp_in_nI hj hz) hz, nI_clamp (by omega)]
theorem xPut_nI {z j : Nat} {f : Nat → Int32} {x : Int32} (hj : j < z) (hz : z < 2 ^ 31) : xPut z f (nI j) x = upd f j x := by
  rw [xPut_in (vp_in_nI hj hz) hz, nI_clamp (by omega)]
/-- the walk's queue: q different places, each with its steps -/
def BI (ST QU : Nat → Int32) (q : Nat) : Prop := q ≤ 96 ∧ (∀ j, j < q → ∃ p d, p < 96 ∧ d ≤ j ∧ QU j = nI p ∧ ST p = nI d) ∧ ∀ i j, i < j → j < q → QU i ≠ QU j
theorem nI_m1 {d : Nat} (h : d < 2 ^ 31) : ¬ nI d = -1 := by
  intro q
  have h1 := congrArg Int32.toInt q
  rw [nI_toInt h, show (-1 : Int32).toInt = -1 from by decide +kernel] at h1
  omega
theorem BI_more {ST QU : Nat → Int32} {q t : Nat} (h : BI ST QU q) (ht : t < 96) (hn : ST t = -1) : q < 96 ∧ ∀ j, j < q → QU j ≠ nI t := by
  obtain ⟨h1, h2, h3⟩ := h
  have hne : ∀ j, j < q → QU j ≠ nI t := by
    intro j hj e
    obtain ⟨p, d, hp, hd, e1, e2⟩ := h2 j hj
    have e3 : p = t := (nI_eq (by omega) (by omega)).mp (e1.symm.trans e)
    subst e3
    exact nI_m1 (show d < 2 ^ 31 by omega) (e2.symm.trans hn)
  refine ⟨?_, hne⟩
  have h4 := fb_holes 96 (q + 1) (fun j => if j < q then (QU j).toNatClampNeg else t) (fun i hi => ?_) (fun i j hij hj => ?_)
  · omega
  · by_cases hq : i < q
    · obtain ⟨p, d, hp, -, e1, -⟩ := h2 i hq
      simp only [if_pos hq, e1, nI_clamp (show p < 2 ^ 31 by omega)]
      exact hp
    · simp only [if_neg hq]
      exact ht
  · have hi : i < q := by omega
    obtain ⟨p, d, hp, -, e1, -⟩ := h2 i hi
    by_cases hq : j < q
    · obtain ⟨p2, d2, hp2, -, e3, -⟩ := h2 j hq
      simp only [if_pos hi, if_pos hq, e1, e3, nI_clamp (show p < 2 ^ 31 by omega), nI_clamp (show p2 < 2 ^ 31 by omega)]
      intro e
      exact h3 i j hij hq (by rw [e1, e3, e])
    · simp only [if_pos hi, if_neg hq, e1, nI_clamp (show p < 2 ^ 31 by omega)]
      intro e
      exact hne i hi (by rw [e1, e])
theorem BI_start {ST QU : Nat → Int32} {fr : Int32} (hfr : vp_in fr 96) : ∃ q, (1 : Int32) = nI q ∧ BI (xPut 96 ST fr 0) (xPut 96 QU 0 fr) q ∧ 0 ≤ q := by
  obtain ⟨j, hj, rfl⟩ := vp_in_of hfr (by decide)
  rw [show (0 : Int32) = nI 0 from rfl, xPut_nI hj (by decide), xPut_nI (by decide) (by decide)]
  refine ⟨1, rfl, ⟨by decide, fun i hi => ?_, fun a b hab hb => by omega⟩, by decide⟩
  have h0 : i = 0 := by omega
  subst h0
  exact ⟨j, 0, hj, Nat.le_refl _, pk_us, pk_us⟩
