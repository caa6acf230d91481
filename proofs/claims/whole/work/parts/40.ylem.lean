section VKY
variable {p : Program} {l : Launch} {e : Env} {R : Room} {s : State} {m : MethodId} {args : Array Value} {below : List Frame} {meth : Method} {c : Code} {D : va_G} {A : Nat → Prop} {nL k n : Nat} {Q : State → Prop}
variable {cc : ByteArray} {Ts : List Cond} {own : String} {ws ws' : va_W} {lv lv' : List (Nat × Value)} {pc : Nat} {st : List Value} {tys : List (ClassId × FieldType)}
theorem xAt_in {z : Nat} {f : Nat → Int32} {i : Int32} (h : vp_in i z) (hz : z < 2 ^ 31) : xAt z f i = f i.toNatClampNeg := by
  obtain ⟨j, hj, rfl⟩ := vp_in_of h hz
  unfold xAt
  rw [if_neg (nI_pos (show j < 2 ^ 31 by omega)), if_neg (show ¬ Int32.ofNat z ≤ nI j from nI_ge hj hz)]
theorem xPut_in {z : Nat} {f : Nat → Int32} {i x : Int32} (h : vp_in i z) (hz : z < 2 ^ 31) : xPut z f i x = upd f i.toNatClampNeg x := by
  obtain ⟨j, hj, rfl⟩ := vp_in_of h hz
  unfold xPut
  rw [if_neg (nI_pos (show j < 2 ^ 31 by omega)), if_neg (show ¬ Int32.ofNat z ≤ nI j from nI_ge hj hz)]
theorem v_ialx (C0 : CallFix p m c cc nL s args Ts own) (hK : va_K D vwCl tys s) {a : Nat} {cA : ClassId} {z : Nat} {g : Nat → Int32} {i : Int32} {pc' : Nat} (q0 t0 : Nat) (ha : ws[q0]? = some (a, .inl (cA, z, .inl g))) (ht : tys[t0]? = some (cA, .int)) (hin : vp_in i z) (hz : z < 2 ^ 31) (hdg : decode cc pc = .ok (.iaload, 1)) (hn : pc + 1 = pc') (kk : V p l e R s m args below meth c D A nL k n Q ws lv pc' (.int (xAt z g i) :: st)) : V p l e R s m args below meth c D A nL k n Q ws lv pc (.int i :: .ref a :: st) := v_iald C0 hK q0 t0 ha ht hin hdg hn (xAt_in (f := g) hin hz ▸ kk)
theorem v_iasx (C0 : CallFix p m c cc nL s args Ts own) (hK : va_K D vwCl tys s) {a : Nat} {cA : ClassId} {z : Nat} {g : Nat → Int32} {i x : Int32} {pc' : Nat} (q0 t0 : Nat) (ha : ws[q0]? = some (a, .inl (cA, z, .inl g))) (hw : ws.set q0 (a, .inl (cA, z, .inl (xPut z g i x))) = ws') (ht : tys[t0]? = some (cA, .int)) (hin : vp_in i z) (hz : z < 2 ^ 31) (hdg : decode cc pc = .ok (.iastore, 1)) (hn : pc + 1 = pc') (kk : V p l e R s m args below meth c D A nL k n Q ws' lv pc' st) : V p l e R s m args below meth c D A nL k n Q ws lv pc (.int x :: .int i :: .ref a :: st) := v_iast C0 hK q0 t0 ha (by rw [← xPut_in (f := g) hin hz]; exact hw) ht hin hdg hn kk
end VKY
/-- far ends: none, or a port's number -/
def FR (F : Nat → Int32) : Prop := ∀ i : Int32, vp_in i 36 → xAt 36 F i = -1 ∨ vp_in (xAt 36 F i) 36
def UR (U : Nat → Int32) : Prop := ∀ i : Int32, vp_in i 36 → vp_in (xAt 36 U i) 16
theorem FR_in {F : Nat → Int32} {i : Int32} (hF : FR F) (h : vp_in i 36) (hn : ¬ xAt 36 F i = -1) : vp_in (xAt 36 F i) 36 := (hF i h).resolve_left hn
theorem div6_in {x : Int32} (h : vp_in x 36) : vp_in (x / 6) 6 := by
  obtain ⟨j, hj, rfl⟩ := vp_in_of h (by decide)
  rw [show (6 : Int32) = nI 6 from rfl, pk_div (by omega) (by decide) (by decide)]
  exact vp_in_nI (by omega) (by decide)
theorem rem36_in {i : Nat} (h : i < 2 ^ 31) : vp_in (nI i - nI i / 36 * 36) 36 := by
  rw [show (36 : Int32) = nI 36 from rfl, pk_rem h (by decide) (by decide)]
  exact vp_in_nI (Nat.mod_lt _ (by decide)) (by decide)
theorem port_in {u p : Int32} (hu : vp_in u 6) (hp : vp_in p 6) : vp_in (6 * u + p) 36 := by
  obtain ⟨i, hi, rfl⟩ := vp_in_of hu (by decide)
  obtain ⟨j, hj, rfl⟩ := vp_in_of hp (by decide)
  rw [show (6 : Int32) = nI 6 from rfl, pk_mul, nI_add]
  exact vp_in_nI (by omega) (by decide)
theorem place_in {u l : Int32} (hu : vp_in u 6) (hl : vp_in l 16) : vp_in (16 * u + l) 96 := by
  obtain ⟨i, hi, rfl⟩ := vp_in_of hu (by decide)
  obtain ⟨j, hj, rfl⟩ := vp_in_of hl (by decide)
  rw [show (16 : Int32) = nI 16 from rfl, pk_mul, nI_add]
  exact vp_in_nI (by omega) (by decide)
theorem rem16_in {x : Int32} (h : vp_in x 96) : vp_in (x - x / 16 * 16) 16 := by
  obtain ⟨j, hj, rfl⟩ := vp_in_of h (by decide)
  rw [show (16 : Int32) = nI 16 from rfl, pk_rem (by omega) (by decide) (by decide)]
  exact vp_in_nI (Nat.mod_lt _ (by decide)) (by decide)
theorem at_in {x : Int32} {i : Nat} (h : vp_in x 96) (hi : i < 6) : vp_in (x / 16 * 6 + nI i) 36 := by
  obtain ⟨j, hj, rfl⟩ := vp_in_of h (by decide)
  rw [show (16 : Int32) = nI 16 from rfl, show (6 : Int32) = nI 6 from rfl, pk_div (by omega) (by decide) (by decide), pk_mul, nI_add]
  exact vp_in_nI (by omega) (by decide)
theorem vp_in_le {x : Int32} {a b : Nat} (h : vp_in x a) (hab : a ≤ b) : vp_in x b := fun q => h (q.imp id (fun z => Nat.le_trans hab z))
