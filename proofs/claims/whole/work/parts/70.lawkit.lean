/-! rows for the law: worlds side by side, contracts of its own methods, the script, the switch -/
theorem ap_l {α : Type} {A B : List α} {k : Nat} {q : α} (h : A[k]? = some q) : (A ++ B)[k]? = some q := by
  rw [List.getElem?_append_left (List.getElem?_eq_some_iff.mp h).1]; exact h
theorem ap_r {α : Type} {A B : List α} {k : Nat} {q : α} (h : B[k]? = some q) : (A ++ B)[A.length + k]? = some q := by
  rw [List.getElem?_append_right (Nat.le_add_right _ _), Nat.add_sub_cancel_left]; exact h
theorem ap_s {α : Type} {A B : List α} {k : Nat} {q : α} (h : (A ++ B)[k]? = some q) : A[k]? = some q ∨ ∃ i, k = A.length + i ∧ B[i]? = some q := by
  by_cases hk : k < A.length
  · rw [List.getElem?_append_left hk] at h; exact Or.inl h
  · rw [List.getElem?_append_right (Nat.not_lt.mp hk)] at h
    exact Or.inr ⟨k - A.length, by omega, h⟩
theorem PLs.mid {P W0 W1 R : va_W} : PLs (P ++ (W0 ++ R)) W0 W1 (P ++ (W1 ++ R)) := by
  refine ⟨fun D H hP k q hq => hP (P.length + k) q (ap_r (ap_l hq)), fun A hD => ⟨fun i j p q hi hj e => ?_, fun k q hq => hD.2 (P.length + k) q (ap_r (ap_l hq))⟩, fun D A0 H H1 hP hD hk hF hP1 hD1 => ?_⟩
  · have := hD.1 (P.length + i) (P.length + j) p q (ap_r (ap_l hi)) (ap_r (ap_l hj)) e
    omega
  · have outP : ∀ (k : Nat) (q : Nat × va_E), P[k]? = some q → ¬ va_A W0 H.size q.1 := by
      intro k q hq h
      rcases h with ⟨i, e, h⟩ | h
      · have h1 := hD.1 k (P.length + i) q (q.1, e) (ap_l hq) (ap_r (ap_l h)) rfl
        have h2 := (List.getElem?_eq_some_iff.mp hq).1
        omega
      · exact absurd (hP k q (ap_l hq)).lt (Nat.not_lt.mpr h)
    have outR : ∀ (k : Nat) (q : Nat × va_E), R[k]? = some q → ¬ va_A W0 H.size q.1 := by
      intro k q hq h
      rcases h with ⟨i, e, h⟩ | h
      · have h1 := hD.1 (P.length + (W0.length + k)) (P.length + i) q (q.1, e) (ap_r (ap_r hq)) (ap_r (ap_l h)) rfl
        have h2 := (List.getElem?_eq_some_iff.mp h).1
        omega
      · exact absurd (hP (P.length + (W0.length + k)) q (ap_r (ap_r hq))).lt (Nat.not_lt.mpr h)
    refine ⟨fun k q hq => ?_, fun i j p q hi hj e => ?_, fun k q hq => ?_⟩
    · rcases ap_s hq with h | ⟨i, -, h⟩
      · exact (hP k q (ap_l h)).kept (hk q.1 (hP k q (ap_l h)).lt (outP k q h))
      · rcases ap_s h with h | ⟨i, -, h⟩
        · exact hP1 _ q h
        · exact (hP _ q (ap_r (ap_r h))).kept (hk q.1 (hP _ q (ap_r (ap_r h))).lt (outR i q h))
    · rcases ap_s hi with h1 | ⟨i1, e1, h1⟩
      · rcases ap_s hj with h2 | ⟨j1, e2, h2⟩
        · exact hD.1 i j p q (ap_l h1) (ap_l h2) e
        · rcases ap_s h2 with h2 | ⟨j2, e3, h2⟩
          · exact absurd (hD1.2 _ q h2) (by rw [← e]; exact outP i p h1)
          · have h3 := hD.1 i (P.length + (W0.length + j2)) p q (ap_l h1) (ap_r (ap_r h2)) e
            have h4 := (List.getElem?_eq_some_iff.mp h1).1
            omega
      · rcases ap_s h1 with h1 | ⟨i2, e3, h1⟩
        · rcases ap_s hj with h2 | ⟨j1, e2, h2⟩
          · exact absurd (hD1.2 _ p h1) (by rw [e]; exact outP j q h2)
          · rcases ap_s h2 with h2 | ⟨j2, e4, h2⟩
            · have h3 := hD1.1 _ _ p q h1 h2 e
              omega
            · exact absurd (hD1.2 _ p h1) (by rw [e]; exact outR j2 q h2)
        · rcases ap_s hj with h2 | ⟨j1, e2, h2⟩
          · have h3 := hD.1 (P.length + (W0.length + i2)) j p q (ap_r (ap_r h1)) (ap_l h2) e
            have h4 := (List.getElem?_eq_some_iff.mp h2).1
            omega
          · rcases ap_s h2 with h2 | ⟨j2, e4, h2⟩
            · exact absurd (hD1.2 _ q h2) (by rw [← e]; exact outR i2 p h1)
            · have h3 := hD.1 (P.length + (W0.length + i2)) (P.length + (W0.length + j2)) p q (ap_r (ap_r h1)) (ap_r (ap_r h2)) e
              omega
    · rcases ap_s hq with h | ⟨i, -, h⟩
      · exact hD.2 k q (ap_l h)
      · rcases ap_s h with h | ⟨i, -, h⟩
        · exact hF q.1 (hD1.2 _ q h)
        · exact hD.2 _ q (ap_r (ap_r h))
theorem PLs.rt {P W0 W1 : va_W} : PLs (P ++ W0) W0 W1 (P ++ W1) := by
  have h := PLs.mid (P := P) (W0 := W0) (W1 := W1) (R := [])
  rw [List.append_nil, List.append_nil] at h
  exact h
theorem PLs.lf {W0 W1 R : va_W} : PLs (W0 ++ R) W0 W1 (W1 ++ R) := PLs.mid (P := [])
abbrev TL (cI cJ : ClassId) : List (ClassId × FieldType) := [(cI, .int), (cJ, .long)]
abbrev oC (cJ : ClassId) (o : Nat) (g : Nat → Int64) : Nat × va_E := (o, .inl (cJ, 1, .inr (.inl g)))
def lb (r : Int32) : Int64 := if r = 0 then 0 else 1
def bb (r : Int32) : Int32 := if r = 0 then 0 else 1
theorem bb01 (r : Int32) : bb r = 0 ∨ bb r = 1 := by unfold bb; split <;> simp
theorem vin01 : vp_in (0 : Int32) 1 := by rw [← nI_0]; exact vp_in_nI (by decide) (by decide)
section VKL
variable {p : Program} {l : Launch} {e : Env} {R : Room} {s : State} {m : MethodId} {args : Array Value} {below : List Frame} {meth : Method} {c : Code} {D : va_G} {A : Nat → Prop} {nL k n : Nat} {Q : State → Prop}
variable {cc : ByteArray} {Ts : List Cond} {own : String} {ws ws' : va_W} {lv lv' : List (Nat × Value)} {pc : Nat} {st : List Value} {tys : List (ClassId × FieldType)}
/-- a contract of a method that catches: what a throw needs holds at its start; it may make one exception -/
def KE (l : Launch) (y : MethodName) (wy : List Cond) (fr lo : Nat) (D : va_G) (tys : List (ClassId × FieldType)) (av : List Value) (W0 W1 : va_W) (r : Int32) : Prop := ∀ sz, Met l y wy { frames := fr, cells := 1, slots := 6, locals := lo } (va_Pc av (CPX D tys W0 sz)) (QI D tys W1 (va_A W0 sz) r) 1 6 (va_A W0 sz)
theorem KE.of {y : MethodName} {wy ws' : List Cond} {fr lo maxL : Nat} {av : List Value} {W0 W1 : va_W} {r : Int32} {lv0 : List (Nat × Value)} {hh : List (Nat × Nat × Nat × Nat)} (hy : plainName y.cls = true) (hw : wy = Cond.codeWith y cc maxL (some .int) hh :: ws') (hlen : (lg_sl av).length ≤ maxL) (hlv : lv_args 0 av = lv0)
    (body : ∀ (p : Program) (e : Env) (s : State) (m : MethodId) (args : Array Value) (below : List Frame) (meth : Method) (c : Code) (A : Nat → Prop), CallFix p m c cc maxL s args wy y.cls → c.exceptionTable.toList = tableOf hh → meth.sig.returnType = some .int → meth.locks = false → va_K D vwCl tys s → (∀ q, s.heap.size ≤ q → A q) → EN A s → V p l e { frames := fr, cells := 1, slots := 6, locals := lo } s m args below meth c D A maxL 0 0 (MQ below (QI D tys W1 A r) args s 1 6 A) W0 lv0 0 []) : KE l y wy fr lo D tys av W0 W1 r := by
  intro sz
  refine va_MetW (cc := cc) (maxL := maxL) (ret := some .int) hy hw ?_
  intro p e s m args below meth c s₁ B hml hv
  obtain ⟨rfl, ⟨hsz, hP, hK, hD0⟩, hE⟩ := hv
  subst hsz
  have hl := lv_entry av (n := maxL) hlen
  rw [lg_entry_eq]
  rw [hlv] at hl
  exact body p e s m _ below meth c _ ⟨B.exec, B.bytes, hml, findClass_of_methodNamed B.named, atoms_spec (ws := wy) B.pre⟩ (vx_table (x := y) B (atoms_spec (ws := wy) B.pre _ (by rw [hw]; exact List.mem_cons_self))) B.returns B.notSynchronized hK (fun q h => Or.inr h) hE _ _ _ hP hD0.self va_S.rf hl
theorem v_callSE (C0 : CallFix p m c cc nL s args Ts own) {y : MethodName} {bytes : ByteArray} {maxL fr lo na index : Nat} {ret : Option FieldType} {hh : List (Nat × Nat × Nat × Nat)} {wy : List Cond} {av rest : List Value} {W0 W1 : va_W} {r : Int32} {pc' : Nat} (hK : va_K D vwCl tys s) (hA : ∀ q, s.heap.size ≤ q → A q) (hEN : EN A s) (hM : KE l y wy fr lo D tys av W0 W1 r) (cw : vx_CSW R s args own index y bytes maxL ret hh wy { frames := fr, cells := 1, slots := 6, locals := lo } 1 6 na) (hPL : PLs ws W0 W1 ws') (hlen : av.length = na) (hst : st = av.reverse ++ rest) (hro : (rest.map fun v => v.category).sum ≤ 8) (hfit : k + 1 ≤ R.cells ∧ n + 6 ≤ R.slots) (hdg : decode cc pc = .ok (.invokestatic index, 3)) (hn : pc + 3 = pc') (kk : V p l e R s m args below meth c D A nL (k + 1) (n + 6) Q ws' lv pc' (.int r :: rest)) : V p l e R s m args below meth c D A nL k n Q ws lv pc st := by
  intro H locs ls hP hD hS hl
  have hFc := hPL.free hD hS hA
  refine va_calli (vx_runSW (As := av) (rest := rest) C0 (hM H.size) cw ⟨CPX.blind, fun U hU hW => ⟨rfl, ⟨by rw [hU], by rw [hU]; exact hPL.1 _ _ hP, va_K.moved hW.alike hK, (hPL.2.1 _ hD).weaken (fun _ _ _ _ => trivial)⟩, hEN.go hS hU hW hFc⟩⟩ rfl hlen hl.1 hst (lv_room hro) hdg hfit) hS (fun q _ h => hFc q h) hFc (fun r1 u t H1 locs1 ht hvm hw hB hz1 hk1 hS1 => ?_)
  obtain ⟨q1, q2, q3⟩ := hB
  rw [ht] at q1
  obtain ⟨hP2, hD2⟩ := hPL.2.2 _ _ _ _ hP hD hk1 hFc q1 q3
  subst hw
  exact hn ▸ kk H1 locs1 ls hP2 hD2 hS1 hl
theorem v_sld (C0 : CallFix p m c cc nL s args Ts own) {b L : Nat} {xs : Nat → Int32} (hX : va_X b L xs s s.heap) (hbl : b < s.heap.size) (hbA : ¬ A b) {i : Int32} {pc' : Nat} (hin : vp_in i L) (hdg : decode cc pc = .ok (.iaload, 1)) (hn : pc + 1 = pc') (kk : V p l e R s m args below meth c D A nL k n Q ws lv pc' (.int (xs i.toNatClampNeg) :: st)) : V p l e R s m args below meth c D A nL k n Q ws lv pc (.int i :: .ref b :: st) := fun H locs ls hP hD hS hl => va_sld C0.1 C0.2.1 hX hbl hbA hS hin hdg (hn ▸ kk H locs ls hP hD hS hl)
theorem v_slen (C0 : CallFix p m c cc nL s args Ts own) {b L : Nat} {xs : Nat → Int32} (hX : va_X b L xs s s.heap) (hbl : b < s.heap.size) (hbA : ¬ A b) {pc' : Nat} (hdg : decode cc pc = .ok (.arraylength, 1)) (hn : pc + 1 = pc') (kk : V p l e R s m args below meth c D A nL k n Q ws lv pc' (.int (nI L) :: st)) : V p l e R s m args below meth c D A nL k n Q ws lv pc (.ref b :: st) := fun H locs ls hP hD hS hl => va_slen C0.1 C0.2.1 hX hbl hbA hS hdg (hn ▸ kk H locs ls hP hD hS hl)
theorem v_tableIn (C0 : CallFix p m c cc nL s args Ts own) {dflt lo hi : Int} {offs : Array Int} {len : Nat} {x : Int32} {off : Int} (tgt : Nat) (hdg : decode cc pc = .ok (.tableswitch dflt lo hi offs, len)) (h1 : ¬ x.toInt < lo) (h2 : ¬ hi < x.toInt) (ho : offs[(x.toInt - lo).toNat]? = some off) (ht : (pc : Int) + off = (tgt : Int)) (kk : V p l e R s m args below meth c D A nL k n Q ws lv tgt st) : V p l e R s m args below meth c D A nL k n Q ws lv pc (.int x :: st) := fun H locs ls hP hD hS hl => lv_tableIn C0.1 C0.2.1 hdg h1 h2 ho ht (kk H locs ls hP hD hS hl)
theorem v_tableOut (C0 : CallFix p m c cc nL s args Ts own) {dflt lo hi : Int} {offs : Array Int} {len : Nat} {x : Int32} (tgt : Nat) (hdg : decode cc pc = .ok (.tableswitch dflt lo hi offs, len)) (h : x.toInt < lo ∨ hi < x.toInt) (ht : (pc : Int) + dflt = (tgt : Int)) (kk : V p l e R s m args below meth c D A nL k n Q ws lv tgt st) : V p l e R s m args below meth c D A nL k n Q ws lv pc (.int x :: st) := fun H locs ls hP hD hS hl => lv_tableOut C0.1 C0.2.1 hdg h ht (kk H locs ls hP hD hS hl)
/-- script[i + a] onto the stack -/
theorem v_scr (C0 : CallFix p m c cc nL s args Ts own) {b L : Nat} {xs : Nat → Int32} (hX : va_X b L xs s s.heap) (hbl : b < s.heap.size) (hbA : ¬ A b) {i a : Nat} {ja : Int} {pc' : Nat} (hi : i + a < L) (hL : L ≤ 3072) (ha : Int32.ofInt ja = nI a) (qb qi : Nat) (hqb : lv[qb]? = some (0, .ref b)) (hqi : lv[qi]? = some (4, .int (nI i))) (d0 : decode cc pc = .ok (.aload_n 0, 1)) (d1 : decode cc (pc + 1) = .ok (.iload 4, 2)) (d2 : decode cc (pc + 3) = .ok (.iconst ja, 1)) (d3 : decode cc (pc + 4) = .ok (.iadd, 1)) (d4 : decode cc (pc + 5) = .ok (.iaload, 1)) (hn : pc + 6 = pc') (kk : V p l e R s m args below meth c D A nL k n Q ws lv pc' (.int (xs (i + a)) :: st)) : V p l e R s m args below meth c D A nL k n Q ws lv pc st := by
  refine v_aload_n C0 (pc' := pc + 1) qb hqb rfl d0 rfl ?_
  refine v_iload C0 (pc' := pc + 3) qi hqi d1 rfl ?_
  refine v_iconst C0 (pc' := pc + 4) (nI a) ha d2 rfl ?_
  refine v_iadd C0 (pc' := pc + 5) d3 rfl ?_
  refine v_sld C0 hX hbl hbA (pc' := pc + 6) (by rw [nI_add]; exact vp_in_nI hi (by omega)) d4 rfl ?_
  have e : (nI i + nI a).toNatClampNeg = i + a := by rw [nI_add]; exact nI_clamp (by omega)
  rw [e, hn]
  exact kk
/-- an int, not 0, as a boolean; a boolean as a long -/
theorem v_nz (C0 : CallFix p m c cc nL s args Ts own) {z : Int32} {off off2 : Int} (pz pj : Nat) (d0 : decode cc pc = .ok (.ifCond .eq off, 3)) (t0 : (pc : Int) + off = (pz : Int)) (d1 : decode cc (pc + 3) = .ok (.iconst 1, 1)) (d2 : decode cc (pc + 4) = .ok (.goto off2, 3)) (t1 : ((pc + 4 : Nat) : Int) + off2 = (pj : Int)) (d3 : decode cc pz = .ok (.iconst 0, 1)) (hn : pz + 1 = pj) (kk : V p l e R s m args below meth c D A nL k n Q ws lv pj (.int (bb z) :: st)) : V p l e R s m args below meth c D A nL k n Q ws lv pc (.int z :: st) := by
  refine v_if_eq C0 pz (pc' := pc + 3) d0 t0 rfl (fun h => ?_) (fun h => ?_)
  · refine v_iconst C0 (pc' := pj) 0 (by decide) d3 hn ?_
    unfold bb at kk
    rw [if_pos h] at kk
    exact kk
  · refine v_iconst C0 (pc' := pc + 4) 1 (by decide) d1 rfl ?_
    refine v_goto C0 pj d2 t1 ?_
    unfold bb at kk
    rw [if_neg h] at kk
    exact kk
theorem v_lz (C0 : CallFix p m c cc nL s args Ts own) {z : Int32} {off off2 : Int} (pz pj : Nat) (d0 : decode cc pc = .ok (.ifCond .eq off, 3)) (t0 : (pc : Int) + off = (pz : Int)) (d1 : decode cc (pc + 3) = .ok (.lconst 1, 1)) (d2 : decode cc (pc + 4) = .ok (.goto off2, 3)) (t1 : ((pc + 4 : Nat) : Int) + off2 = (pj : Int)) (d3 : decode cc pz = .ok (.lconst 0, 1)) (hn : pz + 1 = pj) (kk : V p l e R s m args below meth c D A nL k n Q ws lv pj (.long (lb z) :: st)) : V p l e R s m args below meth c D A nL k n Q ws lv pc (.int z :: st) := by
  refine v_if_eq C0 pz (pc' := pc + 3) d0 t0 rfl (fun h => ?_) (fun h => ?_)
  · refine v_lconst C0 (pc' := pj) 0 rfl d3 hn ?_
    unfold lb at kk
    rw [if_pos h] at kk
    exact kk
  · refine v_lconst C0 (pc' := pc + 4) 1 rfl d1 rfl ?_
    refine v_goto C0 pj d2 t1 ?_
    unfold lb at kk
    rw [if_neg h] at kk
    exact kk
end VKL
