/-! contracts that catch, the script, objects made -/
section VKL
variable {p : Program} {l : Launch} {e : Env} {R : Room} {s : State} {m : MethodId} {args : Array Value} {below : List Frame} {meth : Method} {c : Code} {D : va_G} {A : Nat → Prop} {nL k n : Nat} {Q : State → Prop}
variable {cc : ByteArray} {Ts : List Cond} {own : String} {ws ws' : va_W} {lv lv' : List (Nat × Value)} {pc : Nat} {st : List Value} {tys : List (ClassId × FieldType)}
/-- a contract of a method that catches: what a throw needs holds at its start; it may make one exception -/
def KE (l : Launch) (y : MethodName) (wy : List Cond) (fr lo : Nat) (D : va_G) (tys : List (ClassId × FieldType)) (av : List Value) (W0 W1 : va_W) (r : Int32) : Prop := ∀ sz, Met l y wy { frames := fr, cells := 1, slots := 6, locals := lo } (va_Pc av (CPX D tys W0 sz)) (QI D tys W1 (va_A W0 sz) r) 1 6 (va_A W0 sz)
theorem KE.of {y : MethodName} {wy ws' : List Cond} {fr lo maxL : Nat} {av : List Value} {W0 W1 : va_W} {r : Int32} {lv0 : List (Nat × Value)} {hh : List (Nat × Nat × Nat × Nat)} (hy : plainName y.cls = true) (hw : wy = Cond.codeWith y cc maxL (some .int) hh :: ws') (hlen : (lg_sl av).length ≤ maxL) (hlv : lv_args 0 av = lv0)
    (body : ∀ (p : Program) (e : Env) (s : State) (m : MethodId) (args : Array Value) (below : List Frame) (meth : Method) (c : Code) (A : Nat → Prop), CallFix p m c cc maxL s args wy y.cls → c.exceptionTable.toList = tableOf hh → meth.sig.returnType = some .int → meth.locks = false → va_K D vwCl tys s → (∀ q, s.heap.size ≤ q → A q) → EN A s → V p l e { frames := fr, cells := 1, slots := 6, locals := lo } s m args below meth c D A maxL 0 0 (MQ below (QI D tys W1 A r) args s 1 6 A) W0 lv0 0 []) : KE l y wy fr lo D tys av W0 W1 r := by
  intro sz
  refine va_MetW (cc := cc) (maxL := maxL) (ret := some .int) hy hw ?_
  intro p e s m args below meth c s₁ B hml hv
  obtain ⟨rfl, ⟨hsz, hP, hK, hD0⟩, hE⟩ := hv
  subst hsz
  have hl := lv_entry av (n := maxL) hlen
  rw [lg_entry_eq]
  rw [hlv] at hl
  exact body p e s m _ below meth c _ ⟨B.exec, B.bytes, hml, findClass_of_methodNamed B.named, atoms_spec (ws := wy) B.pre⟩ (vx_table (x := y) B (atoms_spec (ws := wy) B.pre _ (by rw [hw]; exact List.mem_cons_self))) B.returns B.notSynchronized hK (fun q h => Or.inr h) hE _ _ _ hP hD0.self va_S.rf hl
theorem v_callSE (C0 : CallFix p m c cc nL s args Ts own) {y : MethodName} {bytes : ByteArray} {maxL fr lo na index : Nat} {ret : Option FieldType} {hh : List (Nat × Nat × Nat × Nat)} {wy : List Cond} {av rest : List Value} {W0 W1 : va_W} {r : Int32} {pc' : Nat} (hK : va_K D vwCl tys s) (hA : ∀ q, s.heap.size ≤ q → A q) (hEN : EN A s) (hM : KE l y wy fr lo D tys av W0 W1 r) (cw : vx_CSW R s args own index y bytes maxL ret hh wy { frames := fr, cells := 1, slots := 6, locals := lo } 1 6 na) (hPL : PLs ws W0 W1 ws') (hlen : av.length = na) (hst : st = av.reverse ++ rest) (hro : (rest.map fun v => v.category).sum ≤ 8) (hfit : k + 1 ≤ R.cells ∧ n + 6 ≤ R.slots) (hdg : decode cc pc = .ok (.invokestatic index, 3)) (hn : pc + 3 = pc') (kk : V p l e R s m args below meth c D A nL (k + 1) (n + 6) Q ws' lv pc' (.int r :: rest)) : V p l e R s m args below meth c D A nL k n Q ws lv pc st := by
  intro H locs ls hP hD hS hl
  have hFc := hPL.free hD hS hA
  refine va_calli (vx_runSW (As := av) (rest := rest) C0 (hM H.size) cw ⟨CPX.blind, fun U hU hW => ⟨rfl, ⟨by rw [hU], by rw [hU]; exact hPL.1 _ _ hP, va_K.moved hW.alike hK, (hPL.2.1 _ hD).weaken (fun _ _ _ _ => trivial)⟩, hEN.go hS hU hW hFc⟩⟩ rfl hlen hl.1 hst (lv_room hro) hdg hfit) hS (fun q _ h => hFc q h) hFc (fun r1 u t H1 locs1 ht hvm hw hB hz1 hk1 hS1 => ?_)
  obtain ⟨q1, q2, q3⟩ := hB
  rw [ht] at q1
  obtain ⟨hP2, hD2⟩ := hPL.2.2 _ _ _ _ hP hD hk1 hFc q1 q3
  subst hw
  exact hn ▸ kk H1 locs1 ls hP2 hD2 hS1 hl
theorem v_sld (C0 : CallFix p m c cc nL s args Ts own) {b L : Nat} {xs : Nat → Int32} (hX : va_X b L xs s s.heap) (hbl : b < s.heap.size) (hbA : ¬ A b) {i : Int32} {pc' : Nat} (hin : vp_in i L) (hdg : decode cc pc = .ok (.iaload, 1)) (hn : pc + 1 = pc') (kk : V p l e R s m args below meth c D A nL k n Q ws lv pc' (.int (xs i.toNatClampNeg) :: st)) : V p l e R s m args below meth c D A nL k n Q ws lv pc (.int i :: .ref b :: st) := fun H locs ls hP hD hS hl => va_sld C0.1 C0.2.1 hX hbl hbA hS hin hdg (hn ▸ kk H locs ls hP hD hS hl)
theorem v_slen (C0 : CallFix p m c cc nL s args Ts own) {b L : Nat} {xs : Nat → Int32} (hX : va_X b L xs s s.heap) (hbl : b < s.heap.size) (hbA : ¬ A b) {pc' : Nat} (hdg : decode cc pc = .ok (.arraylength, 1)) (hn : pc + 1 = pc') (kk : V p l e R s m args below meth c D A nL k n Q ws lv pc' (.int (nI L) :: st)) : V p l e R s m args below meth c D A nL k n Q ws lv pc (.ref b :: st) := fun H locs ls hP hD hS hl => va_slen C0.1 C0.2.1 hX hbl hbA hS hdg (hn ▸ kk H locs ls hP hD hS hl)
end VKL
section VKM
variable {p : Program} {l : Launch} {e : Env} {R : Room} {s : State} {m : MethodId} {args : Array Value} {below : List Frame} {meth : Method} {c : Code} {D : va_G} {A : Nat → Prop} {nL k n : Nat} {Q : State → Prop}
variable {cc : ByteArray} {Ts : List Cond} {own : String} {ws : va_W} {lv lv' : List (Nat × Value)} {pc : Nat} {st : List Value} {tys : List (ClassId × FieldType)}
theorem v_new (C0 : CallFix p m c cc nL s args Ts own) (hK : va_K D vwCl tys s) (hA : ∀ q, s.heap.size ≤ q → A q) {C : String} {T : u_T} {N ci index pc' : Nat} (hin : ∀ w ∈ u_ws C T N, w ∈ Ts) (ty : Nat → FieldType) (hty : ∀ k, k < N → parseFieldDescriptor (T k).2.2.1 = some (ty k)) (hcl : Cond.classLink own index C ∈ Ts) (hinst : Cond.instantiable C N ∈ Ts) (hini : Cond.initialized C ∈ Ts) (hc : vwCl[ci]? = some (C, T, N)) {fs : List Value} (hfs : ∀ j, j < N → defaultValue (ty j) = vp_V fs j) (hcells : k + 1 ≤ R.cells) (hslots : n + N ≤ R.slots) (hdg : decode cc pc = .ok (.new index, 3)) (hn : pc + 3 = pc') (kk : ∀ q : Nat, V p l e R s m args below meth c D A nL (k + 1) (n + N) Q (ws ++ [(q, .inr (ci, fs))]) lv pc' (.ref q :: st)) : V p l e R s m args below meth c D A nL k n Q ws lv pc st := fun H locs ls hP hD hS hl => va_new C0.1 C0.2.1 C0.2.2.2.2 hin ty hty C0.2.2.2.1 (C0.2.2.2.2 _ hcl) (C0.2.2.2.2 _ hinst) (C0.2.2.2.2 _ hini) hK hP hD hS hA hc hfs hcells hslots hdg (fun q H1 hP1 hD1 hS1 => hn ▸ kk q H1 locs ls hP1 hD1 hS1 hl)
theorem v_callC (C0 : CallFix p m c cc nL s args Ts own) {y : MethodName} {bytes : ByteArray} {maxL fr lo mc ms na index : Nat} {wy : List Cond} {av rest : List Value} {W0 : va_W} {W1 ws' : (Nat → Nat) → va_W} {px : (Nat → Nat) → Prop} {b pc' : Nat} (hK : va_K D vwCl tys s) (hA : ∀ q, s.heap.size ≤ q → A q) (hM : Kc l y wy fr lo mc ms D tys (.ref b :: av) W0 W1 px) (cw : CallB R s args own index y bytes maxL none wy { frames := fr, cells := mc, slots := ms, locals := lo } mc ms na ∧ y.name = "<init>" ∧ (Cond.instanceMethod y).before args s = true) (hPL : ∀ ad, PLs ws W0 (W1 ad) (ws' ad)) (hlen : av.length = na) (hst : st = av.reverse ++ .ref b :: rest) (hro : (rest.map fun v => v.category).sum ≤ 8) (hfit : k + mc ≤ R.cells ∧ n + ms ≤ R.slots) (hdg : decode cc pc = .ok (.invokespecial index, 3)) (hn : pc + 3 = pc') (kk : ∀ ad, px ad → V p l e R s m args below meth c D A nL (k + mc) (n + ms) Q (ws' ad) lv pc' rest) : V p l e R s m args below meth c D A nL k n Q ws lv pc st := by
  intro H locs ls hP hD hS hl
  have hFc := (hPL (fun _ => 0)).free hD hS hA
  refine va_callv (va_runI (As := av) (rest := rest) C0 (hM H.size) cw ⟨CP.blind, fun U hU hW => ⟨rfl, by rw [hU], by rw [hU]; exact (hPL (fun _ => 0)).1 _ _ hP, va_K.moved hW.alike hK, ((hPL (fun _ => 0)).2.1 _ hD).weaken (fun _ _ _ _ => trivial)⟩⟩ rfl hlen hl.1 hst (lv_room hro) hdg hfit) hS (fun q _ h => hFc q h) hFc (fun ad t H1 locs1 ht hvm hw hB hz1 hk1 hS1 => ?_)
  obtain ⟨q1, q2, q3⟩ := hB
  rw [ht] at q1
  obtain ⟨hP2, hD2⟩ := (hPL ad).2.2 _ _ _ _ hP hD hk1 hFc q1 q3
  exact hn ▸ kk ad hw H1 locs1 ls hP2 hD2 hS1 hl
/-- the class of an array, out of the tables -/
theorem arr_known {ty : FieldType} (h : (Cond.arrayClass ty).before args s = true) : ∃ cA : ClassId, ArrOfT s cA ty ∧ s.vm.findClass ("[" ++ ty.toString) = some cA := by
  obtain ⟨cA, kA, comp, h1, h2, h3⟩ := Cond.arrayClass_spec h
  exact ⟨cA, fun n z => ⟨(fun k h => by cases h), kA, h2, comp, h3⟩, h1⟩
end VKM
