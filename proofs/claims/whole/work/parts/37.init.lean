section VKC
variable {p : Program} {l : Launch} {e : Env} {R : Room} {s : State} {m : MethodId} {args : Array Value} {below : List Frame} {meth : Method} {c : Code} {D : va_G} {A : Nat → Prop} {nL k n : Nat} {Q : State → Prop}
variable {cc : ByteArray} {Ts : List Cond} {own : String} {ws ws' : va_W} {lv lv' : List (Nat × Value)} {pc : Nat} {st : List Value} {tys : List (ClassId × FieldType)}
theorem v_newa (C0 : CallFix p m c cc nL s args Ts own) (hK : va_K D vwCl tys s) (hA : ∀ q, s.heap.size ≤ q → A q) (t0 : Nat) {cI : ClassId} (ht : tys[t0]? = some (cI, .int)) {z : Int32} {N pc' k' n' : Nat} (hz : ¬ z < 0) (hN : z.toNatClampNeg = N) (hby : N * componentBytes .int ≤ 536870912) (hc : k + 1 ≤ R.cells) (hs : n + N ≤ R.slots) (harr : Cond.arrayClass .int ∈ Ts) (hdg : decode cc pc = .ok (.newarray .int, 2)) (hk' : k + 1 = k') (hn' : n + N = n') (hpc : pc + 2 = pc') (kk : ∀ q : Nat, V p l e R s m args below meth c D A nL k' n' Q (ws ++ [(q, .inl (cI, N, .inl (fun _ => 0)))]) lv pc' (.ref q :: st)) : V p l e R s m args below meth c D A nL k n Q ws lv pc (.int z :: st) := by
  intro H locs ls hP hD hS hl
  refine va_newa (atype := .int) C0.1 C0.2.1 (C0.2.2.2.2 _ harr) (ty := .int) rfl hK hP hD hS hA (N' := N) (a0 := (N, .inl (fun _ => 0))) (fun cA => rfl) hz hN hby hc hs hdg (fun q cA H1 hK1 hP1 hD1 hS1 => ?_)
  have h1 := (hK1.2 tys.length (cA, .int) (by simp)).2
  have h2 := (hK.2 t0 _ ht).2
  have e : cI = cA := Option.some.inj (Eq.trans (Eq.symm (show s.vm.findClass _ = some cI from h2)) h1)
  subst e
  subst hk'
  subst hn'
  subst hpc
  exact kk q H1 locs ls hP1 hD1 hS1 hl
theorem v_putF (C0 : CallFix p m c cc nL s args Ts own) (hK : va_K D vwCl tys s) {ref C : String} {T : u_T} {N ci index a : Nat} {fs : List Value} {v : Value} {pc' : Nat} {ty : FieldType} (q0 f : Nat) (ty0 : Nat → FieldType) (he : ws[q0]? = some (a, .inr (ci, fs))) (hw : ws.set q0 (a, .inr (ci, fs.set f v)) = ws') (hc : vwCl[ci]? = some (C, T, N)) (hf : f < N) (hl0 : f < fs.length) (hty : ∀ k, k < N → parseFieldDescriptor (T k).2.2.1 = some (ty0 k)) (hnm : ∀ a, a < N → ∀ b, b < N → a ≠ b → (T a).2.1 ≠ (T b).2.1) (hin : ∀ w ∈ u_ws C T N, w ∈ Ts) (hlink : Cond.fieldLink own index ref (T f).2.1 (T f).2.2.1 ∈ Ts) (hsame : (T f).1 = ref) (hfin : (T f).2.2.2 = true) (hin2 : meth.name = "<init>") (hdecl : (T f).1 = own) (hd : ty0 f = ty) (hnr : narrow ty v = v) (hft : fits ty v = true) (hdg : decode cc pc = .ok (.putfield index, 3)) (hn : pc + 3 = pc') (kk : V p l e R s m args below meth c D A nL k n Q ws' lv pc' st) : V p l e R s m args below meth c D A nL k n Q ws lv pc (v :: .ref a :: st) := fun H locs ls hP hD hS hl => va_putF C0.1 C0.2.1 C0.2.2.2.2 hin ty0 hty hnm C0.2.2.2.1 hK hP hD hS q0 he hc f hf (C0.2.2.2.2 _ hlink) (fun x h => hsame ▸ h) hfin hin2 hdecl (hd ▸ hty f hf) hnr hft hl0 hdg (fun H1 locs1 hP1 hD1 hS1 => hn ▸ kk H1 locs1 ls (hw ▸ hP1) (hw ▸ hD1) hS1 hl)
theorem v_objInit (C0 : CallFix p m c cc nL s args Ts own) {idx a pc' : Nat} (h1 : Cond.methodLink own idx Lib.objectInit ∈ Ts) (h2 : Cond.instanceMethod Lib.objectInit ∈ Ts) (h3 : Cond.code Lib.objectInit ⟨#[0xb1]⟩ 1 none ∈ Ts) (hd : decode cc pc = .ok (.invokespecial idx, 3)) (hRf : 1 ≤ R.frames) (hRl : (st.map fun v => v.category).sum + 12 ≤ R.locals) (hn : pc + 3 = pc') (kk : V p l e R s m args below meth c D A nL k n Q ws lv pc' st) : V p l e R s m args below meth c D A nL k n Q ws lv pc (.ref a :: st) := fun H locs ls hP hD hS hl => W.objInit C0.1 C0.2.1 C0.2.2.2.1 (C0.2.2.2.2 _ h1) (C0.2.2.2.2 _ h2) (C0.2.2.2.2 _ h3) rfl (hl.1.trans C0.2.2.1.symm) rfl hd hRf (by show 2 * 0 + _ + 12 ≤ _; omega) (hn ▸ kk H locs ls hP hD hS hl)
def QC (D : va_G) (tys : List (ClassId × FieldType)) (W1 : (Nat → Nat) → va_W) (px : (Nat → Nat) → Prop) (A : Nat → Prop) : Array Value → State → Outcome → State → Prop := va_Qv px (fun ad t => CQ D tys (W1 ad) A t) A
/-- a constructor's contract: its world's addresses come with the end -/
def Kc (l : Launch) (y : MethodName) (wy : List Cond) (fr lo mc ms : Nat) (D : va_G) (tys : List (ClassId × FieldType)) (av : List Value) (W0 : va_W) (W1 : (Nat → Nat) → va_W) (px : (Nat → Nat) → Prop) : Prop := ∀ sz, Met l y wy { frames := fr, cells := mc, slots := ms, locals := lo } (va_Pc av (CP D tys W0 sz)) (QC D tys W1 px (va_A W0 sz)) mc ms (va_A W0 sz)
theorem Kc.of {y : MethodName} {wy ws' : List Cond} {fr lo mc ms maxL : Nat} {av : List Value} {W0 : va_W} {W1 : (Nat → Nat) → va_W} {px : (Nat → Nat) → Prop} {lv0 : List (Nat × Value)} (hy : plainName y.cls = true) (hyn : y.name = "<init>") (hw : wy = Cond.code y cc maxL none :: ws') (hlen : (lg_sl av).length ≤ maxL) (hlv : lv_args 0 av = lv0)
    (body : ∀ (p : Program) (e : Env) (s : State) (m : MethodId) (args : Array Value) (below : List Frame) (meth : Method) (c : Code) (A : Nat → Prop), CallFix p m c cc maxL s args wy y.cls → meth.sig.returnType = none → meth.locks = false → meth.name = "<init>" → va_K D vwCl tys s → (∀ q, s.heap.size ≤ q → A q) → V p l e { frames := fr, cells := mc, slots := ms, locals := lo } s m args below meth c D A maxL 0 0 (MQ below (QC D tys W1 px A) args s mc ms A) W0 lv0 0 []) : Kc l y wy fr lo mc ms D tys av W0 W1 px := by
  intro sz
  refine Met.ofW (cc := cc) (maxL := maxL) (ret := none) hy hw ?_
  intro p e s m args below meth c s₁ B hml hv
  obtain ⟨rfl, hsz, hP, hK, hD0⟩ := hv
  subst hsz
  have hl := lv_entry av (n := maxL) hlen
  rw [lg_entry_eq]
  rw [hlv] at hl
  exact body p e s m _ below meth c _ ⟨B.exec, B.bytes, hml, findClass_of_methodNamed B.named, atoms_spec (ws := wy) B.pre⟩ B.returns B.notSynchronized ((name_of_methodNamed B.named B.method).1.trans hyn) hK (fun q h => Or.inr h) _ _ _ hP hD0.self va_S.rf hl
theorem v_vretC (C0 : CallFix p m c cc nL s args Ts own) (hr : meth.sig.returnType = none) (hlk : meth.locks = false) (hK : va_K D vwCl tys s) {W1 : (Nat → Nat) → va_W} {px : (Nat → Nat) → Prop} (ad : Nat → Nat) (hp : px ad) (hw : ws = W1 ad) (hdg : decode cc pc = .ok (.return_, 1)) : V p l e R s m args below meth c D A nL k n (MQ below (QC D tys W1 px A) args s k n A) ws lv pc [] := fun H locs ls hP hD hS hl => W.vret C0.1 C0.2.1 hr (fun t ht hW => ⟨⟨ad, rfl, hp, by rw [ht]; exact hw ▸ hP, va_K.moved hW.alike hK, hw ▸ hD⟩, hS.F ht⟩) hS.2.2 hdg hlk
end VKC
def adL (q : List Nat) : Nat → Nat := fun k => q.getD k 0
theorem ac_X0_init : Cond.arrayClass .int ∈ wsX0_init := by decide +kernel
set_option maxHeartbeats 4000000 in
set_option maxRecDepth 100000 in
theorem k_X0_init (l : Launch) (D : va_G) (cI : ClassId) (h : Nat) : Kc l yX0_init wsX0_init 5 114 12 432 D (TI cI) [.ref h] [(h, .inr (0, [.null, .null, .null, .null, .null, .null, .null, .null, .null, .null, .int 0, .null, .null, .int 0, .int 0]))] (fun ad => wX cI ad (fun _ => 0) (fun _ => 0) (xFill (fun _ => 0) (-1) 36) (fun _ => 0) (xFill (fun _ => 0) (-1) 36) (s_X0_growTree_RU (xFill (fun _ => 0) (-1) 36) (fun _ => 0) (fun _ => 0)) (s_X0_growTree_RC (xFill (fun _ => 0) (-1) 36) (fun _ => 0) (fun _ => 0) (fun _ => 0) (fun _ => 0)) (s_X0_growTree_WU (xFill (fun _ => 0) (-1) 36) (fun _ => 0) (fun _ => 0) (fun _ => 0) (fun _ => 0) (fun _ => 0)) (fun _ => 0) (fun _ => 0) 0 (s_X0_growTree_WT (fun _ => 0)) (fun _ => 0) 0 0) (fun ad => ad 0 = h) := by
  refine Kc.of (cc := cX0_init) (maxL := 1) (lv0 := [(0, .ref h)]) (by decide +kernel) rfl rfl (Nat.le_of_ble_eq_true rfl) rfl ?_
  intro p e s m args below meth c A C0 hr hlk hin hK hA
  refine v_aload_n C0 (pc' := 1) 0 rfl rfl dX0_init_0 rfl ?_
  refine v_objInit C0 (pc' := 4) (by decide +kernel) (by decide +kernel) (by decide +kernel) dX0_init_1 (Nat.le_of_ble_eq_true rfl) (Nat.le_of_ble_eq_true rfl) rfl ?_
  refine v_aload_n C0 (pc' := 5) 0 rfl rfl dX0_init_4 rfl ?_
  refine v_bipush C0 (pc' := 7) 36 (by decide) dX0_init_5 rfl ?_
  refine v_newa C0 hK hA (N := 36) (pc' := 9) (k' := 1) (n' := 36) 0 rfl (by decide +kernel) (by decide +kernel) (Nat.le_of_ble_eq_true rfl) (Nat.le_of_ble_eq_true rfl) (Nat.le_of_ble_eq_true rfl) ac_X0_init dX0_init_7 rfl rfl rfl (fun q1 => ?_)
  refine v_putF C0 hK (C := RX0) (T := TX0) (N := 15) (ws' := [(h, .inr (0, [.ref q1, .null, .null, .null, .null, .null, .null, .null, .null, .null, .int 0, .null, .null, .int 0, .int 0])), (q1, .inl (cI, 36, .inl (fun _ => 0)))]) (pc' := 12) 0 0 tyX0 rfl rfl rfl (by decide) (Nat.le_of_ble_eq_true rfl) tyX0_ok nmX0 in_X0_init fl_X0_init_9 rfl rfl hin rfl rfl rfl rfl dX0_init_9 rfl ?_
  refine v_aload_n C0 (pc' := 13) 0 rfl rfl dX0_init_12 rfl ?_
  refine v_bipush C0 (pc' := 15) 36 (by decide) dX0_init_13 rfl ?_
  refine v_newa C0 hK hA (N := 36) (pc' := 17) (k' := 2) (n' := 72) 0 rfl (by decide +kernel) (by decide +kernel) (Nat.le_of_ble_eq_true rfl) (Nat.le_of_ble_eq_true rfl) (Nat.le_of_ble_eq_true rfl) ac_X0_init dX0_init_15 rfl rfl rfl (fun q2 => ?_)
  refine v_putF C0 hK (C := RX0) (T := TX0) (N := 15) (ws' := [(h, .inr (0, [.ref q1, .ref q2, .null, .null, .null, .null, .null, .null, .null, .null, .int 0, .null, .null, .int 0, .int 0])), (q1, .inl (cI, 36, .inl (fun _ => 0))), (q2, .inl (cI, 36, .inl (fun _ => 0)))]) (pc' := 20) 0 1 tyX0 rfl rfl rfl (by decide) (Nat.le_of_ble_eq_true rfl) tyX0_ok nmX0 in_X0_init fl_X0_init_13 rfl rfl hin rfl rfl rfl rfl dX0_init_17 rfl ?_
  refine v_aload_n C0 (pc' := 21) 0 rfl rfl dX0_init_20 rfl ?_
  refine v_bipush C0 (pc' := 23) 36 (by decide) dX0_init_21 rfl ?_
  refine v_newa C0 hK hA (N := 36) (pc' := 25) (k' := 3) (n' := 108) 0 rfl (by decide +kernel) (by decide +kernel) (Nat.le_of_ble_eq_true rfl) (Nat.le_of_ble_eq_true rfl) (Nat.le_of_ble_eq_true rfl) ac_X0_init dX0_init_23 rfl rfl rfl (fun q3 => ?_)
  refine v_putF C0 hK (C := RX0) (T := TX0) (N := 15) (ws' := [(h, .inr (0, [.ref q1, .ref q2, .ref q3, .null, .null, .null, .null, .null, .null, .null, .int 0, .null, .null, .int 0, .int 0])), (q1, .inl (cI, 36, .inl (fun _ => 0))), (q2, .inl (cI, 36, .inl (fun _ => 0))), (q3, .inl (cI, 36, .inl (fun _ => 0)))]) (pc' := 28) 0 2 tyX0 rfl rfl rfl (by decide) (Nat.le_of_ble_eq_true rfl) tyX0_ok nmX0 in_X0_init fl_X0_init_16 rfl rfl hin rfl rfl rfl rfl dX0_init_25 rfl ?_
  refine v_aload_n C0 (pc' := 29) 0 rfl rfl dX0_init_28 rfl ?_
  refine v_bipush C0 (pc' := 31) 36 (by decide) dX0_init_29 rfl ?_
  refine v_newa C0 hK hA (N := 36) (pc' := 33) (k' := 4) (n' := 144) 0 rfl (by decide +kernel) (by decide +kernel) (Nat.le_of_ble_eq_true rfl) (Nat.le_of_ble_eq_true rfl) (Nat.le_of_ble_eq_true rfl) ac_X0_init dX0_init_31 rfl rfl rfl (fun q4 => ?_)
  refine v_putF C0 hK (C := RX0) (T := TX0) (N := 15) (ws' := [(h, .inr (0, [.ref q1, .ref q2, .ref q3, .ref q4, .null, .null, .null, .null, .null, .null, .int 0, .null, .null, .int 0, .int 0])), (q1, .inl (cI, 36, .inl (fun _ => 0))), (q2, .inl (cI, 36, .inl (fun _ => 0))), (q3, .inl (cI, 36, .inl (fun _ => 0))), (q4, .inl (cI, 36, .inl (fun _ => 0)))]) (pc' := 36) 0 3 tyX0 rfl rfl rfl (by decide) (Nat.le_of_ble_eq_true rfl) tyX0_ok nmX0 in_X0_init fl_X0_init_19 rfl rfl hin rfl rfl rfl rfl dX0_init_33 rfl ?_
  refine v_aload_n C0 (pc' := 37) 0 rfl rfl dX0_init_36 rfl ?_
  refine v_bipush C0 (pc' := 39) 36 (by decide) dX0_init_37 rfl ?_
  refine v_newa C0 hK hA (N := 36) (pc' := 41) (k' := 5) (n' := 180) 0 rfl (by decide +kernel) (by decide +kernel) (Nat.le_of_ble_eq_true rfl) (Nat.le_of_ble_eq_true rfl) (Nat.le_of_ble_eq_true rfl) ac_X0_init dX0_init_39 rfl rfl rfl (fun q5 => ?_)
  refine v_putF C0 hK (C := RX0) (T := TX0) (N := 15) (ws' := [(h, .inr (0, [.ref q1, .ref q2, .ref q3, .ref q4, .ref q5, .null, .null, .null, .null, .null, .int 0, .null, .null, .int 0, .int 0])), (q1, .inl (cI, 36, .inl (fun _ => 0))), (q2, .inl (cI, 36, .inl (fun _ => 0))), (q3, .inl (cI, 36, .inl (fun _ => 0))), (q4, .inl (cI, 36, .inl (fun _ => 0))), (q5, .inl (cI, 36, .inl (fun _ => 0)))]) (pc' := 44) 0 4 tyX0 rfl rfl rfl (by decide) (Nat.le_of_ble_eq_true rfl) tyX0_ok nmX0 in_X0_init fl_X0_init_22 rfl rfl hin rfl rfl rfl rfl dX0_init_41 rfl ?_
  refine v_aload_n C0 (pc' := 45) 0 rfl rfl dX0_init_44 rfl ?_
  refine v_bipush C0 (pc' := 47) 6 (by decide) dX0_init_45 rfl ?_
  refine v_newa C0 hK hA (N := 6) (pc' := 49) (k' := 6) (n' := 186) 0 rfl (by decide +kernel) (by decide +kernel) (Nat.le_of_ble_eq_true rfl) (Nat.le_of_ble_eq_true rfl) (Nat.le_of_ble_eq_true rfl) ac_X0_init dX0_init_47 rfl rfl rfl (fun q6 => ?_)
  refine v_putF C0 hK (C := RX0) (T := TX0) (N := 15) (ws' := [(h, .inr (0, [.ref q1, .ref q2, .ref q3, .ref q4, .ref q5, .ref q6, .null, .null, .null, .null, .int 0, .null, .null, .int 0, .int 0])), (q1, .inl (cI, 36, .inl (fun _ => 0))), (q2, .inl (cI, 36, .inl (fun _ => 0))), (q3, .inl (cI, 36, .inl (fun _ => 0))), (q4, .inl (cI, 36, .inl (fun _ => 0))), (q5, .inl (cI, 36, .inl (fun _ => 0))), (q6, .inl (cI, 6, .inl (fun _ => 0)))]) (pc' := 52) 0 5 tyX0 rfl rfl rfl (by decide) (Nat.le_of_ble_eq_true rfl) tyX0_ok nmX0 in_X0_init fl_X0_init_25 rfl rfl hin rfl rfl rfl rfl dX0_init_49 rfl ?_
  refine v_aload_n C0 (pc' := 53) 0 rfl rfl dX0_init_52 rfl ?_
  refine v_bipush C0 (pc' := 55) 6 (by decide) dX0_init_53 rfl ?_
  refine v_newa C0 hK hA (N := 6) (pc' := 57) (k' := 7) (n' := 192) 0 rfl (by decide +kernel) (by decide +kernel) (Nat.le_of_ble_eq_true rfl) (Nat.le_of_ble_eq_true rfl) (Nat.le_of_ble_eq_true rfl) ac_X0_init dX0_init_55 rfl rfl rfl (fun q7 => ?_)
  refine v_putF C0 hK (C := RX0) (T := TX0) (N := 15) (ws' := [(h, .inr (0, [.ref q1, .ref q2, .ref q3, .ref q4, .ref q5, .ref q6, .ref q7, .null, .null, .null, .int 0, .null, .null, .int 0, .int 0])), (q1, .inl (cI, 36, .inl (fun _ => 0))), (q2, .inl (cI, 36, .inl (fun _ => 0))), (q3, .inl (cI, 36, .inl (fun _ => 0))), (q4, .inl (cI, 36, .inl (fun _ => 0))), (q5, .inl (cI, 36, .inl (fun _ => 0))), (q6, .inl (cI, 6, .inl (fun _ => 0))), (q7, .inl (cI, 6, .inl (fun _ => 0)))]) (pc' := 60) 0 6 tyX0 rfl rfl rfl (by decide) (Nat.le_of_ble_eq_true rfl) tyX0_ok nmX0 in_X0_init fl_X0_init_28 rfl rfl hin rfl rfl rfl rfl dX0_init_57 rfl ?_
  refine v_aload_n C0 (pc' := 61) 0 rfl rfl dX0_init_60 rfl ?_
  refine v_bipush C0 (pc' := 63) 6 (by decide) dX0_init_61 rfl ?_
  refine v_newa C0 hK hA (N := 6) (pc' := 65) (k' := 8) (n' := 198) 0 rfl (by decide +kernel) (by decide +kernel) (Nat.le_of_ble_eq_true rfl) (Nat.le_of_ble_eq_true rfl) (Nat.le_of_ble_eq_true rfl) ac_X0_init dX0_init_63 rfl rfl rfl (fun q8 => ?_)
  refine v_putF C0 hK (C := RX0) (T := TX0) (N := 15) (ws' := [(h, .inr (0, [.ref q1, .ref q2, .ref q3, .ref q4, .ref q5, .ref q6, .ref q7, .ref q8, .null, .null, .int 0, .null, .null, .int 0, .int 0])), (q1, .inl (cI, 36, .inl (fun _ => 0))), (q2, .inl (cI, 36, .inl (fun _ => 0))), (q3, .inl (cI, 36, .inl (fun _ => 0))), (q4, .inl (cI, 36, .inl (fun _ => 0))), (q5, .inl (cI, 36, .inl (fun _ => 0))), (q6, .inl (cI, 6, .inl (fun _ => 0))), (q7, .inl (cI, 6, .inl (fun _ => 0))), (q8, .inl (cI, 6, .inl (fun _ => 0)))]) (pc' := 68) 0 7 tyX0 rfl rfl rfl (by decide) (Nat.le_of_ble_eq_true rfl) tyX0_ok nmX0 in_X0_init fl_X0_init_31 rfl rfl hin rfl rfl rfl rfl dX0_init_65 rfl ?_
  refine v_aload_n C0 (pc' := 69) 0 rfl rfl dX0_init_68 rfl ?_
  refine v_bipush C0 (pc' := 71) 96 (by decide) dX0_init_69 rfl ?_
  refine v_newa C0 hK hA (N := 96) (pc' := 73) (k' := 9) (n' := 294) 0 rfl (by decide +kernel) (by decide +kernel) (Nat.le_of_ble_eq_true rfl) (Nat.le_of_ble_eq_true rfl) (Nat.le_of_ble_eq_true rfl) ac_X0_init dX0_init_71 rfl rfl rfl (fun q9 => ?_)
  refine v_putF C0 hK (C := RX0) (T := TX0) (N := 15) (ws' := [(h, .inr (0, [.ref q1, .ref q2, .ref q3, .ref q4, .ref q5, .ref q6, .ref q7, .ref q8, .ref q9, .null, .int 0, .null, .null, .int 0, .int 0])), (q1, .inl (cI, 36, .inl (fun _ => 0))), (q2, .inl (cI, 36, .inl (fun _ => 0))), (q3, .inl (cI, 36, .inl (fun _ => 0))), (q4, .inl (cI, 36, .inl (fun _ => 0))), (q5, .inl (cI, 36, .inl (fun _ => 0))), (q6, .inl (cI, 6, .inl (fun _ => 0))), (q7, .inl (cI, 6, .inl (fun _ => 0))), (q8, .inl (cI, 6, .inl (fun _ => 0))), (q9, .inl (cI, 96, .inl (fun _ => 0)))]) (pc' := 76) 0 8 tyX0 rfl rfl rfl (by decide) (Nat.le_of_ble_eq_true rfl) tyX0_ok nmX0 in_X0_init fl_X0_init_34 rfl rfl hin rfl rfl rfl rfl dX0_init_73 rfl ?_
  refine v_aload_n C0 (pc' := 77) 0 rfl rfl dX0_init_76 rfl ?_
  refine v_bipush C0 (pc' := 79) 96 (by decide) dX0_init_77 rfl ?_
  refine v_newa C0 hK hA (N := 96) (pc' := 81) (k' := 10) (n' := 390) 0 rfl (by decide +kernel) (by decide +kernel) (Nat.le_of_ble_eq_true rfl) (Nat.le_of_ble_eq_true rfl) (Nat.le_of_ble_eq_true rfl) ac_X0_init dX0_init_79 rfl rfl rfl (fun q10 => ?_)
  refine v_putF C0 hK (C := RX0) (T := TX0) (N := 15) (ws' := [(h, .inr (0, [.ref q1, .ref q2, .ref q3, .ref q4, .ref q5, .ref q6, .ref q7, .ref q8, .ref q9, .ref q10, .int 0, .null, .null, .int 0, .int 0])), (q1, .inl (cI, 36, .inl (fun _ => 0))), (q2, .inl (cI, 36, .inl (fun _ => 0))), (q3, .inl (cI, 36, .inl (fun _ => 0))), (q4, .inl (cI, 36, .inl (fun _ => 0))), (q5, .inl (cI, 36, .inl (fun _ => 0))), (q6, .inl (cI, 6, .inl (fun _ => 0))), (q7, .inl (cI, 6, .inl (fun _ => 0))), (q8, .inl (cI, 6, .inl (fun _ => 0))), (q9, .inl (cI, 96, .inl (fun _ => 0))), (q10, .inl (cI, 96, .inl (fun _ => 0)))]) (pc' := 84) 0 9 tyX0 rfl rfl rfl (by decide) (Nat.le_of_ble_eq_true rfl) tyX0_ok nmX0 in_X0_init fl_X0_init_37 rfl rfl hin rfl rfl rfl rfl dX0_init_81 rfl ?_
  refine v_aload_n C0 (pc' := 85) 0 rfl rfl dX0_init_84 rfl ?_
  refine v_bipush C0 (pc' := 87) 36 (by decide) dX0_init_85 rfl ?_
  refine v_newa C0 hK hA (N := 36) (pc' := 89) (k' := 11) (n' := 426) 0 rfl (by decide +kernel) (by decide +kernel) (Nat.le_of_ble_eq_true rfl) (Nat.le_of_ble_eq_true rfl) (Nat.le_of_ble_eq_true rfl) ac_X0_init dX0_init_87 rfl rfl rfl (fun q11 => ?_)
  refine v_putF C0 hK (C := RX0) (T := TX0) (N := 15) (ws' := [(h, .inr (0, [.ref q1, .ref q2, .ref q3, .ref q4, .ref q5, .ref q6, .ref q7, .ref q8, .ref q9, .ref q10, .int 0, .ref q11, .null, .int 0, .int 0])), (q1, .inl (cI, 36, .inl (fun _ => 0))), (q2, .inl (cI, 36, .inl (fun _ => 0))), (q3, .inl (cI, 36, .inl (fun _ => 0))), (q4, .inl (cI, 36, .inl (fun _ => 0))), (q5, .inl (cI, 36, .inl (fun _ => 0))), (q6, .inl (cI, 6, .inl (fun _ => 0))), (q7, .inl (cI, 6, .inl (fun _ => 0))), (q8, .inl (cI, 6, .inl (fun _ => 0))), (q9, .inl (cI, 96, .inl (fun _ => 0))), (q10, .inl (cI, 96, .inl (fun _ => 0))), (q11, .inl (cI, 36, .inl (fun _ => 0)))]) (pc' := 92) 0 11 tyX0 rfl rfl rfl (by decide) (Nat.le_of_ble_eq_true rfl) tyX0_ok nmX0 in_X0_init fl_X0_init_40 rfl rfl hin rfl rfl rfl rfl dX0_init_89 rfl ?_
  refine v_aload_n C0 (pc' := 93) 0 rfl rfl dX0_init_92 rfl ?_
  refine v_bipush C0 (pc' := 95) 6 (by decide) dX0_init_93 rfl ?_
  refine v_newa C0 hK hA (N := 6) (pc' := 97) (k' := 12) (n' := 432) 0 rfl (by decide +kernel) (by decide +kernel) (Nat.le_of_ble_eq_true rfl) (Nat.le_of_ble_eq_true rfl) (Nat.le_of_ble_eq_true rfl) ac_X0_init dX0_init_95 rfl rfl rfl (fun q12 => ?_)
  refine v_putF C0 hK (C := RX0) (T := TX0) (N := 15) (ws' := [(h, .inr (0, [.ref q1, .ref q2, .ref q3, .ref q4, .ref q5, .ref q6, .ref q7, .ref q8, .ref q9, .ref q10, .int 0, .ref q11, .ref q12, .int 0, .int 0])), (q1, .inl (cI, 36, .inl (fun _ => 0))), (q2, .inl (cI, 36, .inl (fun _ => 0))), (q3, .inl (cI, 36, .inl (fun _ => 0))), (q4, .inl (cI, 36, .inl (fun _ => 0))), (q5, .inl (cI, 36, .inl (fun _ => 0))), (q6, .inl (cI, 6, .inl (fun _ => 0))), (q7, .inl (cI, 6, .inl (fun _ => 0))), (q8, .inl (cI, 6, .inl (fun _ => 0))), (q9, .inl (cI, 96, .inl (fun _ => 0))), (q10, .inl (cI, 96, .inl (fun _ => 0))), (q11, .inl (cI, 36, .inl (fun _ => 0))), (q12, .inl (cI, 6, .inl (fun _ => 0)))]) (pc' := 100) 0 12 tyX0 rfl rfl rfl (by decide) (Nat.le_of_ble_eq_true rfl) tyX0_ok nmX0 in_X0_init fl_X0_init_43 rfl rfl hin rfl rfl rfl rfl dX0_init_97 rfl ?_
  obtain ⟨ad, had⟩ : ∃ z, z = adL [h, q1, q2, q3, q4, q5, q6, q7, q8, q9, q10, q11, q12] := ⟨_, rfl⟩
  have h0 : h = ad 0 := by rw [had]; rfl
  refine v_world (ws' := wX cI ad (fun _ => 0) (fun _ => 0) (fun _ => 0) (fun _ => 0) (fun _ => 0) (fun _ => 0) (fun _ => 0) (fun _ => 0) (fun _ => 0) (fun _ => 0) 0 (fun _ => 0) (fun _ => 0) 0 0) (by rw [had]; rfl) ?_
  refine v_sub (lv' := [(0, .ref (ad 0))]) [0] (by rw [← h0]; rfl) ?_
  refine v_aload_n C0 (pc' := 101) 0 rfl rfl dX0_init_100 rfl ?_
  refine v_get C0 hK (C := RX0) (T := TX0) (N := 15) (pc' := 104) 0 2 rfl rfl rfl (by decide) in_X0_init fl_X0_init_16 rfl dX0_init_101 rfl ?_
  refine v_iconst C0 (pc' := 105) (-1) (by decide) dX0_init_104 rfl ?_
  refine v_callSv0 C0 (av := [.ref (ad 3), .int (-1)]) (rest := []) (ws' := wX cI ad (fun _ => 0) (fun _ => 0) (xFill (fun _ => 0) (-1) 36) (fun _ => 0) (fun _ => 0) (fun _ => 0) (fun _ => 0) (fun _ => 0) (fun _ => 0) (fun _ => 0) 0 (fun _ => 0) (fun _ => 0) 0 0) (pc' := 108) hK hA (k_J7_fill_53178 l D cI (ad 3) 36 (fun _ => 0) (-1) (by decide)) (va_cwS 2 C0.2.2.2.2 gX0_init_J7_fill_53178 rfl rfl rfl (by decide +kernel) ⟨Nat.le_of_ble_eq_true rfl, Nat.le_of_ble_eq_true rfl⟩) (PLs.one 3 rfl) rfl rfl (Nat.le_of_ble_eq_true rfl) ⟨Nat.le_refl _, Nat.le_refl _⟩ dX0_init_105 rfl ?_
  refine v_aload_n C0 (pc' := 109) 0 rfl rfl dX0_init_108 rfl ?_
  refine v_get C0 hK (C := RX0) (T := TX0) (N := 15) (pc' := 112) 0 4 rfl rfl rfl (by decide) in_X0_init fl_X0_init_22 rfl dX0_init_109 rfl ?_
  refine v_iconst C0 (pc' := 113) (-1) (by decide) dX0_init_112 rfl ?_
  refine v_callSv0 C0 (av := [.ref (ad 5), .int (-1)]) (rest := []) (ws' := wX cI ad (fun _ => 0) (fun _ => 0) (xFill (fun _ => 0) (-1) 36) (fun _ => 0) (xFill (fun _ => 0) (-1) 36) (fun _ => 0) (fun _ => 0) (fun _ => 0) (fun _ => 0) (fun _ => 0) 0 (fun _ => 0) (fun _ => 0) 0 0) (pc' := 116) hK hA (k_J7_fill_53178 l D cI (ad 5) 36 (fun _ => 0) (-1) (by decide)) (va_cwS 2 C0.2.2.2.2 gX0_init_J7_fill_53178 rfl rfl rfl (by decide +kernel) ⟨Nat.le_of_ble_eq_true rfl, Nat.le_of_ble_eq_true rfl⟩) (PLs.one 5 rfl) rfl rfl (Nat.le_of_ble_eq_true rfl) ⟨Nat.le_refl _, Nat.le_refl _⟩ dX0_init_113 rfl ?_
  refine v_aload_n C0 (pc' := 117) 0 rfl rfl dX0_init_116 rfl ?_
  refine v_callVv0 C0 (av := []) (rest := []) (ws' := wX cI ad (fun _ => 0) (fun _ => 0) (xFill (fun _ => 0) (-1) 36) (fun _ => 0) (xFill (fun _ => 0) (-1) 36) (s_X0_growTree_RU (xFill (fun _ => 0) (-1) 36) (fun _ => 0) (fun _ => 0)) (s_X0_growTree_RC (xFill (fun _ => 0) (-1) 36) (fun _ => 0) (fun _ => 0) (fun _ => 0) (fun _ => 0)) (s_X0_growTree_WU (xFill (fun _ => 0) (-1) 36) (fun _ => 0) (fun _ => 0) (fun _ => 0) (fun _ => 0) (fun _ => 0)) (fun _ => 0) (fun _ => 0) 0 (s_X0_growTree_WT (fun _ => 0)) (fun _ => 0) 0 0) (pc' := 120) hK hA (k_X0_growTree l D cI ad (fun _ => 0) (fun _ => 0) (xFill (fun _ => 0) (-1) 36) (fun _ => 0) (xFill (fun _ => 0) (-1) 36) (fun _ => 0) (fun _ => 0) (fun _ => 0) (fun _ => 0) (fun _ => 0) 0 (fun _ => 0) (fun _ => 0) 0 0 ) (cwV 0 C0.2.2.2.2 gX0_init_X0_growTree rfl rfl rfl (by decide +kernel) ⟨Nat.le_of_ble_eq_true rfl, Nat.le_of_ble_eq_true rfl⟩) ⟨0, 0, _, _, _, rfl, rfl⟩ PLs.all rfl rfl (Nat.le_of_ble_eq_true rfl) ⟨Nat.le_refl _, Nat.le_refl _⟩ dX0_init_117 rfl ?_
  exact v_vretC C0 hr hlk hK ad h0.symm rfl dX0_init_120
def s_X1_init_L1  (i1 : Nat) (z : (Nat → Int32) × (Nat → Int32)) : (Nat → Int32) × (Nat → Int32) := match z with
  | (F_L1, B_L1) => (upd F_L1 (nI i1).toNatClampNeg (-1), upd B_L1 (nI i1).toNatClampNeg (-1))
theorem ac_X1_init : Cond.arrayClass .int ∈ wsX1_init := by decide +kernel
set_option maxHeartbeats 4000000 in
set_option maxRecDepth 100000 in
theorem k_X1_init (l : Launch) (D : va_G) (cI : ClassId) (h : Nat) : Kc l yX1_init wsX1_init 1 12 11 396 D (TI cI) [.ref h] [(h, .inr (1, [.null, .null, .null, .null, .null, .int 0, .int 0, .null, .null, .null, .int 0, .null, .null, .int 0, .null]))] (fun bd => wY cI bd (fun _ => 0) (fun _ => 0) ((lp s_X1_init_L1 36 ((fun _ => 0), (fun _ => 0))).1) (fun _ => 0) ((lp s_X1_init_L1 36 ((fun _ => 0), (fun _ => 0))).2) 0 0 (fun _ => 0) (fun _ => 0) (fun _ => 0) 0 (fun _ => 0) (fun _ => 0) 0 (fun _ => 0)) (fun bd => bd 0 = h) := by
  refine Kc.of (cc := cX1_init) (maxL := 2) (lv0 := [(0, .ref h)]) (by decide +kernel) rfl rfl (Nat.le_of_ble_eq_true rfl) rfl ?_
  intro p e s m args below meth c A C0 hr hlk hin hK hA
  refine v_aload_n C0 (pc' := 1) 0 rfl rfl dX1_init_0 rfl ?_
  refine v_objInit C0 (pc' := 4) (by decide +kernel) (by decide +kernel) (by decide +kernel) dX1_init_1 (Nat.le_of_ble_eq_true rfl) (Nat.le_of_ble_eq_true rfl) rfl ?_
  refine v_aload_n C0 (pc' := 5) 0 rfl rfl dX1_init_4 rfl ?_
  refine v_bipush C0 (pc' := 7) 36 (by decide) dX1_init_5 rfl ?_
  refine v_newa C0 hK hA (N := 36) (pc' := 9) (k' := 1) (n' := 36) 0 rfl (by decide +kernel) (by decide +kernel) (Nat.le_of_ble_eq_true rfl) (Nat.le_of_ble_eq_true rfl) (Nat.le_of_ble_eq_true rfl) ac_X1_init dX1_init_7 rfl rfl rfl (fun q1 => ?_)
  refine v_putF C0 hK (C := RX1) (T := TX1) (N := 15) (ws' := [(h, .inr (1, [.ref q1, .null, .null, .null, .null, .int 0, .int 0, .null, .null, .null, .int 0, .null, .null, .int 0, .null])), (q1, .inl (cI, 36, .inl (fun _ => 0)))]) (pc' := 12) 0 0 tyX1 rfl rfl rfl (by decide) (Nat.le_of_ble_eq_true rfl) tyX1_ok nmX1 in_X1_init fl_X1_init_7 rfl rfl hin rfl rfl rfl rfl dX1_init_9 rfl ?_
  refine v_aload_n C0 (pc' := 13) 0 rfl rfl dX1_init_12 rfl ?_
  refine v_bipush C0 (pc' := 15) 36 (by decide) dX1_init_13 rfl ?_
  refine v_newa C0 hK hA (N := 36) (pc' := 17) (k' := 2) (n' := 72) 0 rfl (by decide +kernel) (by decide +kernel) (Nat.le_of_ble_eq_true rfl) (Nat.le_of_ble_eq_true rfl) (Nat.le_of_ble_eq_true rfl) ac_X1_init dX1_init_15 rfl rfl rfl (fun q2 => ?_)
  refine v_putF C0 hK (C := RX1) (T := TX1) (N := 15) (ws' := [(h, .inr (1, [.ref q1, .ref q2, .null, .null, .null, .int 0, .int 0, .null, .null, .null, .int 0, .null, .null, .int 0, .null])), (q1, .inl (cI, 36, .inl (fun _ => 0))), (q2, .inl (cI, 36, .inl (fun _ => 0)))]) (pc' := 20) 0 1 tyX1 rfl rfl rfl (by decide) (Nat.le_of_ble_eq_true rfl) tyX1_ok nmX1 in_X1_init fl_X1_init_13 rfl rfl hin rfl rfl rfl rfl dX1_init_17 rfl ?_
  refine v_aload_n C0 (pc' := 21) 0 rfl rfl dX1_init_20 rfl ?_
  refine v_bipush C0 (pc' := 23) 36 (by decide) dX1_init_21 rfl ?_
  refine v_newa C0 hK hA (N := 36) (pc' := 25) (k' := 3) (n' := 108) 0 rfl (by decide +kernel) (by decide +kernel) (Nat.le_of_ble_eq_true rfl) (Nat.le_of_ble_eq_true rfl) (Nat.le_of_ble_eq_true rfl) ac_X1_init dX1_init_23 rfl rfl rfl (fun q3 => ?_)
  refine v_putF C0 hK (C := RX1) (T := TX1) (N := 15) (ws' := [(h, .inr (1, [.ref q1, .ref q2, .ref q3, .null, .null, .int 0, .int 0, .null, .null, .null, .int 0, .null, .null, .int 0, .null])), (q1, .inl (cI, 36, .inl (fun _ => 0))), (q2, .inl (cI, 36, .inl (fun _ => 0))), (q3, .inl (cI, 36, .inl (fun _ => 0)))]) (pc' := 28) 0 2 tyX1 rfl rfl rfl (by decide) (Nat.le_of_ble_eq_true rfl) tyX1_ok nmX1 in_X1_init fl_X1_init_16 rfl rfl hin rfl rfl rfl rfl dX1_init_25 rfl ?_
  refine v_aload_n C0 (pc' := 29) 0 rfl rfl dX1_init_28 rfl ?_
  refine v_bipush C0 (pc' := 31) 36 (by decide) dX1_init_29 rfl ?_
  refine v_newa C0 hK hA (N := 36) (pc' := 33) (k' := 4) (n' := 144) 0 rfl (by decide +kernel) (by decide +kernel) (Nat.le_of_ble_eq_true rfl) (Nat.le_of_ble_eq_true rfl) (Nat.le_of_ble_eq_true rfl) ac_X1_init dX1_init_31 rfl rfl rfl (fun q4 => ?_)
  refine v_putF C0 hK (C := RX1) (T := TX1) (N := 15) (ws' := [(h, .inr (1, [.ref q1, .ref q2, .ref q3, .ref q4, .null, .int 0, .int 0, .null, .null, .null, .int 0, .null, .null, .int 0, .null])), (q1, .inl (cI, 36, .inl (fun _ => 0))), (q2, .inl (cI, 36, .inl (fun _ => 0))), (q3, .inl (cI, 36, .inl (fun _ => 0))), (q4, .inl (cI, 36, .inl (fun _ => 0)))]) (pc' := 36) 0 3 tyX1 rfl rfl rfl (by decide) (Nat.le_of_ble_eq_true rfl) tyX1_ok nmX1 in_X1_init fl_X1_init_19 rfl rfl hin rfl rfl rfl rfl dX1_init_33 rfl ?_
  refine v_aload_n C0 (pc' := 37) 0 rfl rfl dX1_init_36 rfl ?_
  refine v_bipush C0 (pc' := 39) 36 (by decide) dX1_init_37 rfl ?_
  refine v_newa C0 hK hA (N := 36) (pc' := 41) (k' := 5) (n' := 180) 0 rfl (by decide +kernel) (by decide +kernel) (Nat.le_of_ble_eq_true rfl) (Nat.le_of_ble_eq_true rfl) (Nat.le_of_ble_eq_true rfl) ac_X1_init dX1_init_39 rfl rfl rfl (fun q5 => ?_)
  refine v_putF C0 hK (C := RX1) (T := TX1) (N := 15) (ws' := [(h, .inr (1, [.ref q1, .ref q2, .ref q3, .ref q4, .ref q5, .int 0, .int 0, .null, .null, .null, .int 0, .null, .null, .int 0, .null])), (q1, .inl (cI, 36, .inl (fun _ => 0))), (q2, .inl (cI, 36, .inl (fun _ => 0))), (q3, .inl (cI, 36, .inl (fun _ => 0))), (q4, .inl (cI, 36, .inl (fun _ => 0))), (q5, .inl (cI, 36, .inl (fun _ => 0)))]) (pc' := 44) 0 4 tyX1 rfl rfl rfl (by decide) (Nat.le_of_ble_eq_true rfl) tyX1_ok nmX1 in_X1_init fl_X1_init_22 rfl rfl hin rfl rfl rfl rfl dX1_init_41 rfl ?_
  refine v_aload_n C0 (pc' := 45) 0 rfl rfl dX1_init_44 rfl ?_
  refine v_bipush C0 (pc' := 47) 6 (by decide) dX1_init_45 rfl ?_
  refine v_newa C0 hK hA (N := 6) (pc' := 49) (k' := 6) (n' := 186) 0 rfl (by decide +kernel) (by decide +kernel) (Nat.le_of_ble_eq_true rfl) (Nat.le_of_ble_eq_true rfl) (Nat.le_of_ble_eq_true rfl) ac_X1_init dX1_init_47 rfl rfl rfl (fun q6 => ?_)
  refine v_putF C0 hK (C := RX1) (T := TX1) (N := 15) (ws' := [(h, .inr (1, [.ref q1, .ref q2, .ref q3, .ref q4, .ref q5, .int 0, .int 0, .ref q6, .null, .null, .int 0, .null, .null, .int 0, .null])), (q1, .inl (cI, 36, .inl (fun _ => 0))), (q2, .inl (cI, 36, .inl (fun _ => 0))), (q3, .inl (cI, 36, .inl (fun _ => 0))), (q4, .inl (cI, 36, .inl (fun _ => 0))), (q5, .inl (cI, 36, .inl (fun _ => 0))), (q6, .inl (cI, 6, .inl (fun _ => 0)))]) (pc' := 52) 0 7 tyX1 rfl rfl rfl (by decide) (Nat.le_of_ble_eq_true rfl) tyX1_ok nmX1 in_X1_init fl_X1_init_25 rfl rfl hin rfl rfl rfl rfl dX1_init_49 rfl ?_
  refine v_aload_n C0 (pc' := 53) 0 rfl rfl dX1_init_52 rfl ?_
  refine v_bipush C0 (pc' := 55) 6 (by decide) dX1_init_53 rfl ?_
  refine v_newa C0 hK hA (N := 6) (pc' := 57) (k' := 7) (n' := 192) 0 rfl (by decide +kernel) (by decide +kernel) (Nat.le_of_ble_eq_true rfl) (Nat.le_of_ble_eq_true rfl) (Nat.le_of_ble_eq_true rfl) ac_X1_init dX1_init_55 rfl rfl rfl (fun q7 => ?_)
  refine v_putF C0 hK (C := RX1) (T := TX1) (N := 15) (ws' := [(h, .inr (1, [.ref q1, .ref q2, .ref q3, .ref q4, .ref q5, .int 0, .int 0, .ref q6, .ref q7, .null, .int 0, .null, .null, .int 0, .null])), (q1, .inl (cI, 36, .inl (fun _ => 0))), (q2, .inl (cI, 36, .inl (fun _ => 0))), (q3, .inl (cI, 36, .inl (fun _ => 0))), (q4, .inl (cI, 36, .inl (fun _ => 0))), (q5, .inl (cI, 36, .inl (fun _ => 0))), (q6, .inl (cI, 6, .inl (fun _ => 0))), (q7, .inl (cI, 6, .inl (fun _ => 0)))]) (pc' := 60) 0 8 tyX1 rfl rfl rfl (by decide) (Nat.le_of_ble_eq_true rfl) tyX1_ok nmX1 in_X1_init fl_X1_init_28 rfl rfl hin rfl rfl rfl rfl dX1_init_57 rfl ?_
  refine v_aload_n C0 (pc' := 61) 0 rfl rfl dX1_init_60 rfl ?_
  refine v_bipush C0 (pc' := 63) 6 (by decide) dX1_init_61 rfl ?_
  refine v_newa C0 hK hA (N := 6) (pc' := 65) (k' := 8) (n' := 198) 0 rfl (by decide +kernel) (by decide +kernel) (Nat.le_of_ble_eq_true rfl) (Nat.le_of_ble_eq_true rfl) (Nat.le_of_ble_eq_true rfl) ac_X1_init dX1_init_63 rfl rfl rfl (fun q8 => ?_)
  refine v_putF C0 hK (C := RX1) (T := TX1) (N := 15) (ws' := [(h, .inr (1, [.ref q1, .ref q2, .ref q3, .ref q4, .ref q5, .int 0, .int 0, .ref q6, .ref q7, .ref q8, .int 0, .null, .null, .int 0, .null])), (q1, .inl (cI, 36, .inl (fun _ => 0))), (q2, .inl (cI, 36, .inl (fun _ => 0))), (q3, .inl (cI, 36, .inl (fun _ => 0))), (q4, .inl (cI, 36, .inl (fun _ => 0))), (q5, .inl (cI, 36, .inl (fun _ => 0))), (q6, .inl (cI, 6, .inl (fun _ => 0))), (q7, .inl (cI, 6, .inl (fun _ => 0))), (q8, .inl (cI, 6, .inl (fun _ => 0)))]) (pc' := 68) 0 9 tyX1 rfl rfl rfl (by decide) (Nat.le_of_ble_eq_true rfl) tyX1_ok nmX1 in_X1_init fl_X1_init_31 rfl rfl hin rfl rfl rfl rfl dX1_init_65 rfl ?_
  refine v_aload_n C0 (pc' := 69) 0 rfl rfl dX1_init_68 rfl ?_
  refine v_bipush C0 (pc' := 71) 96 (by decide) dX1_init_69 rfl ?_
  refine v_newa C0 hK hA (N := 96) (pc' := 73) (k' := 9) (n' := 294) 0 rfl (by decide +kernel) (by decide +kernel) (Nat.le_of_ble_eq_true rfl) (Nat.le_of_ble_eq_true rfl) (Nat.le_of_ble_eq_true rfl) ac_X1_init dX1_init_71 rfl rfl rfl (fun q9 => ?_)
  refine v_putF C0 hK (C := RX1) (T := TX1) (N := 15) (ws' := [(h, .inr (1, [.ref q1, .ref q2, .ref q3, .ref q4, .ref q5, .int 0, .int 0, .ref q6, .ref q7, .ref q8, .int 0, .ref q9, .null, .int 0, .null])), (q1, .inl (cI, 36, .inl (fun _ => 0))), (q2, .inl (cI, 36, .inl (fun _ => 0))), (q3, .inl (cI, 36, .inl (fun _ => 0))), (q4, .inl (cI, 36, .inl (fun _ => 0))), (q5, .inl (cI, 36, .inl (fun _ => 0))), (q6, .inl (cI, 6, .inl (fun _ => 0))), (q7, .inl (cI, 6, .inl (fun _ => 0))), (q8, .inl (cI, 6, .inl (fun _ => 0))), (q9, .inl (cI, 96, .inl (fun _ => 0)))]) (pc' := 76) 0 11 tyX1 rfl rfl rfl (by decide) (Nat.le_of_ble_eq_true rfl) tyX1_ok nmX1 in_X1_init fl_X1_init_34 rfl rfl hin rfl rfl rfl rfl dX1_init_73 rfl ?_
  refine v_aload_n C0 (pc' := 77) 0 rfl rfl dX1_init_76 rfl ?_
  refine v_bipush C0 (pc' := 79) 96 (by decide) dX1_init_77 rfl ?_
  refine v_newa C0 hK hA (N := 96) (pc' := 81) (k' := 10) (n' := 390) 0 rfl (by decide +kernel) (by decide +kernel) (Nat.le_of_ble_eq_true rfl) (Nat.le_of_ble_eq_true rfl) (Nat.le_of_ble_eq_true rfl) ac_X1_init dX1_init_79 rfl rfl rfl (fun q10 => ?_)
  refine v_putF C0 hK (C := RX1) (T := TX1) (N := 15) (ws' := [(h, .inr (1, [.ref q1, .ref q2, .ref q3, .ref q4, .ref q5, .int 0, .int 0, .ref q6, .ref q7, .ref q8, .int 0, .ref q9, .ref q10, .int 0, .null])), (q1, .inl (cI, 36, .inl (fun _ => 0))), (q2, .inl (cI, 36, .inl (fun _ => 0))), (q3, .inl (cI, 36, .inl (fun _ => 0))), (q4, .inl (cI, 36, .inl (fun _ => 0))), (q5, .inl (cI, 36, .inl (fun _ => 0))), (q6, .inl (cI, 6, .inl (fun _ => 0))), (q7, .inl (cI, 6, .inl (fun _ => 0))), (q8, .inl (cI, 6, .inl (fun _ => 0))), (q9, .inl (cI, 96, .inl (fun _ => 0))), (q10, .inl (cI, 96, .inl (fun _ => 0)))]) (pc' := 84) 0 12 tyX1 rfl rfl rfl (by decide) (Nat.le_of_ble_eq_true rfl) tyX1_ok nmX1 in_X1_init fl_X1_init_37 rfl rfl hin rfl rfl rfl rfl dX1_init_81 rfl ?_
  refine v_aload_n C0 (pc' := 85) 0 rfl rfl dX1_init_84 rfl ?_
  refine v_bipush C0 (pc' := 87) 6 (by decide) dX1_init_85 rfl ?_
  refine v_newa C0 hK hA (N := 6) (pc' := 89) (k' := 11) (n' := 396) 0 rfl (by decide +kernel) (by decide +kernel) (Nat.le_of_ble_eq_true rfl) (Nat.le_of_ble_eq_true rfl) (Nat.le_of_ble_eq_true rfl) ac_X1_init dX1_init_87 rfl rfl rfl (fun q11 => ?_)
  refine v_putF C0 hK (C := RX1) (T := TX1) (N := 15) (ws' := [(h, .inr (1, [.ref q1, .ref q2, .ref q3, .ref q4, .ref q5, .int 0, .int 0, .ref q6, .ref q7, .ref q8, .int 0, .ref q9, .ref q10, .int 0, .ref q11])), (q1, .inl (cI, 36, .inl (fun _ => 0))), (q2, .inl (cI, 36, .inl (fun _ => 0))), (q3, .inl (cI, 36, .inl (fun _ => 0))), (q4, .inl (cI, 36, .inl (fun _ => 0))), (q5, .inl (cI, 36, .inl (fun _ => 0))), (q6, .inl (cI, 6, .inl (fun _ => 0))), (q7, .inl (cI, 6, .inl (fun _ => 0))), (q8, .inl (cI, 6, .inl (fun _ => 0))), (q9, .inl (cI, 96, .inl (fun _ => 0))), (q10, .inl (cI, 96, .inl (fun _ => 0))), (q11, .inl (cI, 6, .inl (fun _ => 0)))]) (pc' := 92) 0 14 tyX1 rfl rfl rfl (by decide) (Nat.le_of_ble_eq_true rfl) tyX1_ok nmX1 in_X1_init fl_X1_init_40 rfl rfl hin rfl rfl rfl rfl dX1_init_89 rfl ?_
  obtain ⟨bd, had⟩ : ∃ z, z = adL [h, q1, q2, q3, q4, q5, q6, q7, q8, q9, q10, q11] := ⟨_, rfl⟩
  have h0 : h = bd 0 := by rw [had]; rfl
  refine v_world (ws' := wY cI bd (fun _ => 0) (fun _ => 0) (fun _ => 0) (fun _ => 0) (fun _ => 0) 0 0 (fun _ => 0) (fun _ => 0) (fun _ => 0) 0 (fun _ => 0) (fun _ => 0) 0 (fun _ => 0)) (by rw [had]; rfl) ?_
  refine v_sub (lv' := [(0, .ref (bd 0))]) [0] (by rw [← h0]; rfl) ?_
  refine v_iconst C0 (pc' := 93) 0 (by decide) dX1_init_92 rfl ?_
  refine v_istore_n C0 (lv' := [(1, .int 0), (0, .ref (bd 0))]) (pc' := 94) rfl (by decide) rfl dX1_init_93 rfl ?_
  suffices LP1 : ∀ (j1 i1 : Nat) (x1 : Int32) (F_L1 : Nat → Int32) (B_L1 : Nat → Int32), i1 + j1 = 36 → x1 = nI i1 → (F_L1, B_L1) = lp s_X1_init_L1 i1 ((fun _ => 0), (fun _ => 0)) → V p l e { frames := 1, cells := 11, slots := 396, locals := 12 } s m args below meth c D A 2 11 396 (MQ below (QC D (TI cI) (fun bd => wY cI bd (fun _ => 0) (fun _ => 0) ((lp s_X1_init_L1 36 ((fun _ => 0), (fun _ => 0))).1) (fun _ => 0) ((lp s_X1_init_L1 36 ((fun _ => 0), (fun _ => 0))).2) 0 0 (fun _ => 0) (fun _ => 0) (fun _ => 0) 0 (fun _ => 0) (fun _ => 0) 0 (fun _ => 0)) (fun bd => bd 0 = h) A) args s 11 396 A) (wY cI bd (fun _ => 0) (fun _ => 0) F_L1 (fun _ => 0) B_L1 0 0 (fun _ => 0) (fun _ => 0) (fun _ => 0) 0 (fun _ => 0) (fun _ => 0) 0 (fun _ => 0)) [(1, .int x1), (0, .ref (bd 0))] 94 [] by
    exact v_sub (lv' := [(1, .int 0), (0, .ref (bd 0))]) [0, 1] rfl (LP1 36 0 0 (fun _ => 0) (fun _ => 0) (Nat.zero_add _) nI_0.symm (lp_zero _ _).symm)
  intro j1
  induction j1 with
  | zero =>
    intro i1 x1 F_L1 B_L1 hi1 hx1 hs_L1
    have hi1 : 36 = i1 := by omega
    subst hi1
    subst hx1
    refine v_iload_n C0 (pc' := 95) 0 rfl rfl dX1_init_94 rfl ?_
    refine v_bipush C0 (pc' := 97) 36 (by decide) dX1_init_95 rfl ?_
    refine v_icmp_ge C0 120 (pc' := 100) dX1_init_97 (by decide) rfl (fun h1 => ?_) (fun h1 => ?_)
    · exact v_vretC C0 hr hlk hK bd h0.symm (by simp only [← hs_L1]) dX1_init_120
    · exact absurd (by decide +kernel) h1
  | succ j1 ih1 =>
    intro i1 x1 F_L1 B_L1 hi1 hx1 hs_L1
    subst hx1
    refine v_iload_n C0 (pc' := 95) 0 rfl rfl dX1_init_94 rfl ?_
    refine v_bipush C0 (pc' := 97) 36 (by decide) dX1_init_95 rfl ?_
    refine v_icmp_ge C0 120 (pc' := 100) dX1_init_97 (by decide) rfl (fun h2 => ?_) (fun h2 => ?_)
    · exact absurd h2 (nI_ge (a := i1) (b := 36) (by omega) (by decide))
    · refine v_aload_n C0 (pc' := 101) 1 rfl rfl dX1_init_100 rfl ?_
      refine v_get C0 hK (C := RX1) (T := TX1) (N := 15) (pc' := 104) 0 2 rfl rfl rfl (by decide) in_X1_init fl_X1_init_16 rfl dX1_init_101 rfl ?_
      refine v_iload_n C0 (pc' := 105) 0 rfl rfl dX1_init_104 rfl ?_
      refine v_iconst C0 (pc' := 106) (-1) (by decide) dX1_init_105 rfl ?_
      refine v_iast C0 hK (ws' := wY cI bd (fun _ => 0) (fun _ => 0) (upd F_L1 (nI i1).toNatClampNeg (-1)) (fun _ => 0) B_L1 0 0 (fun _ => 0) (fun _ => 0) (fun _ => 0) 0 (fun _ => 0) (fun _ => 0) 0 (fun _ => 0)) (pc' := 107) 3 0 rfl rfl rfl (vp_in_nI (by omega) (by decide)) dX1_init_106 rfl ?_
      refine v_aload_n C0 (pc' := 108) 1 rfl rfl dX1_init_107 rfl ?_
      refine v_get C0 hK (C := RX1) (T := TX1) (N := 15) (pc' := 111) 0 4 rfl rfl rfl (by decide) in_X1_init fl_X1_init_22 rfl dX1_init_108 rfl ?_
      refine v_iload_n C0 (pc' := 112) 0 rfl rfl dX1_init_111 rfl ?_
      refine v_iconst C0 (pc' := 113) (-1) (by decide) dX1_init_112 rfl ?_
      refine v_iast C0 hK (ws' := wY cI bd (fun _ => 0) (fun _ => 0) (upd F_L1 (nI i1).toNatClampNeg (-1)) (fun _ => 0) (upd B_L1 (nI i1).toNatClampNeg (-1)) 0 0 (fun _ => 0) (fun _ => 0) (fun _ => 0) 0 (fun _ => 0) (fun _ => 0) 0 (fun _ => 0)) (pc' := 114) 5 0 rfl rfl rfl (vp_in_nI (by omega) (by decide)) dX1_init_113 rfl ?_
      refine v_iinc C0 (lv' := [(1, .int ((nI i1) + 1)), (0, .ref (bd 0))]) (pc' := 117) 0 rfl ((nI i1) + 1) rfl (by decide) rfl dX1_init_114 rfl ?_
      refine v_goto C0 94 dX1_init_117 (by decide) ?_
      exact v_sub (lv' := [(1, .int ((nI i1) + 1)), (0, .ref (bd 0))]) [0, 1] rfl (ih1 (i1 + 1) ((nI i1) + 1) (upd F_L1 (nI i1).toNatClampNeg (-1)) (upd B_L1 (nI i1).toNatClampNeg (-1)) (by omega) (by rw [nI_1]) (by rw [lp_succ, ← hs_L1]; simp only [s_X1_init_L1, if_neg h2]))
