/-! EXCEPTIONS: what a throw needs of the start, contracts Kx (always throws E, the world as it was), calls that let it out or catch it -/
section VKX
variable {p : Program} {l : Launch} {e : Env} {R : Room} {s : State} {m : MethodId} {args : Array Value} {below : List Frame} {meth : Method} {c : Code} {D : va_G} {A : Nat → Prop} {nL k n : Nat} {Q : State → Prop}
variable {cc : ByteArray} {Ts : List Cond} {own : String} {ws ws' : va_W} {lv lv' : List (Nat × Value)} {pc : Nat} {st : List Value} {tys : List (ClassId × FieldType)}
def xIAE : String := "java/lang/IllegalArgumentException"
def xISE : String := "java/lang/IllegalStateException"
def xNSE : String := "java/util/NoSuchElementException"
def xNames : List String := ["java/lang/RuntimeException", "java/lang/Exception"]
def ENs : List (Nat × String) := [(166, "a switch is 0 to 5"), (168, "a lane is 1 to 15"), (170, "a port is 0 to 5"), (174, "there is no cable at the port"), (69, "the lane is tagged at the port"), (82, "the lane is the untagged one of the port"), (86, "a cost is 1 to 20"), (89, "a cable joins two switches"), (95, "there is a cable at one of the ports")]
def xDs : List MethodName := [Bundle.initS "java/lang/RuntimeException", Bundle.initS "java/lang/Exception", Bundle.initS Bundle.tN]
def xB (E : String) : List Cond := [Cond.castable E E, Cond.declares (Bundle.initS "java/lang/RuntimeException"), Cond.declares (Bundle.initS "java/lang/Exception"), Cond.declares (Bundle.initS Bundle.tN)]
def EN (A : Nat → Prop) (U : State) : Prop := vx_Zq Bundle.tN "UNASSIGNED_STACK" Bundle.steD A U U.heap ∧ vx_Zq Bundle.tN "SUPPRESSED_SENTINEL" Bundle.listD A U U.heap ∧ (∀ q ∈ ENs, ∃ sa, vk_R RX0 q.1 q.2 sa U) ∧ (∀ X ∈ [xIAE, xISE, xNSE], va_Nw (.castable X X) U) ∧ va_Nc xISE xIAE U ∧ va_Nc xNSE xIAE U ∧ va_Nc xISE xNSE U ∧ ∀ x ∈ xDs, va_Nw (.declares x) U
theorem EN.go {A A' : Nat → Prop} {s U : State} {H : Heap} {locs : List Loc} (h : EN A s) (hS : va_S A s.heap H locs) (hU : U.heap = H) (hW : s.WarmedH U.vm) (hF : ∀ q, A' q → A q) : EN A' U := by
  obtain ⟨h1, h2, h3, h4, h5, h6, h6b, h7⟩ := h
  subst hU
  exact ⟨((h1.kept hS.2.1).moved hW.alike).narrow hF, ((h2.kept hS.2.1).moved hW.alike).narrow hF, fun q hq => by obtain ⟨sa, h⟩ := h3 q hq; exact ⟨sa, vk_R.warm hW h⟩, fun X hX => va_Nw.warmC hW (h4 X hX), va_Nc.moved hW.alike h5, va_Nc.moved hW.alike h6, va_Nc.moved hW.alike h6b, fun x hx => va_Nw.warmD hW (h7 x hx)⟩
theorem EN.same {A : Nat → Prop} {U U' : State} (h : EN A U) (hh : U'.heap = U.heap) (hW : U.WarmedH U'.vm) : EN A U' := EN.go (locs := []) h ⟨Nat.le_refl _, fun _ _ _ => rfl, fun _ h => by cases h⟩ hh hW (fun _ h => h)
def CPX (D : va_G) (tys : List (ClassId × FieldType)) (W0 : va_W) (sz : Nat) (U : State) : Prop := CP D tys W0 sz U ∧ EN (va_A W0 sz) U
theorem CPX.blind {D : va_G} {tys : List (ClassId × FieldType)} {W0 : va_W} {sz : Nat} {av : List Value} : FrameBlind (va_Pc av (CPX D tys W0 sz)) := fun a U g mk h => ⟨h.1, ⟨h.2.1.1, h.2.1.2.1, va_K.moved (u := U) (U := U.calling g mk a) (Vm.Alike.refl U.vm) h.2.1.2.2.1, h.2.1.2.2.2⟩, EN.same h.2.2 rfl (State.WarmedH.refl U)⟩
def XX (D : va_G) (tys : List (ClassId × FieldType)) (W0 : va_W) (A : Nat → Prop) (E : String) : String → State → State → Prop := vx_X (fun (_ : Unit) => True) (fun E' _ t => E' = E ∧ CQ D tys W0 A t) A
def QF : Array Value → State → Outcome → State → Prop := fun _ _ _ _ => False
def Kx (l : Launch) (y : MethodName) (wy : List Cond) (fr lo : Nat) (D : va_G) (tys : List (ClassId × FieldType)) (av : List Value) (W0 : va_W) (E : String) : Prop := ∀ sz, vx_Met l y wy { frames := fr, cells := 1, slots := 6, locals := lo } (va_Pc av (CPX D tys W0 sz)) QF (XX D tys W0 (va_A W0 sz) E) 1 6 (va_A W0 sz)
theorem Kx.of {y : MethodName} {wy ws' : List Cond} {fr lo maxL : Nat} {rt : Option FieldType} {av : List Value} {W0 : va_W} {E : String} {lv0 : List (Nat × Value)} (hy : plainName y.cls = true) (hw : wy = Cond.code y cc maxL rt :: ws') (hlen : (lg_sl av).length ≤ maxL) (hlv : lv_args 0 av = lv0)
    (body : ∀ (p : Program) (e : Env) (s : State) (m : MethodId) (args : Array Value) (below : List Frame) (meth : Method) (c : Code) (A : Nat → Prop), CallFix p m c cc maxL s args wy y.cls → (∀ x ∈ c.exceptionTable.toList, False) → meth.locks = false → va_K D vwCl tys s → (∀ q, s.heap.size ≤ q → A q) → EN A s → V p l e { frames := fr, cells := 1, slots := 6, locals := lo } s m args below meth c D A maxL 0 0 (vx_MQ below QF (XX D tys W0 A E) args s 1 6 A) W0 lv0 0 []) : Kx l y wy fr lo D tys av W0 E := by
  intro sz
  refine vx_ofW (cc := cc) (maxL := maxL) (ret := rt) hy hw ?_
  intro p e s m args below meth c s₁ B hml ht hv
  obtain ⟨rfl, ⟨hsz, hP, hK, hD0⟩, hE⟩ := hv
  subst hsz
  have hl := lv_entry av (n := maxL) hlen
  rw [lg_entry_eq]
  rw [hlv] at hl
  exact body p e s m _ below meth c _ ⟨B.exec, B.bytes, hml, findClass_of_methodNamed B.named, atoms_spec (ws := wy) B.pre⟩ ht B.notSynchronized hK (fun q h => Or.inr h) hE _ _ _ hP hD0.self va_S.rf hl
theorem XX.of {W0 : va_W} {E : String} {H : Heap} {locs : List Loc} {t : State} (hK : va_K D vwCl tys s) (hP : va_P D vwCl W0 H) (hD : va_D A W0) (hS : va_S A s.heap H locs) (hvm : s.vm.Alike t.vm) (hz : H.size ≤ t.heap.size) (ho : ∀ q : Nat, q < H.size → t.heap[q]? = H[q]?) : XX D tys W0 A E E s t :=
  ⟨(), trivial, ⟨rfl, hP.kept (fun k q hk => ho q.1 (hP k q hk).lt), va_K.moved hvm hK, hD⟩, Nat.le_trans hS.1 hz, fun q h1 h2 => (ho q (Nat.lt_of_lt_of_le h1 hS.1)).trans (hS.2.1 q h1 h2)⟩

theorem v_throw (C0 : CallFix p m c cc nL s args Ts own) (hst : l.stackTraces = false) (hEN : EN A s) (hT0 : ∀ x ∈ c.exceptionTable.toList, False) (hlk : meth.locks = false) (hK : va_K D vwCl tys s) (hown : own = RX0) {E text : String} {ik is ic : Nat} (hcls : Bundle.fit E = true) (hk : Cond.classLink own ik E ∈ Ts) (hini : Cond.initialized E ∈ Ts) (hat : ∀ w ∈ (vx_atS own ic E xNames).filter goodWord, w ∈ Ts) (hng : ∀ w ∈ (vx_atS own ic E xNames).filter (fun w => !goodWord w), w ∈ xB E) (hgood : ∀ w ∈ Cond.classLink own ik E :: Cond.initialized E :: vx_atS own ic E xNames, vx_ot w = true) (hX : E ∈ [xIAE, xISE, xNSE]) (htx : (is, text) ∈ ENs)
    (d0 : decode cc pc = .ok (.new ik, 3)) (d3 : decode cc (pc + 3) = .ok (.dup, 1)) (d4 : decode cc (pc + 4) = .ok (.ldc is, 2)) (d6 : decode cc (pc + 6) = .ok (.invokespecial ic, 3)) (d9 : decode cc (pc + 9) = .ok (.athrow, 1))
    (hRf : 5 < R.frames) (hRl : (st.map fun v => v.category).sum + 82 ≤ R.locals) (hRc : k + 1 ≤ R.cells) (hRs : n + 6 ≤ R.slots) {mc ms : Nat} (hc : k + 1 ≤ mc) (hs : n + 6 ≤ ms) : V p l e R s m args below meth c D A nL k n (vx_MQ below QF (XX D tys ws A E) args s mc ms A) ws lv pc st := by
  intro H locs ls hP hD hS hl
  obtain ⟨e1, e2, e3, e4, e5, e6, e6b, e7⟩ := hEN
  obtain ⟨sa, hsa⟩ := e3 _ htx
  refine vx_throwS (own := own) (cls := E) (text := text) (names := xNames) (ik := ik) (is := is) (ic := ic) (sa := sa) C0.1 C0.2.1 hst C0.2.2.2.1 hcls (by decide +kernel) (C0.2.2.2.2 _ hk) (C0.2.2.2.2 _ hini) (by rw [hown]; exact hsa) (vx_hat (fun w hw => C0.2.2.2.2 _ (hat w hw)) hng (vx_c (va_Nw.use rfl (e4 _ hX)) (vx_c (va_Nw.use rfl (e7 _ (by simp [xDs]))) (vx_c (va_Nw.use rfl (e7 _ (by simp [xDs]))) (vx_c (va_Nw.use rfl (e7 _ (by simp [xDs]))) vx_n))))) hgood e1 e2 hS (hl.1.trans C0.2.2.1.symm) d0 d3 d4 d6 d9 (fun x hx => (hT0 x hx).elim) hRf hRl hRc hRs hlk (fun t hvm hz ho => XX.of hK hP hD hS hvm hz ho) hS.2.2 hc hs
theorem vx_callF {H H0 : Heap} {locs : List Loc} {cells slots mc ms : Nat} {ls : Array Slot} {st0 rest : List Value} {free : Addr → Prop} {A0 : Nat → Prop} {SX : Type} {px : SX → Prop} {BX : String → SX → State → Prop} {AX : Nat → Prop} {Qa : State → Outcome → State → Prop} (hQ : ∀ a b c, ¬ Qa a b c) (hr : vx_Run p l e R s m args below meth c H locs cells slots mc ms (F0 m pc ls st0) rest Qa (vx_X px BX AX) free) (hS : va_S A0 H0 H locs) (hf : ∀ q, free q → A0 q) (hAX : ∀ q, q < H.size → AX q → A0 q)
    (kx : ∀ (E : String) (ce : Cell) (q9 : Addr) (u : SX) (t : State) (H1 : Heap) (locs1 : List Loc), t.heap = H1 → s.vm.Alike t.vm → px u → BX E u t → H.size ≤ H1.size → (∀ q : Nat, q < H.size → ¬ AX q → H1[q]? = H[q]?) → va_S A0 H0 H1 locs1 → H1[q9]? = some ce → ce.vm = .none → s.vm.findClass E = some ce.cls → vx_W p l e R s m args below meth c H1 locs1 (cells + mc) (slots + ms) Q (F0 m pc ls rest) q9) : W p l e R s m args below meth c H locs cells slots Q (F0 m pc ls st0) := by
  intro T hT X
  rcases hr T hT X with ⟨v, st₀, t, T', L, h0, X', hL, e1, e2, hq, st⟩ | ⟨q, st₀, t, T', L, E, ce, h0, X', hL, e1, e2, ⟨u, hp, hb, hF⟩, hce, hcv, hcl, st⟩
  · exact absurd hq (hQ _ _ _)
  · obtain ⟨k1, k2, k3⟩ := vx_keep h0 e1 hS hAX hf hL hF
    obtain ⟨t2, a1, b1⟩ := kx E ce q u t T'.heap (locs ++ L) e1.symm (by rw [← e2]; exact X'.warmed.alike) hp hb k1 k2 k3 (by rw [e1]; exact hce) hcv hcl T' rfl X'
    exact ⟨t2, st.trans a1, b1⟩

variable {y : MethodName} {bytes : ByteArray} {maxL fr lo na index : Nat} {ret : Option FieldType} {wy : List Cond} {av rest : List Value} {W0 wr : va_W} {isC isR isP : List Nat} {E : String}

theorem v_callSx_out (C0 : CallFix p m c cc nL s args Ts own) (hK : va_K D vwCl tys s) (hA : ∀ q, s.heap.size ≤ q → A q) (hEN : EN A s) (hM : Kx l y wy fr lo D tys av W0 E) (cw : CallB R s args own index y bytes maxL ret wy { frames := fr, cells := 1, slots := 6, locals := lo } 1 6 na ∧ (Cond.static y).before args s = true) (hPL : PLs ws W0 W0 ws) (hlen : av.length = na) (hst : st = av.reverse ++ rest) (hro : (rest.map fun v => v.category).sum ≤ 8) (hfit : k + 1 ≤ R.cells ∧ n + 6 ≤ R.slots) (hdg : decode cc pc = .ok (.invokestatic index, 3)) (hT0 : ∀ x ∈ c.exceptionTable.toList, False) (hlk : meth.locks = false) {mc ms : Nat} (hc : k + 1 ≤ mc) (hs : n + 6 ≤ ms) : V p l e R s m args below meth c D A nL k n (vx_MQ below QF (XX D tys ws A E) args s mc ms A) ws lv pc st := by
  intro H locs ls hP hD hS hl
  have hFc := hPL.free hD hS hA
  refine vx_callF (Qa := QF _) (fun _ _ _ h => h) (vx_runS (As := av) (rest := rest) C0 (hM H.size) cw ⟨CPX.blind, fun U hU hW => ⟨rfl, ⟨by rw [hU], by rw [hU]; exact hPL.1 _ _ hP, va_K.moved hW.alike hK, (hPL.2.1 _ hD).weaken (fun _ _ _ _ => trivial)⟩, hEN.go hS hU hW hFc⟩⟩ rfl hlen hl.1 hst (lv_room hro) hdg hfit) hS hFc (fun q _ h => hFc q h) (fun E1 ce q9 u t H1 locs1 ht hvm hw hB hz1 hk1 hS1 hce hcv hcl => ?_)
  obtain ⟨hE1, q1, q2, q3⟩ := hB
  subst hE1
  rw [ht] at q1
  obtain ⟨hP2, hD2⟩ := hPL.2.2 _ _ _ _ hP hD hk1 hFc q1 q3
  exact vx_out (fun x hx => (hT0 x hx).elim) hlk hce hcv hcl (fun t2 ht2 hvm2 => XX.of hK hP2 hD2 hS1 hvm2 (by rw [ht2]; exact Nat.le_refl _) (fun q _ => by rw [ht2])) hS1.2.2 hc hs
theorem v_callSx_catch (C0 : CallFix p m c cc nL s args Ts own) (hK : va_K D vwCl tys s) (hA : ∀ q, s.heap.size ≤ q → A q) (hEN : EN A s) (hM : Kx l y wy fr lo D tys av W0 E) (cw : CallB R s args own index y bytes maxL ret wy { frames := fr, cells := 1, slots := 6, locals := lo } 1 6 na ∧ (Cond.static y).before args s = true) (hPL : PLs ws W0 W0 ws) (hlen : av.length = na) (hst : st = av.reverse ++ rest) (hro : (rest.map fun v => v.category).sum ≤ 8) (hfit : k + 1 ≤ R.cells ∧ n + 6 ≤ R.slots) (hdg : decode cc pc = .ok (.invokestatic index, 3)) (name : String) (pre : List ExceptionTableEntry) (x : ExceptionTableEntry) (suf : List ExceptionTableEntry) (hsplit : c.exceptionTable.toList = pre ++ x :: suf) (hpass : ∀ z ∈ pre, covers z pc = false ∨ (z.catchType ≠ 0 ∧ ∃ nm : String, (Cond.classLink own z.catchType nm).before args s = true ∧ va_Nc E nm s)) (hx : covers x pc = true) (h0 : x.catchType ≠ 0) (hlink : (Cond.classLink own x.catchType name).before args s = true) (hcast : (Cond.castable E name).before args s = true) (kk : ∀ q9 : Nat, V p l e R s m args below meth c D A nL (k + 1) (n + 6) Q ws lv x.handlerPc [.ref q9]) : V p l e R s m args below meth c D A nL k n Q ws lv pc st := by
  intro H locs ls hP hD hS hl
  have hFc := hPL.free hD hS hA
  refine vx_callF (Qa := QF _) (fun _ _ _ h => h) (vx_runS (As := av) (rest := rest) C0 (hM H.size) cw ⟨CPX.blind, fun U hU hW => ⟨rfl, ⟨by rw [hU], by rw [hU]; exact hPL.1 _ _ hP, va_K.moved hW.alike hK, (hPL.2.1 _ hD).weaken (fun _ _ _ _ => trivial)⟩, hEN.go hS hU hW hFc⟩⟩ rfl hlen hl.1 hst (lv_room hro) hdg hfit) hS hFc (fun q _ h => hFc q h) (fun E1 ce q9 u t H1 locs1 ht hvm hw hB hz1 hk1 hS1 hce hcv hcl => ?_)
  obtain ⟨hE1, q1, q2, q3⟩ := hB
  subst hE1
  rw [ht] at q1
  obtain ⟨hP2, hD2⟩ := hPL.2.2 _ _ _ _ hP hD hk1 hFc q1 q3
  exact vx_catch C0.2.2.2.1 pre x suf hsplit hpass hx h0 hlink hcast hce hcv hcl (kk q9 H1 locs1 ls hP2 hD2 hS1 hl)

theorem v_callVx_out (C0 : CallFix p m c cc nL s args Ts own) {b : Nat} (hK : va_K D vwCl tys s) (hA : ∀ q, s.heap.size ≤ q → A q) (hEN : EN A s) (hM : Kx l y wy fr lo D tys (.ref b :: av) W0 E) (cw : CallW R s args own y.cls index y bytes maxL ret wy { frames := fr, cells := 1, slots := 6, locals := lo } 1 6 na) (hrec : ∃ (q0 ci : Nat) (T : u_T) (N : Nat) (fs : List Value), vwCl[ci]? = some (y.cls, T, N) ∧ ws[q0]? = some (b, .inr (ci, fs))) (hPL : PLs ws W0 W0 ws) (hlen : av.length = na) (hst : st = av.reverse ++ .ref b :: rest) (hro : (rest.map fun v => v.category).sum ≤ 8) (hfit : k + 1 ≤ R.cells ∧ n + 6 ≤ R.slots) (hdg : decode cc pc = .ok (.invokevirtual index, 3)) (hT0 : ∀ x ∈ c.exceptionTable.toList, False) (hlk : meth.locks = false) {mc ms : Nat} (hc : k + 1 ≤ mc) (hs : n + 6 ≤ ms) : V p l e R s m args below meth c D A nL k n (vx_MQ below QF (XX D tys ws A E) args s mc ms A) ws lv pc st := by
  intro H locs ls hP hD hS hl
  have hFc := hPL.free hD hS hA
  obtain ⟨q0, ci, T, N, fs, hc0, he0⟩ := hrec
  refine vx_callF (Qa := QF _) (fun _ _ _ h => h) (vx_runV (As := av) (rest := rest) C0 (hM H.size) cw ⟨CPX.blind, va_recv hK hP hc0 he0, fun U hU hW => ⟨rfl, ⟨by rw [hU], by rw [hU]; exact hPL.1 _ _ hP, va_K.moved hW.alike hK, (hPL.2.1 _ hD).weaken (fun _ _ _ _ => trivial)⟩, hEN.go hS hU hW hFc⟩⟩ rfl hlen hl.1 hst (lv_room hro) hdg hfit) hS hFc (fun q _ h => hFc q h) (fun E1 ce q9 u t H1 locs1 ht hvm hw hB hz1 hk1 hS1 hce hcv hcl => ?_)
  obtain ⟨hE1, q1, q2, q3⟩ := hB
  subst hE1
  rw [ht] at q1
  obtain ⟨hP2, hD2⟩ := hPL.2.2 _ _ _ _ hP hD hk1 hFc q1 q3
  exact vx_out (fun x hx => (hT0 x hx).elim) hlk hce hcv hcl (fun t2 ht2 hvm2 => XX.of hK hP2 hD2 hS1 hvm2 (by rw [ht2]; exact Nat.le_refl _) (fun q _ => by rw [ht2])) hS1.2.2 hc hs
theorem v_callVx_catch (C0 : CallFix p m c cc nL s args Ts own) {b : Nat} (hK : va_K D vwCl tys s) (hA : ∀ q, s.heap.size ≤ q → A q) (hEN : EN A s) (hM : Kx l y wy fr lo D tys (.ref b :: av) W0 E) (cw : CallW R s args own y.cls index y bytes maxL ret wy { frames := fr, cells := 1, slots := 6, locals := lo } 1 6 na) (hrec : ∃ (q0 ci : Nat) (T : u_T) (N : Nat) (fs : List Value), vwCl[ci]? = some (y.cls, T, N) ∧ ws[q0]? = some (b, .inr (ci, fs))) (hPL : PLs ws W0 W0 ws) (hlen : av.length = na) (hst : st = av.reverse ++ .ref b :: rest) (hro : (rest.map fun v => v.category).sum ≤ 8) (hfit : k + 1 ≤ R.cells ∧ n + 6 ≤ R.slots) (hdg : decode cc pc = .ok (.invokevirtual index, 3)) (name : String) (pre : List ExceptionTableEntry) (x : ExceptionTableEntry) (suf : List ExceptionTableEntry) (hsplit : c.exceptionTable.toList = pre ++ x :: suf) (hpass : ∀ z ∈ pre, covers z pc = false ∨ (z.catchType ≠ 0 ∧ ∃ nm : String, (Cond.classLink own z.catchType nm).before args s = true ∧ va_Nc E nm s)) (hx : covers x pc = true) (h0 : x.catchType ≠ 0) (hlink : (Cond.classLink own x.catchType name).before args s = true) (hcast : (Cond.castable E name).before args s = true) (kk : ∀ q9 : Nat, V p l e R s m args below meth c D A nL (k + 1) (n + 6) Q ws lv x.handlerPc [.ref q9]) : V p l e R s m args below meth c D A nL k n Q ws lv pc st := by
  intro H locs ls hP hD hS hl
  have hFc := hPL.free hD hS hA
  obtain ⟨q0, ci, T, N, fs, hc0, he0⟩ := hrec
  refine vx_callF (Qa := QF _) (fun _ _ _ h => h) (vx_runV (As := av) (rest := rest) C0 (hM H.size) cw ⟨CPX.blind, va_recv hK hP hc0 he0, fun U hU hW => ⟨rfl, ⟨by rw [hU], by rw [hU]; exact hPL.1 _ _ hP, va_K.moved hW.alike hK, (hPL.2.1 _ hD).weaken (fun _ _ _ _ => trivial)⟩, hEN.go hS hU hW hFc⟩⟩ rfl hlen hl.1 hst (lv_room hro) hdg hfit) hS hFc (fun q _ h => hFc q h) (fun E1 ce q9 u t H1 locs1 ht hvm hw hB hz1 hk1 hS1 hce hcv hcl => ?_)
  obtain ⟨hE1, q1, q2, q3⟩ := hB
  subst hE1
  rw [ht] at q1
  obtain ⟨hP2, hD2⟩ := hPL.2.2 _ _ _ _ hP hD hk1 hFc q1 q3
  exact vx_catch C0.2.2.2.1 pre x suf hsplit hpass hx h0 hlink hcast hce hcv hcl (kk q9 H1 locs1 ls hP2 hD2 hS1 hl)

end VKX
