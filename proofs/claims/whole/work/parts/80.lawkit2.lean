/-! more rows for the law: objects made, their constructors, the long array, what holds throughout -/
theorem lg_self (x : Int64) : lg_cmp x x = 0 := by
  unfold lg_cmp
  rw [if_neg (fun h => Int64.lt_irrefl h), if_pos rfl]
section VKM
variable {p : Program} {l : Launch} {e : Env} {R : Room} {s : State} {m : MethodId} {args : Array Value} {below : List Frame} {meth : Method} {c : Code} {D : va_G} {A : Nat → Prop} {nL k n : Nat} {Q : State → Prop}
variable {cc : ByteArray} {Ts : List Cond} {own : String} {ws : va_W} {lv lv' : List (Nat × Value)} {pc : Nat} {st : List Value} {tys : List (ClassId × FieldType)}
theorem v_front {W : va_W} {x : Nat × va_E} (kk : V p l e R s m args below meth c D A nL k n Q (x :: W) lv pc st) : V p l e R s m args below meth c D A nL k n Q (W ++ [x]) lv pc st := by
  intro H locs ls hP hD hS hl
  have hx : (W ++ [x])[W.length + 0]? = some x := ap_r (B := [x]) (k := 0) rfl
  refine kk H locs ls (fun k q hq => ?_) ⟨fun i j p q hi hj he => ?_, fun k q hq => ?_⟩ hS hl
  · cases k with
    | zero => cases hq; exact hP _ _ hx
    | succ k => exact hP k q (ap_l hq)
  · cases i with
    | zero =>
      cases hi
      cases j with
      | zero => rfl
      | succ j =>
        have h1 := hD.1 _ _ _ _ hx (ap_l (B := [x]) (show W[j]? = some q from hj)) he
        have h2 := (List.getElem?_eq_some_iff.mp (show W[j]? = some q from hj)).1
        omega
    | succ i =>
      cases j with
      | zero =>
        cases hj
        have h1 := hD.1 _ _ _ _ (ap_l (B := [x]) (show W[i]? = some p from hi)) hx he
        have h2 := (List.getElem?_eq_some_iff.mp (show W[i]? = some p from hi)).1
        omega
      | succ j =>
        have h1 := hD.1 _ _ _ _ (ap_l (B := [x]) (show W[i]? = some p from hi)) (ap_l (B := [x]) (show W[j]? = some q from hj)) he
        omega
  · cases k with
    | zero => cases hq; exact hD.2 _ _ hx
    | succ k => exact hD.2 k q (ap_l hq)
theorem v_new (C0 : CallFix p m c cc nL s args Ts own) (hK : va_K D vwCl tys s) (hA : ∀ q, s.heap.size ≤ q → A q) {C : String} {T : u_T} {N ci index pc' : Nat} (hin : ∀ w ∈ u_ws C T N, w ∈ Ts) (ty : Nat → FieldType) (hty : ∀ k, k < N → parseFieldDescriptor (T k).2.2.1 = some (ty k)) (hcl : Cond.classLink own index C ∈ Ts) (hinst : Cond.instantiable C N ∈ Ts) (hini : Cond.initialized C ∈ Ts) (hc : vwCl[ci]? = some (C, T, N)) {fs : List Value} (hfs : ∀ j, j < N → defaultValue (ty j) = vp_V fs j) (hcells : k + 1 ≤ R.cells) (hslots : n + N ≤ R.slots) (hdg : decode cc pc = .ok (.new index, 3)) (hn : pc + 3 = pc') (kk : ∀ q : Nat, V p l e R s m args below meth c D A nL (k + 1) (n + N) Q (ws ++ [(q, .inr (ci, fs))]) lv pc' (.ref q :: st)) : V p l e R s m args below meth c D A nL k n Q ws lv pc st := fun H locs ls hP hD hS hl => va_new C0.1 C0.2.1 C0.2.2.2.2 hin ty hty C0.2.2.2.1 (C0.2.2.2.2 _ hcl) (C0.2.2.2.2 _ hinst) (C0.2.2.2.2 _ hini) hK hP hD hS hA hc hfs hcells hslots hdg (fun q H1 hP1 hD1 hS1 => hn ▸ kk q H1 locs ls hP1 hD1 hS1 hl)
theorem v_newaL (C0 : CallFix p m c cc nL s args Ts own) (hK : va_K D vwCl tys s) (hA : ∀ q, s.heap.size ≤ q → A q) (t0 : Nat) {cJ : ClassId} (ht : tys[t0]? = some (cJ, .long)) {z : Int32} {N pc' : Nat} (hz : ¬ z < 0) (hN : z.toNatClampNeg = N) (hby : N * componentBytes .long ≤ 536870912) (hc : k + 1 ≤ R.cells) (hs : n + N ≤ R.slots) (harr : Cond.arrayClass .long ∈ Ts) (hdg : decode cc pc = .ok (.newarray .long, 2)) (hpc : pc + 2 = pc') (kk : ∀ q : Nat, V p l e R s m args below meth c D A nL (k + 1) (n + N) Q (ws ++ [(q, .inl (cJ, N, .inr (.inl (fun _ => 0))))]) lv pc' (.ref q :: st)) : V p l e R s m args below meth c D A nL k n Q ws lv pc (.int z :: st) := by
  intro H locs ls hP hD hS hl
  refine va_newa (atype := .long) C0.1 C0.2.1 (C0.2.2.2.2 _ harr) (ty := .long) rfl hK hP hD hS hA (N' := N) (a0 := (N, .inr (.inl (fun _ => 0)))) (fun cA => rfl) hz hN hby hc hs hdg (fun q cA H1 hK1 hP1 hD1 hS1 => ?_)
  have h1 := (hK1.2 tys.length (cA, .long) (by simp)).2
  have h2 := (hK.2 t0 _ ht).2
  have e : cJ = cA := Option.some.inj (Eq.trans (Eq.symm (show s.vm.findClass _ = some cJ from h2)) h1)
  subst e
  subst hpc
  exact kk q H1 locs ls hP1 hD1 hS1 hl
theorem v_callC (C0 : CallFix p m c cc nL s args Ts own) {y : MethodName} {bytes : ByteArray} {maxL fr lo mc ms na index : Nat} {wy : List Cond} {av rest : List Value} {W0 : va_W} {W1 ws' : (Nat → Nat) → va_W} {px : (Nat → Nat) → Prop} {b pc' : Nat} (hK : va_K D vwCl tys s) (hA : ∀ q, s.heap.size ≤ q → A q) (hM : Kc l y wy fr lo mc ms D tys (.ref b :: av) W0 W1 px) (cw : CallB R s args own index y bytes maxL none wy { frames := fr, cells := mc, slots := ms, locals := lo } mc ms na ∧ y.name = "<init>" ∧ (Cond.instanceMethod y).before args s = true) (hPL : ∀ ad, PLs ws W0 (W1 ad) (ws' ad)) (hlen : av.length = na) (hst : st = av.reverse ++ .ref b :: rest) (hro : (rest.map fun v => v.category).sum ≤ 8) (hfit : k + mc ≤ R.cells ∧ n + ms ≤ R.slots) (hdg : decode cc pc = .ok (.invokespecial index, 3)) (hn : pc + 3 = pc') (kk : ∀ ad, px ad → V p l e R s m args below meth c D A nL (k + mc) (n + ms) Q (ws' ad) lv pc' rest) : V p l e R s m args below meth c D A nL k n Q ws lv pc st := by
  intro H locs ls hP hD hS hl
  have hFc := (hPL (fun _ => 0)).free hD hS hA
  refine va_callv (va_runI (As := av) (rest := rest) C0 (hM H.size) cw ⟨CP.blind, fun U hU hW => ⟨rfl, by rw [hU], by rw [hU]; exact (hPL (fun _ => 0)).1 _ _ hP, va_K.moved hW.alike hK, ((hPL (fun _ => 0)).2.1 _ hD).weaken (fun _ _ _ _ => trivial)⟩⟩ rfl hlen hl.1 hst (lv_room hro) hdg hfit) hS (fun q _ h => hFc q h) hFc (fun ad t H1 locs1 ht hvm hw hB hz1 hk1 hS1 => ?_)
  obtain ⟨q1, q2, q3⟩ := hB
  rw [ht] at q1
  obtain ⟨hP2, hD2⟩ := (hPL ad).2.2 _ _ _ _ hP hD hk1 hFc q1 q3
  exact hn ▸ kk ad hw H1 locs1 ls hP2 hD2 hS1 hl
/-- the class of an array, out of the tables -/
theorem arr_known {ty : FieldType} (h : (Cond.arrayClass ty).before args s = true) : ∃ cA : ClassId, ArrOfT s cA ty ∧ s.vm.findClass ("[" ++ ty.toString) = some cA := by
  obtain ⟨cA, kA, comp, h1, h2, h3⟩ := Cond.arrayClass_spec h
  exact ⟨cA, fun n z => ⟨(fun k h => by cases h), kA, h2, comp, h3⟩, h1⟩
end VKM
/-- what holds all through the law's walk -/
def LH (p : Program) (l : Launch) (m : MethodId) (c : Code) (s : State) (args : Array Value) (D : va_G) (A : Nat → Prop) (cI cJ : ClassId) (b L : Nat) (xs : Nat → Int32) : Prop := CallFix p m c cL_law 7 s args wsL_law RL ∧ l.stackTraces = false ∧ va_K D vwCl (TL cI cJ) s ∧ (∀ q, s.heap.size ≤ q → A q) ∧ EN A s ∧ va_X b L xs s s.heap ∧ b < s.heap.size ∧ ¬ A b ∧ L ≤ 3072
