/-! isNet: what the class answers is what the law finds, in every state of the law's net -/
/-- the end of a method that leaves one of many worlds -/
def QE (D : va_G) (tys : List (ClassId × FieldType)) (W1 : va_W → va_W) (px : va_W → Prop) (A : Nat → Prop) (r : Int32) : Array Value → State → Outcome → State → Prop := va_Qi (fun x (w : va_W) => x = r ∧ px w) (fun w t => CQ D tys (W1 w) A t) A
def KN (l : Launch) (y : MethodName) (wy : List Cond) (fr lo mc ms : Nat) (D : va_G) (tys : List (ClassId × FieldType)) (av : List Value) (W0 : va_W) (W1 : va_W → va_W) (px : va_W → Prop) (r : Int32) : Prop := ∀ sz, Met l y wy { frames := fr, cells := mc, slots := ms, locals := lo } (va_Pc av (CPX D tys W0 sz)) (QE D tys W1 px (va_A W0 sz) r) mc ms (va_A W0 sz)
section VKN
variable {p : Program} {l : Launch} {e : Env} {R : Room} {s : State} {m : MethodId} {args : Array Value} {below : List Frame} {meth : Method} {c : Code} {D : va_G} {A : Nat → Prop} {nL k n : Nat} {Q : State → Prop}
variable {cc : ByteArray} {Ts : List Cond} {own : String} {ws ws' : va_W} {lv lv' : List (Nat × Value)} {pc : Nat} {st : List Value} {tys : List (ClassId × FieldType)}
theorem KN.of {y : MethodName} {wy ws' : List Cond} {fr lo mc ms maxL : Nat} {rt : FieldType} {av : List Value} {W0 : va_W} {W1 : va_W → va_W} {px : va_W → Prop} {r : Int32} {lv0 : List (Nat × Value)} (hy : plainName y.cls = true) (hw : wy = Cond.code y cc maxL (some rt) :: ws') (hlen : (lg_sl av).length ≤ maxL) (hlv : lv_args 0 av = lv0)
    (body : ∀ (p : Program) (e : Env) (s : State) (m : MethodId) (args : Array Value) (below : List Frame) (meth : Method) (c : Code) (A : Nat → Prop), CallFix p m c cc maxL s args wy y.cls → meth.sig.returnType = some rt → meth.locks = false → va_K D vwCl tys s → (∀ q, s.heap.size ≤ q → A q) → EN A s → V p l e { frames := fr, cells := mc, slots := ms, locals := lo } s m args below meth c D A maxL 0 0 (MQ below (QE D tys W1 px A r) args s mc ms A) W0 lv0 0 []) : KN l y wy fr lo mc ms D tys av W0 W1 px r := by
  intro sz
  refine Met.ofW (cc := cc) (maxL := maxL) (ret := some rt) hy hw ?_
  intro p e s m args below meth c s₁ B hml hv
  obtain ⟨rfl, ⟨hsz, hP, hK, hD0⟩, hE⟩ := hv
  subst hsz
  have hl := lv_entry av (n := maxL) hlen
  rw [lg_entry_eq]
  rw [hlv] at hl
  exact body p e s m _ below meth c _ ⟨B.exec, B.bytes, hml, findClass_of_methodNamed B.named, atoms_spec (ws := wy) B.pre⟩ B.returns B.notSynchronized hK (fun q h => Or.inr h) hE _ _ _ hP hD0.self va_S.rf hl
theorem v_zretE (C0 : CallFix p m c cc nL s args Ts own) (hr : meth.sig.returnType = some .boolean) (hlk : meth.locks = false) (hK : va_K D vwCl tys s) {W1 : va_W → va_W} {px : va_W → Prop} {v r : Int32} (hb : v = 0 ∨ v = 1) (hv : v = r) (w : va_W) (hw : px w) (hdg : decode cc pc = .ok (.ireturn, 1)) : V p l e R s m args below meth c D A nL k n (MQ below (QE D tys W1 px A r) args s k n A) (W1 w) lv pc [.int v] := fun H locs ls hP hD hS hl => W.zret C0.1 C0.2.1 hr (by rcases hb with rfl | rfl <;> rfl) (fun t ht hW => ⟨⟨v, w, rfl, ⟨hv, hw⟩, by rw [ht]; exact hP, va_K.moved hW.alike hK, hD⟩, hS.F ht⟩) hS.2.2 hdg hlk
theorem v_callSN (C0 : CallFix p m c cc nL s args Ts own) {y : MethodName} {bytes : ByteArray} {maxL fr lo mc ms na index : Nat} {ret : Option FieldType} {wy : List Cond} {av rest : List Value} {W0 : va_W} {W1 ws' : va_W → va_W} {px : va_W → Prop} {r : Int32} {pc' : Nat} (hK : va_K D vwCl tys s) (hA : ∀ q, s.heap.size ≤ q → A q) (hEN : EN A s) (hM : KN l y wy fr lo mc ms D tys av W0 W1 px r) (cw : CallB R s args own index y bytes maxL ret wy { frames := fr, cells := mc, slots := ms, locals := lo } mc ms na ∧ (Cond.static y).before args s = true) (hPL : ∀ w, PLs ws W0 (W1 w) (ws' w)) (hlen : av.length = na) (hst : st = av.reverse ++ rest) (hro : (rest.map fun v => v.category).sum ≤ 8) (hfit : k + mc ≤ R.cells ∧ n + ms ≤ R.slots) (hdg : decode cc pc = .ok (.invokestatic index, 3)) (hn : pc + 3 = pc') (kk : ∀ w, px w → V p l e R s m args below meth c D A nL (k + mc) (n + ms) Q (ws' w) lv pc' (.int r :: rest)) : V p l e R s m args below meth c D A nL k n Q ws lv pc st := by
  intro H locs ls hP hD hS hl
  have hFc := (hPL []).free hD hS hA
  refine va_calli (va_runS (As := av) (rest := rest) C0 (hM H.size) cw ⟨CPX.blind, fun U hU hW => ⟨rfl, ⟨by rw [hU], by rw [hU]; exact (hPL []).1 _ _ hP, va_K.moved hW.alike hK, ((hPL []).2.1 _ hD).weaken (fun _ _ _ _ => trivial)⟩, hEN.go hS hU hW hFc⟩⟩ rfl hlen hl.1 hst (lv_room hro) hdg hfit) hS (fun q _ h => hFc q h) hFc (fun r1 w t H1 locs1 ht hvm hw hB hz1 hk1 hS1 => ?_)
  obtain ⟨q1, q2, q3⟩ := hB
  rw [ht] at q1
  obtain ⟨hP2, hD2⟩ := (hPL w).2.2 _ _ _ _ hP hD hk1 hFc q1 q3
  obtain ⟨rfl, hpx⟩ := hw
  exact hn ▸ kk w hpx H1 locs1 ls hP2 hD2 hS1 hl
end VKN
theorem fstB_le (q : Nat → Bool) : ∀ n k, fstB q n k ≤ k + n
  | 0, k => Nat.le_refl _
  | n + 1, k => by
    rw [fstB]
    split
    · omega
    · have := fstB_le q n (k + 1)
      omega
theorem hops_neg {xu xt xf : Nat → Nat} {live unit lane ou ol : Nat} : s_L_hops xu xt xf live unit lane ou ol < 0 ↔ s_L_hops xu xt xf live unit lane ou ol = -1 := by
  unfold s_L_hops
  split
  · exact ⟨fun _ => rfl, fun _ => by decide⟩
  · have h := fstB_le (fun k => decide (SK xu xt xf live unit lane k ou / 2 ^ ol % 2 = 1)) 90 0
    exact ⟨fun z => absurd z (nI_pos (by omega)), fun z => absurd z (nI_m1 (by omega))⟩
theorem ac_L_isNet : Cond.arrayClass .int ∈ wsL_isNet := by first | decide +kernel | exact List.mem_of_getElem? (i := 4) rfl
set_option maxHeartbeats 8000000 in
set_option maxRecDepth 100000 in
theorem k_L_isNet (l : Launch) (hst : l.stackTraces = false) (D : va_G) {cI : ClassId} {ad : Nat → Nat} (na ua ta fa ca ba : Nat) {xu xt xf xc xb xn : Nat → Nat} {wx : va_W} (hL : LIs xu xt xf xc xb xn) (hw : WQ cI ad xu xt xf xc xb xn wx) {xX : Nat} (hX : xX ≤ 200000000) : KN l yL_isNet wsL_isNet 9 189 1435 8850 D (TI cI) [.ref (ad 0), .ref na, .ref ua, .ref ta, .ref fa, .ref ca, .ref ba, .int (nI xX)] ([(ba, .inl (cI, 36, .inl (nA xb))), (ca, .inl (cI, 36, .inl (nA xc))), (fa, .inl (cI, 36, .inl (nA xf))), (ta, .inl (cI, 36, .inl (nA xt))), (ua, .inl (cI, 36, .inl (nA xu))), (na, .inl (cI, 2, .inl (nA xn)))] ++ wx) (fun w => [(ba, .inl (cI, 36, .inl (nA xb))), (ca, .inl (cI, 36, .inl (nA xc))), (fa, .inl (cI, 36, .inl (nA xf))), (ta, .inl (cI, 36, .inl (nA xt))), (ua, .inl (cI, 36, .inl (nA xu))), (na, .inl (cI, 2, .inl (nA xn)))] ++ w) (fun w => WQ cI ad xu xt xf xc xb xn w) 1 := by
  obtain ⟨hu, ht, hf, hc, hb, hn, hn1, hG, hS, hct⟩ := id hL
  have hn31 : ∀ k, xn k < 2 ^ 31 := fun k => Nat.lt_of_le_of_lt (hn k) (by decide)
  have hD0 : ∀ k, D0 xf xc k ≤ 9999 := le_sums hc (fun _ => Nat.zero_le _)
  have hLI : (s_L_live xn xf xc) < 2 ^ 36 := live_lt
  have hLF : ∀ k, k < 36 → (s_L_live xn xf xc) / 2 ^ k % 2 = 1 → ¬ xf k = 0 := live_f
  refine KN.of (cc := cL_isNet) (maxL := 23) (rt := .boolean) (lv0 := [(0, .ref (ad 0)), (1, .ref na), (2, .ref ua), (3, .ref ta), (4, .ref fa), (5, .ref ca), (6, .ref ba), (7, .int (nI xX))]) (by decide +kernel) rfl (Nat.le_of_ble_eq_true rfl) rfl ?_
  intro p e s m args below meth c A C0 hr hlk hK hA hEN
  refine v_bipush C0 (pc' := 2) (nI 36) (by decide +kernel) dL_isNet_0 rfl ?_
  refine v_newN C0 hK hA 0 rfl (N := 36) (pc' := 4) (k' := 1) (n' := 36) (by decide) (Nat.le_of_ble_eq_true rfl) (Nat.le_of_ble_eq_true rfl) ac_L_isNet dL_isNet_2 rfl rfl rfl (fun qd => ?_)
  refine v_world (ws' := [(qd, .inl (cI, 36, .inl (nA (fun _ => 0)))), (ba, .inl (cI, 36, .inl (nA xb))), (ca, .inl (cI, 36, .inl (nA xc))), (fa, .inl (cI, 36, .inl (nA xf))), (ta, .inl (cI, 36, .inl (nA xt))), (ua, .inl (cI, 36, .inl (nA xu))), (na, .inl (cI, 2, .inl (nA xn)))] ++ wx) rfl ?_
  refine v_astore C0 (lv' := [(8, .ref qd), (0, .ref (ad 0)), (1, .ref na), (2, .ref ua), (3, .ref ta), (4, .ref fa), (5, .ref ca), (6, .ref ba), (7, .int (nI xX))]) (pc' := 6) (by decide) rfl dL_isNet_4 rfl ?_
  refine v_bipush C0 (pc' := 8) (nI 6) (by decide +kernel) dL_isNet_6 rfl ?_
  refine v_newN C0 hK hA 0 rfl (N := 6) (pc' := 10) (k' := 2) (n' := 42) (by decide) (Nat.le_of_ble_eq_true rfl) (Nat.le_of_ble_eq_true rfl) ac_L_isNet dL_isNet_8 rfl rfl rfl (fun qm => ?_)
  refine v_world (ws' := [(qm, .inl (cI, 6, .inl (nA (fun _ => 0)))), (qd, .inl (cI, 36, .inl (nA (fun _ => 0)))), (ba, .inl (cI, 36, .inl (nA xb))), (ca, .inl (cI, 36, .inl (nA xc))), (fa, .inl (cI, 36, .inl (nA xf))), (ta, .inl (cI, 36, .inl (nA xt))), (ua, .inl (cI, 36, .inl (nA xu))), (na, .inl (cI, 2, .inl (nA xn)))] ++ wx) rfl ?_
  refine v_astore C0 (lv' := [(9, .ref qm), (8, .ref qd), (0, .ref (ad 0)), (1, .ref na), (2, .ref ua), (3, .ref ta), (4, .ref fa), (5, .ref ca), (6, .ref ba), (7, .int (nI xX))]) (pc' := 12) (by decide) rfl dL_isNet_10 rfl ?_
  refine v_aload C0 (pc' := 14) 6 rfl dL_isNet_12 rfl ?_
  refine v_aload C0 (pc' := 16) 7 rfl dL_isNet_14 rfl ?_
  refine v_aload C0 (pc' := 18) 1 rfl dL_isNet_16 rfl ?_
  refine v_callSv C0 (av := [.ref fa, .ref ca, .ref qd]) (rest := []) (ws' := [(qm, .inl (cI, 6, .inl (nA (fun _ => 0)))), (qd, .inl (cI, 36, .inl (nA (s_L_sums_xd xf xc (fun _ => 0))))), (ba, .inl (cI, 36, .inl (nA xb))), (ca, .inl (cI, 36, .inl (nA xc))), (fa, .inl (cI, 36, .inl (nA xf))), (ta, .inl (cI, 36, .inl (nA xt))), (ua, .inl (cI, 36, .inl (nA xu))), (na, .inl (cI, 2, .inl (nA xn)))] ++ wx) (pc' := 21) hK hA (k_L_sums l D cI fa ca qd xf xc (fun _ => 0) hf hc (fun _ => Nat.zero_le _)) (va_cwS 3 C0.2.2.2.2 gL_isNet_L_sums rfl rfl rfl (by decide +kernel) ⟨Nat.le_of_ble_eq_true rfl, Nat.le_of_ble_eq_true rfl⟩) (PLs.lfs (PLs.of (isC := [4, 3, 1]) (isR := [0, 2, 5, 6, 7]) (isP := [0, 7, 1, 6, 5, 2, 3, 4]) (wr := [(qm, .inl (cI, 6, .inl (nA (fun _ => 0)))), (ba, .inl (cI, 36, .inl (nA xb))), (ta, .inl (cI, 36, .inl (nA xt))), (ua, .inl (cI, 36, .inl (nA xu))), (na, .inl (cI, 2, .inl (nA xn)))]) ⟨rfl, by decide, rfl, by decide, by decide, rfl, by decide⟩)) rfl rfl (Nat.le_of_ble_eq_true rfl) ⟨(Nat.le_of_ble_eq_true rfl), (Nat.le_of_ble_eq_true rfl)⟩ dL_isNet_18 rfl ?_
  refine v_aload_n C0 (pc' := 22) 3 rfl rfl dL_isNet_21 rfl ?_
  refine v_aload C0 (pc' := 24) 6 rfl dL_isNet_22 rfl ?_
  refine v_aload C0 (pc' := 26) 7 rfl dL_isNet_24 rfl ?_
  refine v_callSl C0 (av := [.ref na, .ref fa, .ref ca]) (rest := []) (ws' := [(qm, .inl (cI, 6, .inl (nA (fun _ => 0)))), (qd, .inl (cI, 36, .inl (nA (D0 xf xc)))), (ba, .inl (cI, 36, .inl (nA xb))), (ca, .inl (cI, 36, .inl (nA xc))), (fa, .inl (cI, 36, .inl (nA xf))), (ta, .inl (cI, 36, .inl (nA xt))), (ua, .inl (cI, 36, .inl (nA xu))), (na, .inl (cI, 2, .inl (nA xn)))] ++ wx) (pc' := 29) hK hA (k_L_live l D cI na fa ca xn xf xc hn31 hf hc) (va_cwS 3 C0.2.2.2.2 gL_isNet_L_live rfl rfl rfl (by decide +kernel) ⟨Nat.le_of_ble_eq_true rfl, Nat.le_of_ble_eq_true rfl⟩) (PLs.lfs (PLs.of (isC := [7, 4, 3]) (isR := [0, 1, 2, 5, 6]) (isP := [0, 1, 2, 7, 6, 3, 4, 5]) (wr := [(qm, .inl (cI, 6, .inl (nA (fun _ => 0)))), (qd, .inl (cI, 36, .inl (nA (D0 xf xc)))), (ba, .inl (cI, 36, .inl (nA xb))), (ta, .inl (cI, 36, .inl (nA xt))), (ua, .inl (cI, 36, .inl (nA xu)))]) ⟨rfl, by decide, rfl, by decide, by decide, rfl, by decide⟩)) rfl rfl (Nat.le_of_ble_eq_true rfl) ⟨(Nat.le_of_ble_eq_true rfl), (Nat.le_of_ble_eq_true rfl)⟩ dL_isNet_26 rfl ?_
  refine v_lstore C0 (lv' := [(10, .long (nJ (s_L_live xn xf xc))), (9, .ref qm), (8, .ref qd), (0, .ref (ad 0)), (1, .ref na), (2, .ref ua), (3, .ref ta), (4, .ref fa), (5, .ref ca), (6, .ref ba), (7, .int (nI xX))]) (pc' := 31) (by decide) rfl dL_isNet_29 rfl ?_
  refine v_iconst C0 (pc' := 32) (nI 0) (by decide +kernel) dL_isNet_31 rfl ?_
  refine v_istore C0 (lv' := [(12, .int (nI 0)), (10, .long (nJ (s_L_live xn xf xc))), (9, .ref qm), (8, .ref qd), (0, .ref (ad 0)), (1, .ref na), (2, .ref ua), (3, .ref ta), (4, .ref fa), (5, .ref ca), (6, .ref ba), (7, .int (nI xX))]) (pc' := 34) (by decide) rfl dL_isNet_32 rfl ?_
  refine v_iconst C0 (pc' := 35) (nI 1) (by decide +kernel) dL_isNet_34 rfl ?_
  refine v_istore C0 (lv' := [(13, .int (nI 1)), (12, .int (nI 0)), (10, .long (nJ (s_L_live xn xf xc))), (9, .ref qm), (8, .ref qd), (0, .ref (ad 0)), (1, .ref na), (2, .ref ua), (3, .ref ta), (4, .ref fa), (5, .ref ca), (6, .ref ba), (7, .int (nI xX))]) (pc' := 37) (by decide) rfl dL_isNet_35 rfl ?_
  refine v_iconst C0 (pc' := 38) (nI 0) (by decide +kernel) dL_isNet_37 rfl ?_
  refine v_istore C0 (lv' := [(14, .int (nI 0)), (13, .int (nI 1)), (12, .int (nI 0)), (10, .long (nJ (s_L_live xn xf xc))), (9, .ref qm), (8, .ref qd), (0, .ref (ad 0)), (1, .ref na), (2, .ref ua), (3, .ref ta), (4, .ref fa), (5, .ref ca), (6, .ref ba), (7, .int (nI xX))]) (pc' := 40) (by decide) rfl dL_isNet_38 rfl ?_
  suffices LP_A : ∀ (j_A i_A : Nat), i_A + j_A = 36 → V p l e { frames := 9, cells := 1435, slots := 8850, locals := 189 } s m args below meth c D A 23 (3 + 3 * i_A) (78 + 18 * i_A) (MQ below (QE D (TI cI) (fun w => [(ba, .inl (cI, 36, .inl (nA xb))), (ca, .inl (cI, 36, .inl (nA xc))), (fa, .inl (cI, 36, .inl (nA xf))), (ta, .inl (cI, 36, .inl (nA xt))), (ua, .inl (cI, 36, .inl (nA xu))), (na, .inl (cI, 2, .inl (nA xn)))] ++ w) (fun w => WQ cI ad xu xt xf xc xb xn w) A 1) args s 1435 8850 A) ([(qm, .inl (cI, 6, .inl (nA (fun _ => 0)))), (qd, .inl (cI, 36, .inl (nA (D0 xf xc)))), (ba, .inl (cI, 36, .inl (nA xb))), (ca, .inl (cI, 36, .inl (nA xc))), (fa, .inl (cI, 36, .inl (nA xf))), (ta, .inl (cI, 36, .inl (nA xt))), (ua, .inl (cI, 36, .inl (nA xu))), (na, .inl (cI, 2, .inl (nA xn)))] ++ wx) [(14, .int (nI i_A)), (12, .int (nI (lp (wrF xf xb) i_A 0))), (13, .int (nI 1)), (0, .ref (ad 0)), (1, .ref na), (2, .ref ua), (3, .ref ta), (4, .ref fa), (5, .ref ca), (6, .ref ba), (7, .int (nI xX)), (8, .ref qd), (9, .ref qm), (10, .long (nJ (s_L_live xn xf xc)))] 40 [] by
    exact v_sub (lv' := [(14, .int (nI 0)), (12, .int (nI 0)), (13, .int (nI 1)), (0, .ref (ad 0)), (1, .ref na), (2, .ref ua), (3, .ref ta), (4, .ref fa), (5, .ref ca), (6, .ref ba), (7, .int (nI xX)), (8, .ref qd), (9, .ref qm), (10, .long (nJ (s_L_live xn xf xc)))]) [0, 2, 1, 6, 7, 8, 9, 10, 11, 12, 13, 5, 4, 3] rfl (LP_A 36 0  (Nat.zero_add _) )
  intro j_A
  induction j_A with
  | zero =>
    intro i_A  hi_A 
    obtain rfl : i_A = 36 := by omega
    refine v_widen (k2 := 111) (n2 := 726) (Nat.le_of_ble_eq_true rfl) (Nat.le_of_ble_eq_true rfl) ?_
    refine v_iload C0 (pc' := 42) 0 rfl dL_isNet_40 rfl ?_
    refine v_bipush C0 (pc' := 44) (nI 36) (by decide +kernel) dL_isNet_42 rfl ?_
    refine v_icmp_geN C0 356 (pc' := 47) (by omega) (by omega) dL_isNet_44 (by decide) rfl (fun h1 => ?_) (fun h1 => ?_)
    · refine v_iconst C0 (pc' := 357) (nI 0) (by decide +kernel) dL_isNet_356 rfl ?_
      refine v_istore C0 (lv' := [(14, .int (nI 0)), (12, .int (nI (lp (wrF xf xb) 36 0))), (13, .int (nI 1)), (0, .ref (ad 0)), (1, .ref na), (2, .ref ua), (3, .ref ta), (4, .ref fa), (5, .ref ca), (6, .ref ba), (7, .int (nI xX)), (8, .ref qd), (9, .ref qm), (10, .long (nJ (s_L_live xn xf xc)))]) (pc' := 359) (by decide) rfl dL_isNet_357 rfl ?_
      suffices LP_B : ∀ (j_B i_B : Nat), i_B + j_B = 6 → V p l e { frames := 9, cells := 1435, slots := 8850, locals := 189 } s m args below meth c D A 23 111 726 (MQ below (QE D (TI cI) (fun w => [(ba, .inl (cI, 36, .inl (nA xb))), (ca, .inl (cI, 36, .inl (nA xc))), (fa, .inl (cI, 36, .inl (nA xf))), (ta, .inl (cI, 36, .inl (nA xt))), (ua, .inl (cI, 36, .inl (nA xu))), (na, .inl (cI, 2, .inl (nA xn)))] ++ w) (fun w => WQ cI ad xu xt xf xc xb xn w) A 1) args s 1435 8850 A) ([(qm, .inl (cI, 6, .inl (nA (fun _ => 0)))), (qd, .inl (cI, 36, .inl (nA (D0 xf xc)))), (ba, .inl (cI, 36, .inl (nA xb))), (ca, .inl (cI, 36, .inl (nA xc))), (fa, .inl (cI, 36, .inl (nA xf))), (ta, .inl (cI, 36, .inl (nA xt))), (ua, .inl (cI, 36, .inl (nA xu))), (na, .inl (cI, 2, .inl (nA xn)))] ++ wx) [(14, .int (nI i_B)), (13, .int (nI 1)), (0, .ref (ad 0)), (1, .ref na), (2, .ref ua), (3, .ref ta), (4, .ref fa), (5, .ref ca), (6, .ref ba), (7, .int (nI xX)), (8, .ref qd), (9, .ref qm), (10, .long (nJ (s_L_live xn xf xc))), (12, .int (nI (lp (wrF xf xb) 36 0)))] 359 [] by
        exact v_sub (lv' := [(14, .int (nI 0)), (13, .int (nI 1)), (0, .ref (ad 0)), (1, .ref na), (2, .ref ua), (3, .ref ta), (4, .ref fa), (5, .ref ca), (6, .ref ba), (7, .int (nI xX)), (8, .ref qd), (9, .ref qm), (10, .long (nJ (s_L_live xn xf xc))), (12, .int (nI (lp (wrF xf xb) 36 0)))]) [0, 2, 3, 4, 5, 6, 7, 8, 9, 10, 11, 12, 13, 1] rfl (LP_B 6 0  (Nat.zero_add _) )
      intro j_B
      induction j_B with
      | zero =>
        intro i_B  hi_B 
        obtain rfl : i_B = 6 := by omega
        refine v_widen (k2 := 111) (n2 := 726) (Nat.le_of_ble_eq_true rfl) (Nat.le_of_ble_eq_true rfl) ?_
        refine v_iload C0 (pc' := 361) 0 rfl dL_isNet_359 rfl ?_
        refine v_bipush C0 (pc' := 363) (nI 6) (by decide +kernel) dL_isNet_361 rfl ?_
        refine v_icmp_geN C0 444 (pc' := 366) (by omega) (by omega) dL_isNet_363 (by decide) rfl (fun h2 => ?_) (fun h2 => ?_)
        · refine v_iconst C0 (pc' := 445) (nI 0) (by decide +kernel) dL_isNet_444 rfl ?_
          refine v_istore C0 (lv' := [(14, .int (nI 0)), (13, .int (nI 1)), (0, .ref (ad 0)), (1, .ref na), (2, .ref ua), (3, .ref ta), (4, .ref fa), (5, .ref ca), (6, .ref ba), (7, .int (nI xX)), (8, .ref qd), (9, .ref qm), (10, .long (nJ (s_L_live xn xf xc))), (12, .int (nI (lp (wrF xf xb) 36 0)))]) (pc' := 447) (by decide) rfl dL_isNet_445 rfl ?_
          suffices LP_C : ∀ (j_C i_C : Nat) (wC : va_W) (mC : Nat → Nat), i_C + j_C = 6 → WQ cI ad xu xt xf xc xb xn wC → (∀ k, mC k < 65536) → V p l e { frames := 9, cells := 1435, slots := 8850, locals := 189 } s m args below meth c D A 23 (111 + 188 * i_C) (726 + 1158 * i_C) (MQ below (QE D (TI cI) (fun w => [(ba, .inl (cI, 36, .inl (nA xb))), (ca, .inl (cI, 36, .inl (nA xc))), (fa, .inl (cI, 36, .inl (nA xf))), (ta, .inl (cI, 36, .inl (nA xt))), (ua, .inl (cI, 36, .inl (nA xu))), (na, .inl (cI, 2, .inl (nA xn)))] ++ w) (fun w => WQ cI ad xu xt xf xc xb xn w) A 1) args s 1435 8850 A) ([(qm, .inl (cI, 6, .inl (nA mC))), (qd, .inl (cI, 36, .inl (nA (D0 xf xc)))), (ba, .inl (cI, 36, .inl (nA xb))), (ca, .inl (cI, 36, .inl (nA xc))), (fa, .inl (cI, 36, .inl (nA xf))), (ta, .inl (cI, 36, .inl (nA xt))), (ua, .inl (cI, 36, .inl (nA xu))), (na, .inl (cI, 2, .inl (nA xn)))] ++ wC) [(14, .int (nI i_C)), (13, .int (nI 1)), (0, .ref (ad 0)), (1, .ref na), (2, .ref ua), (3, .ref ta), (4, .ref fa), (5, .ref ca), (6, .ref ba), (7, .int (nI xX)), (8, .ref qd), (9, .ref qm), (10, .long (nJ (s_L_live xn xf xc))), (12, .int (nI (lp (wrF xf xb) 36 0)))] 447 [] by
            exact v_sub (lv' := [(14, .int (nI 0)), (13, .int (nI 1)), (0, .ref (ad 0)), (1, .ref na), (2, .ref ua), (3, .ref ta), (4, .ref fa), (5, .ref ca), (6, .ref ba), (7, .int (nI xX)), (8, .ref qd), (9, .ref qm), (10, .long (nJ (s_L_live xn xf xc))), (12, .int (nI (lp (wrF xf xb) 36 0)))]) [0, 1, 2, 3, 4, 5, 6, 7, 8, 9, 10, 11, 12, 13] rfl (LP_C 6 0 wx (fun _ => 0) (Nat.zero_add _) hw z16)
          intro j_C
          induction j_C with
          | zero =>
            intro i_C wC mC hi_C hwC hm_C
            obtain rfl : i_C = 6 := by omega
            refine v_widen (k2 := 1239) (n2 := 7674) (Nat.le_of_ble_eq_true rfl) (Nat.le_of_ble_eq_true rfl) ?_
            refine v_iload C0 (pc' := 449) 0 rfl dL_isNet_447 rfl ?_
            refine v_bipush C0 (pc' := 451) (nI 6) (by decide +kernel) dL_isNet_449 rfl ?_
            refine v_icmp_geN C0 761 (pc' := 454) (by omega) (by omega) dL_isNet_451 (by decide) rfl (fun h3 => ?_) (fun h3 => ?_)
            · refine v_iload C0 (pc' := 763) 1 rfl dL_isNet_761 rfl ?_
              refine v_if_eqN C0 811 (pc' := 766) (by omega) dL_isNet_763 (by decide) rfl (fun h4 => ?_) (fun h4 => ?_)
              · exact absurd h4 (by decide)
              · refine v_aload_n C0 (pc' := 767) 2 rfl rfl dL_isNet_766 rfl ?_
                have c1 := p_wrong l D hL hwC 
                obtain ⟨f1, x1⟩ := (hwC).x0
                refine v_callVi0 C0 (av := []) (rest := []) (ws' := [(qm, .inl (cI, 6, .inl (nA mC))), (qd, .inl (cI, 36, .inl (nA (D0 xf xc)))), (ba, .inl (cI, 36, .inl (nA xb))), (ca, .inl (cI, 36, .inl (nA xc))), (fa, .inl (cI, 36, .inl (nA xf))), (ta, .inl (cI, 36, .inl (nA xt))), (ua, .inl (cI, 36, .inl (nA xu))), (na, .inl (cI, 2, .inl (nA xn)))] ++ wC) (pc' := 770) hK hA c1 (cwV 0 C0.2.2.2.2 gL_isNet_X0_wrong rfl rfl rfl (by decide +kernel) ⟨Nat.le_of_ble_eq_true rfl, Nat.le_of_ble_eq_true rfl⟩) ⟨_, 0, _, _, _, rfl, ap_r (A := [(qm, .inl (cI, 6, .inl (nA mC))), (qd, .inl (cI, 36, .inl (nA (D0 xf xc)))), (ba, .inl (cI, 36, .inl (nA xb))), (ca, .inl (cI, 36, .inl (nA xc))), (fa, .inl (cI, 36, .inl (nA xf))), (ta, .inl (cI, 36, .inl (nA xt))), (ua, .inl (cI, 36, .inl (nA xu))), (na, .inl (cI, 2, .inl (nA xn)))]) x1⟩ (PLs.rt (P := [(qm, .inl (cI, 6, .inl (nA mC))), (qd, .inl (cI, 36, .inl (nA (D0 xf xc)))), (ba, .inl (cI, 36, .inl (nA xb))), (ca, .inl (cI, 36, .inl (nA xc))), (fa, .inl (cI, 36, .inl (nA xf))), (ta, .inl (cI, 36, .inl (nA xt))), (ua, .inl (cI, 36, .inl (nA xu))), (na, .inl (cI, 2, .inl (nA xn)))])) rfl rfl (Nat.le_of_ble_eq_true rfl) ⟨(Nat.le_of_ble_eq_true rfl), (Nat.le_of_ble_eq_true rfl)⟩ dL_isNet_767 rfl ?_
                refine v_iload C0 (pc' := 772) 13 rfl dL_isNet_770 rfl ?_
                refine v_icmp_ne C0 811 (pc' := 775) dL_isNet_772 (by decide) rfl (fun h5 => absurd rfl h5) (fun _ => ?_)
                refine v_aload_n C0 (pc' := 776) 2 rfl rfl dL_isNet_775 rfl ?_
                obtain ⟨w2, hw2, c2⟩ := p_islands l D hL hwC 
                obtain ⟨f2, x2⟩ := (hwC).x0
                refine v_callVi0 C0 (av := []) (rest := []) (ws' := [(qm, .inl (cI, 6, .inl (nA mC))), (qd, .inl (cI, 36, .inl (nA (D0 xf xc)))), (ba, .inl (cI, 36, .inl (nA xb))), (ca, .inl (cI, 36, .inl (nA xc))), (fa, .inl (cI, 36, .inl (nA xf))), (ta, .inl (cI, 36, .inl (nA xt))), (ua, .inl (cI, 36, .inl (nA xu))), (na, .inl (cI, 2, .inl (nA xn)))] ++ w2) (pc' := 779) hK hA c2 (cwV 0 C0.2.2.2.2 gL_isNet_X0_islands rfl rfl rfl (by decide +kernel) ⟨Nat.le_of_ble_eq_true rfl, Nat.le_of_ble_eq_true rfl⟩) ⟨_, 0, _, _, _, rfl, ap_r (A := [(qm, .inl (cI, 6, .inl (nA mC))), (qd, .inl (cI, 36, .inl (nA (D0 xf xc)))), (ba, .inl (cI, 36, .inl (nA xb))), (ca, .inl (cI, 36, .inl (nA xc))), (fa, .inl (cI, 36, .inl (nA xf))), (ta, .inl (cI, 36, .inl (nA xt))), (ua, .inl (cI, 36, .inl (nA xu))), (na, .inl (cI, 2, .inl (nA xn)))]) x2⟩ (PLs.rt (P := [(qm, .inl (cI, 6, .inl (nA mC))), (qd, .inl (cI, 36, .inl (nA (D0 xf xc)))), (ba, .inl (cI, 36, .inl (nA xb))), (ca, .inl (cI, 36, .inl (nA xc))), (fa, .inl (cI, 36, .inl (nA xf))), (ta, .inl (cI, 36, .inl (nA xt))), (ua, .inl (cI, 36, .inl (nA xu))), (na, .inl (cI, 2, .inl (nA xn)))])) rfl rfl (Nat.le_of_ble_eq_true rfl) ⟨(Nat.le_of_ble_eq_true rfl), (Nat.le_of_ble_eq_true rfl)⟩ dL_isNet_776 rfl ?_
                refine v_aload_n C0 (pc' := 780) 4 rfl rfl dL_isNet_779 rfl ?_
                refine v_aload_n C0 (pc' := 781) 5 rfl rfl dL_isNet_780 rfl ?_
                refine v_aload C0 (pc' := 783) 6 rfl dL_isNet_781 rfl ?_
                refine v_lload C0 (pc' := 785) 12 rfl dL_isNet_783 rfl ?_
                refine v_callSi C0 (av := [.ref ua, .ref ta, .ref fa, .long (nJ (s_L_live xn xf xc))]) (rest := [.int (nI (s_L_islands xu xt xf (s_L_live xn xf xc)))]) (ws' := [(qm, .inl (cI, 6, .inl (nA mC))), (qd, .inl (cI, 36, .inl (nA (D0 xf xc)))), (ba, .inl (cI, 36, .inl (nA xb))), (ca, .inl (cI, 36, .inl (nA xc))), (fa, .inl (cI, 36, .inl (nA xf))), (ta, .inl (cI, 36, .inl (nA xt))), (ua, .inl (cI, 36, .inl (nA xu))), (na, .inl (cI, 2, .inl (nA xn)))] ++ w2) (pc' := 788) hK hA (k_L_islands l D cI ua ta fa xu xt xf (s_L_live xn xf xc) hu ht hf (by omega) hLF) (va_cwS 4 C0.2.2.2.2 gL_isNet_L_islands rfl rfl rfl (by decide +kernel) ⟨Nat.le_of_ble_eq_true rfl, Nat.le_of_ble_eq_true rfl⟩) (PLs.lfs (PLs.of (isC := [6, 5, 4]) (isR := [0, 1, 2, 3, 7]) (isP := [0, 1, 2, 3, 7, 6, 5, 4]) (wr := [(qm, .inl (cI, 6, .inl (nA mC))), (qd, .inl (cI, 36, .inl (nA (D0 xf xc)))), (ba, .inl (cI, 36, .inl (nA xb))), (ca, .inl (cI, 36, .inl (nA xc))), (na, .inl (cI, 2, .inl (nA xn)))]) ⟨rfl, by decide, rfl, by decide, by decide, rfl, by decide⟩)) rfl rfl (Nat.le_of_ble_eq_true rfl) ⟨(Nat.le_of_ble_eq_true rfl), (Nat.le_of_ble_eq_true rfl)⟩ dL_isNet_785 rfl ?_
                refine v_icmp_ne C0 811 (pc' := 791) dL_isNet_788 (by decide) rfl (fun h6 => absurd rfl h6) (fun _ => ?_)
                refine v_aload_n C0 (pc' := 792) 2 rfl rfl dL_isNet_791 rfl ?_
                obtain ⟨w3, hw3, c3⟩ := p_loops l D hL hw2 
                obtain ⟨f3, x3⟩ := (hw2).x0
                refine v_callVi0 C0 (av := []) (rest := []) (ws' := [(qm, .inl (cI, 6, .inl (nA mC))), (qd, .inl (cI, 36, .inl (nA (D0 xf xc)))), (ba, .inl (cI, 36, .inl (nA xb))), (ca, .inl (cI, 36, .inl (nA xc))), (fa, .inl (cI, 36, .inl (nA xf))), (ta, .inl (cI, 36, .inl (nA xt))), (ua, .inl (cI, 36, .inl (nA xu))), (na, .inl (cI, 2, .inl (nA xn)))] ++ w3) (pc' := 795) hK hA c3 (cwV 0 C0.2.2.2.2 gL_isNet_X0_loops rfl rfl rfl (by decide +kernel) ⟨Nat.le_of_ble_eq_true rfl, Nat.le_of_ble_eq_true rfl⟩) ⟨_, 0, _, _, _, rfl, ap_r (A := [(qm, .inl (cI, 6, .inl (nA mC))), (qd, .inl (cI, 36, .inl (nA (D0 xf xc)))), (ba, .inl (cI, 36, .inl (nA xb))), (ca, .inl (cI, 36, .inl (nA xc))), (fa, .inl (cI, 36, .inl (nA xf))), (ta, .inl (cI, 36, .inl (nA xt))), (ua, .inl (cI, 36, .inl (nA xu))), (na, .inl (cI, 2, .inl (nA xn)))]) x3⟩ (PLs.rt (P := [(qm, .inl (cI, 6, .inl (nA mC))), (qd, .inl (cI, 36, .inl (nA (D0 xf xc)))), (ba, .inl (cI, 36, .inl (nA xb))), (ca, .inl (cI, 36, .inl (nA xc))), (fa, .inl (cI, 36, .inl (nA xf))), (ta, .inl (cI, 36, .inl (nA xt))), (ua, .inl (cI, 36, .inl (nA xu))), (na, .inl (cI, 2, .inl (nA xn)))])) rfl rfl (Nat.le_of_ble_eq_true rfl) ⟨(Nat.le_of_ble_eq_true rfl), (Nat.le_of_ble_eq_true rfl)⟩ dL_isNet_792 rfl ?_
                refine v_aload_n C0 (pc' := 796) 4 rfl rfl dL_isNet_795 rfl ?_
                refine v_aload_n C0 (pc' := 797) 5 rfl rfl dL_isNet_796 rfl ?_
                refine v_aload C0 (pc' := 799) 6 rfl dL_isNet_797 rfl ?_
                refine v_lload C0 (pc' := 801) 12 rfl dL_isNet_799 rfl ?_
                refine v_callSi C0 (av := [.ref ua, .ref ta, .ref fa, .long (nJ (s_L_live xn xf xc))]) (rest := [.int (s_L_loops xu xt xf (s_L_live xn xf xc))]) (ws' := [(qm, .inl (cI, 6, .inl (nA mC))), (qd, .inl (cI, 36, .inl (nA (D0 xf xc)))), (ba, .inl (cI, 36, .inl (nA xb))), (ca, .inl (cI, 36, .inl (nA xc))), (fa, .inl (cI, 36, .inl (nA xf))), (ta, .inl (cI, 36, .inl (nA xt))), (ua, .inl (cI, 36, .inl (nA xu))), (na, .inl (cI, 2, .inl (nA xn)))] ++ w3) (pc' := 804) hK hA (k_L_loops l D cI ua ta fa xu xt xf (s_L_live xn xf xc) hu ht hf (by omega) hLF) (va_cwS 4 C0.2.2.2.2 gL_isNet_L_loops rfl rfl rfl (by decide +kernel) ⟨Nat.le_of_ble_eq_true rfl, Nat.le_of_ble_eq_true rfl⟩) (PLs.lfs (PLs.of (isC := [6, 5, 4]) (isR := [0, 1, 2, 3, 7]) (isP := [0, 1, 2, 3, 7, 6, 5, 4]) (wr := [(qm, .inl (cI, 6, .inl (nA mC))), (qd, .inl (cI, 36, .inl (nA (D0 xf xc)))), (ba, .inl (cI, 36, .inl (nA xb))), (ca, .inl (cI, 36, .inl (nA xc))), (na, .inl (cI, 2, .inl (nA xn)))]) ⟨rfl, by decide, rfl, by decide, by decide, rfl, by decide⟩)) rfl rfl (Nat.le_of_ble_eq_true rfl) ⟨(Nat.le_of_ble_eq_true rfl), (Nat.le_of_ble_eq_true rfl)⟩ dL_isNet_801 rfl ?_
                refine v_icmp_ne C0 811 (pc' := 807) dL_isNet_804 (by decide) rfl (fun h7 => absurd rfl h7) (fun _ => ?_)
                refine v_iconst C0 (pc' := 808) (nI 1) (by decide +kernel) dL_isNet_807 rfl ?_
                refine v_goto C0 812 dL_isNet_808 (by decide) ?_
                refine v_tail (W := [(qd, .inl (cI, 36, .inl (nA (D0 xf xc)))), (ba, .inl (cI, 36, .inl (nA xb))), (ca, .inl (cI, 36, .inl (nA xc))), (fa, .inl (cI, 36, .inl (nA xf))), (ta, .inl (cI, 36, .inl (nA xt))), (ua, .inl (cI, 36, .inl (nA xu))), (na, .inl (cI, 2, .inl (nA xn)))] ++ w3) (x := (qm, .inl (cI, 6, .inl (nA mC)))) ?_
                refine v_tail (W := [(ba, .inl (cI, 36, .inl (nA xb))), (ca, .inl (cI, 36, .inl (nA xc))), (fa, .inl (cI, 36, .inl (nA xf))), (ta, .inl (cI, 36, .inl (nA xt))), (ua, .inl (cI, 36, .inl (nA xu))), (na, .inl (cI, 2, .inl (nA xn)))] ++ w3) (x := (qd, .inl (cI, 36, .inl (nA (D0 xf xc))))) ?_
                exact v_zretE C0 hr hlk hK (W1 := fun w => [(ba, .inl (cI, 36, .inl (nA xb))), (ca, .inl (cI, 36, .inl (nA xc))), (fa, .inl (cI, 36, .inl (nA xf))), (ta, .inl (cI, 36, .inl (nA xt))), (ua, .inl (cI, 36, .inl (nA xu))), (na, .inl (cI, 2, .inl (nA xn)))] ++ w) (Or.inr rfl) rfl w3 hw3 dL_isNet_812
            · exact absurd (by omega) h3
          | succ j_C ih_C =>
            intro i_C wC mC hi_C hwC hm_C
            refine v_iload C0 (pc' := 449) 0 rfl dL_isNet_447 rfl ?_
            refine v_bipush C0 (pc' := 451) (nI 6) (by decide +kernel) dL_isNet_449 rfl ?_
            refine v_icmp_geN C0 761 (pc' := 454) (by omega) (by omega) dL_isNet_451 (by decide) rfl (fun h8 => ?_) (fun h8 => ?_)
            · exact absurd h8 (by omega)
            · refine v_iload C0 (pc' := 456) 1 rfl dL_isNet_454 rfl ?_
              refine v_if_eqN C0 761 (pc' := 459) (by omega) dL_isNet_456 (by decide) rfl (fun h9 => ?_) (fun h9 => ?_)
              · exact absurd h9 (by decide)
              · refine v_iload C0 (pc' := 461) 9 rfl dL_isNet_459 rfl ?_
                refine v_iload C0 (pc' := 463) 0 rfl dL_isNet_461 rfl ?_
                refine v_iaddN C0 (pc' := 464) dL_isNet_463 rfl ?_
                refine v_bipush C0 (pc' := 466) (nI 6) (by decide +kernel) dL_isNet_464 rfl ?_
                refine v_iremN C0 (pc' := 467) (by omega) (by decide) (by decide) dL_isNet_466 rfl ?_
                obtain ⟨uu, e_uu, h_uu⟩ : ∃ z, (xX + i_C) % 6 = z ∧ z < 6 := ⟨_, rfl, by omega⟩
                refine v_eqn e_uu ?_
                refine v_istore C0 (lv' := [(15, .int (nI uu)), (14, .int (nI i_C)), (13, .int (nI 1)), (0, .ref (ad 0)), (1, .ref na), (2, .ref ua), (3, .ref ta), (4, .ref fa), (5, .ref ca), (6, .ref ba), (7, .int (nI xX)), (8, .ref qd), (9, .ref qm), (10, .long (nJ (s_L_live xn xf xc))), (12, .int (nI (lp (wrF xf xb) 36 0)))]) (pc' := 469) (by decide) rfl dL_isNet_467 rfl ?_
                refine v_iconst C0 (pc' := 470) (nI 1) (by decide +kernel) dL_isNet_469 rfl ?_
                refine v_iload C0 (pc' := 472) 10 rfl dL_isNet_470 rfl ?_
                refine v_bipush C0 (pc' := 474) (nI 6) (by decide +kernel) dL_isNet_472 rfl ?_
                refine v_idivN C0 (pc' := 475) (by omega) (by decide) (by decide) dL_isNet_474 rfl ?_
                refine v_iload C0 (pc' := 477) 1 rfl dL_isNet_475 rfl ?_
                refine v_iaddN C0 (pc' := 478) dL_isNet_477 rfl ?_
                refine v_iconst C0 (pc' := 479) (nI 4) (by decide +kernel) dL_isNet_478 rfl ?_
                refine v_iremN C0 (pc' := 480) (by omega) (by decide) (by decide) dL_isNet_479 rfl ?_
                refine v_iaddN C0 (pc' := 481) dL_isNet_480 rfl ?_
                obtain ⟨lu, e_lu, h_lu⟩ : ∃ z, 1 + (((xX / 6) + i_C) % 4) = z ∧ 1 ≤ z ∧ z < 16 := ⟨_, rfl, by omega⟩
                refine v_eqn e_lu ?_
                refine v_istore C0 (lv' := [(16, .int (nI lu)), (15, .int (nI uu)), (14, .int (nI i_C)), (13, .int (nI 1)), (0, .ref (ad 0)), (1, .ref na), (2, .ref ua), (3, .ref ta), (4, .ref fa), (5, .ref ca), (6, .ref ba), (7, .int (nI xX)), (8, .ref qd), (9, .ref qm), (10, .long (nJ (s_L_live xn xf xc))), (12, .int (nI (lp (wrF xf xb) 36 0)))]) (pc' := 483) (by decide) rfl dL_isNet_481 rfl ?_
                refine v_iload C0 (pc' := 485) 11 rfl dL_isNet_483 rfl ?_
                refine v_bipush C0 (pc' := 487) (nI 24) (by decide +kernel) dL_isNet_485 rfl ?_
                refine v_idivN C0 (pc' := 488) (by omega) (by decide) (by decide) dL_isNet_487 rfl ?_
                refine v_iconst C0 (pc' := 489) (nI 5) (by decide +kernel) dL_isNet_488 rfl ?_
                refine v_iload C0 (pc' := 491) 2 rfl dL_isNet_489 rfl ?_
                refine v_imulN C0 (pc' := 492) dL_isNet_491 rfl ?_
                refine v_iaddN C0 (pc' := 493) dL_isNet_492 rfl ?_
                refine v_bipush C0 (pc' := 495) (nI 6) (by decide +kernel) dL_isNet_493 rfl ?_
                refine v_iremN C0 (pc' := 496) (by omega) (by decide) (by decide) dL_isNet_495 rfl ?_
                obtain ⟨uo, e_uo, h_uo⟩ : ∃ z, ((xX / 24) + (5 * i_C)) % 6 = z ∧ z < 6 := ⟨_, rfl, by omega⟩
                refine v_eqn e_uo ?_
                refine v_istore C0 (lv' := [(17, .int (nI uo)), (16, .int (nI lu)), (15, .int (nI uu)), (14, .int (nI i_C)), (13, .int (nI 1)), (0, .ref (ad 0)), (1, .ref na), (2, .ref ua), (3, .ref ta), (4, .ref fa), (5, .ref ca), (6, .ref ba), (7, .int (nI xX)), (8, .ref qd), (9, .ref qm), (10, .long (nJ (s_L_live xn xf xc))), (12, .int (nI (lp (wrF xf xb) 36 0)))]) (pc' := 498) (by decide) rfl dL_isNet_496 rfl ?_
                refine v_iconst C0 (pc' := 499) (nI 1) (by decide +kernel) dL_isNet_498 rfl ?_
                refine v_iload C0 (pc' := 501) 12 rfl dL_isNet_499 rfl ?_
                refine v_bipush C0 (pc' := 503) (nI 100) (by decide +kernel) dL_isNet_501 rfl ?_
                refine v_idivN C0 (pc' := 504) (by omega) (by decide) (by decide) dL_isNet_503 rfl ?_
                refine v_iload C0 (pc' := 506) 3 rfl dL_isNet_504 rfl ?_
                refine v_iconst C0 (pc' := 507) (nI 2) (by decide +kernel) dL_isNet_506 rfl ?_
                refine v_idivN C0 (pc' := 508) (by omega) (by decide) (by decide) dL_isNet_507 rfl ?_
                refine v_iaddN C0 (pc' := 509) dL_isNet_508 rfl ?_
                refine v_iconst C0 (pc' := 510) (nI 4) (by decide +kernel) dL_isNet_509 rfl ?_
                refine v_iremN C0 (pc' := 511) (by omega) (by decide) (by decide) dL_isNet_510 rfl ?_
                refine v_iaddN C0 (pc' := 512) dL_isNet_511 rfl ?_
                obtain ⟨lo, e_lo, h_lo⟩ : ∃ z, 1 + (((xX / 100) + (i_C / 2)) % 4) = z ∧ 1 ≤ z ∧ z < 16 := ⟨_, rfl, by omega⟩
                refine v_eqn e_lo ?_
                refine v_istore C0 (lv' := [(18, .int (nI lo)), (17, .int (nI uo)), (16, .int (nI lu)), (15, .int (nI uu)), (14, .int (nI i_C)), (13, .int (nI 1)), (0, .ref (ad 0)), (1, .ref na), (2, .ref ua), (3, .ref ta), (4, .ref fa), (5, .ref ca), (6, .ref ba), (7, .int (nI xX)), (8, .ref qd), (9, .ref qm), (10, .long (nJ (s_L_live xn xf xc))), (12, .int (nI (lp (wrF xf xb) 36 0)))]) (pc' := 514) (by decide) rfl dL_isNet_512 rfl ?_
                refine v_aload_n C0 (pc' := 515) 8 rfl rfl dL_isNet_514 rfl ?_
                refine v_aload_n C0 (pc' := 516) 9 rfl rfl dL_isNet_515 rfl ?_
                refine v_aload C0 (pc' := 518) 10 rfl dL_isNet_516 rfl ?_
                refine v_lload C0 (pc' := 520) 16 rfl dL_isNet_518 rfl ?_
                refine v_iload C0 (pc' := 522) 3 rfl dL_isNet_520 rfl ?_
                refine v_iload C0 (pc' := 524) 2 rfl dL_isNet_522 rfl ?_
                refine v_bipush C0 (pc' := 526) (nI 90) (by decide +kernel) dL_isNet_524 rfl ?_
                refine v_aload C0 (pc' := 528) 15 rfl dL_isNet_526 rfl ?_
                refine v_callSv C0 (av := [.ref ua, .ref ta, .ref fa, .long (nJ (s_L_live xn xf xc)), .int (nI uu), .int (nI lu), .int (nI 90), .ref qm]) (rest := []) (ws' := [(qm, .inl (cI, 6, .inl (nA (s_L_spreads_xm xu xt xf (s_L_live xn xf xc) uu lu 90 mC)))), (qd, .inl (cI, 36, .inl (nA (D0 xf xc)))), (ba, .inl (cI, 36, .inl (nA xb))), (ca, .inl (cI, 36, .inl (nA xc))), (fa, .inl (cI, 36, .inl (nA xf))), (ta, .inl (cI, 36, .inl (nA xt))), (ua, .inl (cI, 36, .inl (nA xu))), (na, .inl (cI, 2, .inl (nA xn)))] ++ wC) (pc' := 531) hK hA (k_L_spreads l D cI ua ta fa qm xu xt xf mC (s_L_live xn xf xc) uu lu 90 hu ht hf hm_C (by omega) hLF (by omega) (by omega) (by omega)) (va_cwS 8 C0.2.2.2.2 gL_isNet_L_spreads rfl rfl rfl (by decide +kernel) ⟨Nat.le_of_ble_eq_true rfl, Nat.le_of_ble_eq_true rfl⟩) (PLs.lfs (PLs.of (isC := [6, 5, 4, 0]) (isR := [1, 2, 3, 7]) (isP := [7, 0, 1, 2, 6, 5, 4, 3]) (wr := [(qd, .inl (cI, 36, .inl (nA (D0 xf xc)))), (ba, .inl (cI, 36, .inl (nA xb))), (ca, .inl (cI, 36, .inl (nA xc))), (na, .inl (cI, 2, .inl (nA xn)))]) ⟨rfl, by decide, rfl, by decide, by decide, rfl, by decide⟩)) rfl rfl (Nat.le_of_ble_eq_true rfl) ⟨(by show 111 + 188 * i_C + 1 ≤ 1435; omega), (by show 726 + 1158 * i_C + 6 ≤ 8850; omega)⟩ dL_isNet_528 rfl ?_
                refine v_iconst C0 (pc' := 532) (nI 0) (by decide +kernel) dL_isNet_531 rfl ?_
                refine v_istore C0 (lv' := [(19, .int (nI 0)), (18, .int (nI lo)), (17, .int (nI uo)), (16, .int (nI lu)), (15, .int (nI uu)), (14, .int (nI i_C)), (13, .int (nI 1)), (0, .ref (ad 0)), (1, .ref na), (2, .ref ua), (3, .ref ta), (4, .ref fa), (5, .ref ca), (6, .ref ba), (7, .int (nI xX)), (8, .ref qd), (9, .ref qm), (10, .long (nJ (s_L_live xn xf xc))), (12, .int (nI (lp (wrF xf xb) 36 0)))]) (pc' := 534) (by decide) rfl dL_isNet_532 rfl ?_
                refine v_iconst C0 (pc' := 535) (nI 0) (by decide +kernel) dL_isNet_534 rfl ?_
                refine v_istore C0 (lv' := [(20, .int (nI 0)), (19, .int (nI 0)), (18, .int (nI lo)), (17, .int (nI uo)), (16, .int (nI lu)), (15, .int (nI uu)), (14, .int (nI i_C)), (13, .int (nI 1)), (0, .ref (ad 0)), (1, .ref na), (2, .ref ua), (3, .ref ta), (4, .ref fa), (5, .ref ca), (6, .ref ba), (7, .int (nI xX)), (8, .ref qd), (9, .ref qm), (10, .long (nJ (s_L_live xn xf xc))), (12, .int (nI (lp (wrF xf xb) 36 0)))]) (pc' := 537) (by decide) rfl dL_isNet_535 rfl ?_
                have hSK := sp_SK (xu := xu) (xt := xt) (live := (s_L_live xn xf xc)) (unit := uu) (lane := lu) hf 90 mC
                have hmS : ∀ k, s_L_spreads_xm xu xt xf (s_L_live xn xf xc) uu lu 90 mC k < 65536 := lt_spreads hu (by omega) hm_C
                suffices LP_M : ∀ (j_M i_M : Nat), i_M + j_M = 6 → V p l e { frames := 9, cells := 1435, slots := 8850, locals := 189 } s m args below meth c D A 23 ((111 + 188 * i_C) + 1) ((726 + 1158 * i_C) + 6) (MQ below (QE D (TI cI) (fun w => [(ba, .inl (cI, 36, .inl (nA xb))), (ca, .inl (cI, 36, .inl (nA xc))), (fa, .inl (cI, 36, .inl (nA xf))), (ta, .inl (cI, 36, .inl (nA xt))), (ua, .inl (cI, 36, .inl (nA xu))), (na, .inl (cI, 2, .inl (nA xn)))] ++ w) (fun w => WQ cI ad xu xt xf xc xb xn w) A 1) args s 1435 8850 A) ([(qm, .inl (cI, 6, .inl (nA (s_L_spreads_xm xu xt xf (s_L_live xn xf xc) uu lu 90 mC)))), (qd, .inl (cI, 36, .inl (nA (D0 xf xc)))), (ba, .inl (cI, 36, .inl (nA xb))), (ca, .inl (cI, 36, .inl (nA xc))), (fa, .inl (cI, 36, .inl (nA xf))), (ta, .inl (cI, 36, .inl (nA xt))), (ua, .inl (cI, 36, .inl (nA xu))), (na, .inl (cI, 2, .inl (nA xn)))] ++ wC) [(20, .int (nI i_M)), (19, .int (nI (lp (fun j z => z + sb (SK xu xt xf (s_L_live xn xf xc) uu lu 90 j) 16) i_M 0))), (0, .ref (ad 0)), (1, .ref na), (2, .ref ua), (3, .ref ta), (4, .ref fa), (5, .ref ca), (6, .ref ba), (7, .int (nI xX)), (8, .ref qd), (9, .ref qm), (10, .long (nJ (s_L_live xn xf xc))), (12, .int (nI (lp (wrF xf xb) 36 0))), (13, .int (nI 1)), (14, .int (nI i_C)), (15, .int (nI uu)), (16, .int (nI lu)), (17, .int (nI uo)), (18, .int (nI lo))] 537 [] by
                  exact v_sub (lv' := [(20, .int (nI 0)), (19, .int (nI 0)), (0, .ref (ad 0)), (1, .ref na), (2, .ref ua), (3, .ref ta), (4, .ref fa), (5, .ref ca), (6, .ref ba), (7, .int (nI xX)), (8, .ref qd), (9, .ref qm), (10, .long (nJ (s_L_live xn xf xc))), (12, .int (nI (lp (wrF xf xb) 36 0))), (13, .int (nI 1)), (14, .int (nI i_C)), (15, .int (nI uu)), (16, .int (nI lu)), (17, .int (nI uo)), (18, .int (nI lo))]) [0, 1, 8, 9, 10, 11, 12, 13, 14, 15, 16, 17, 18, 19, 7, 6, 5, 4, 3, 2] rfl (LP_M 6 0  (Nat.zero_add _) )
                intro j_M
                induction j_M with
                | zero =>
                  intro i_M  hi_M 
                  obtain rfl : i_M = 6 := by omega
                  refine v_widen (k2 := (111 + 188 * i_C) + 1) (n2 := (726 + 1158 * i_C) + 6) (by omega) (by omega) ?_
                  refine v_iload C0 (pc' := 539) 0 rfl dL_isNet_537 rfl ?_
                  refine v_bipush C0 (pc' := 541) (nI 6) (by decide +kernel) dL_isNet_539 rfl ?_
                  refine v_icmp_geN C0 563 (pc' := 544) (by omega) (by omega) dL_isNet_541 (by decide) rfl (fun h10 => ?_) (fun h10 => ?_)
                  · refine v_bipush C0 (pc' := 565) (nI 6) (by decide +kernel) dL_isNet_563 rfl ?_
                    refine v_iload C0 (pc' := 567) 16 rfl dL_isNet_565 rfl ?_
                    refine v_imulN C0 (pc' := 568) dL_isNet_567 rfl ?_
                    refine v_iload C0 (pc' := 570) 9 rfl dL_isNet_568 rfl ?_
                    refine v_bipush C0 (pc' := 572) (nI 7) (by decide +kernel) dL_isNet_570 rfl ?_
                    refine v_idivN C0 (pc' := 573) (by omega) (by decide) (by decide) dL_isNet_572 rfl ?_
                    refine v_iload C0 (pc' := 575) 15 rfl dL_isNet_573 rfl ?_
                    refine v_iaddN C0 (pc' := 576) dL_isNet_575 rfl ?_
                    refine v_bipush C0 (pc' := 578) (nI 6) (by decide +kernel) dL_isNet_576 rfl ?_
                    refine v_iremN C0 (pc' := 579) (by omega) (by decide) (by decide) dL_isNet_578 rfl ?_
                    obtain ⟨aa, e_aa, h_aa⟩ : ∃ z, ((xX / 7) + i_C) % 6 = z ∧ z < 6 := ⟨_, rfl, by omega⟩
                    refine v_eqn e_aa ?_
                    refine v_iaddN C0 (pc' := 580) dL_isNet_579 rfl ?_
                    refine v_istore C0 (lv' := [(20, .int (nI ((6 * uu) + aa))), (19, .int (nI (lp (fun j z => z + sb (SK xu xt xf (s_L_live xn xf xc) uu lu 90 j) 16) 6 0))), (0, .ref (ad 0)), (1, .ref na), (2, .ref ua), (3, .ref ta), (4, .ref fa), (5, .ref ca), (6, .ref ba), (7, .int (nI xX)), (8, .ref qd), (9, .ref qm), (10, .long (nJ (s_L_live xn xf xc))), (12, .int (nI (lp (wrF xf xb) 36 0))), (13, .int (nI 1)), (14, .int (nI i_C)), (15, .int (nI uu)), (16, .int (nI lu)), (17, .int (nI uo)), (18, .int (nI lo))]) (pc' := 582) (by decide) rfl dL_isNet_580 rfl ?_
                    refine v_bipush C0 (pc' := 584) (nI 6) (by decide +kernel) dL_isNet_582 rfl ?_
                    refine v_iload C0 (pc' := 586) 18 rfl dL_isNet_584 rfl ?_
                    refine v_imulN C0 (pc' := 587) dL_isNet_586 rfl ?_
                    refine v_iload C0 (pc' := 589) 9 rfl dL_isNet_587 rfl ?_
                    refine v_bipush C0 (pc' := 591) (nI 9) (by decide +kernel) dL_isNet_589 rfl ?_
                    refine v_idivN C0 (pc' := 592) (by omega) (by decide) (by decide) dL_isNet_591 rfl ?_
                    refine v_iload C0 (pc' := 594) 15 rfl dL_isNet_592 rfl ?_
                    refine v_iaddN C0 (pc' := 595) dL_isNet_594 rfl ?_
                    refine v_bipush C0 (pc' := 597) (nI 6) (by decide +kernel) dL_isNet_595 rfl ?_
                    refine v_iremN C0 (pc' := 598) (by omega) (by decide) (by decide) dL_isNet_597 rfl ?_
                    obtain ⟨ab, e_ab, h_ab⟩ : ∃ z, ((xX / 9) + i_C) % 6 = z ∧ z < 6 := ⟨_, rfl, by omega⟩
                    refine v_eqn e_ab ?_
                    refine v_iaddN C0 (pc' := 599) dL_isNet_598 rfl ?_
                    refine v_istore C0 (lv' := [(21, .int (nI ((6 * uo) + ab))), (20, .int (nI ((6 * uu) + aa))), (19, .int (nI (lp (fun j z => z + sb (SK xu xt xf (s_L_live xn xf xc) uu lu 90 j) 16) 6 0))), (0, .ref (ad 0)), (1, .ref na), (2, .ref ua), (3, .ref ta), (4, .ref fa), (5, .ref ca), (6, .ref ba), (7, .int (nI xX)), (8, .ref qd), (9, .ref qm), (10, .long (nJ (s_L_live xn xf xc))), (12, .int (nI (lp (wrF xf xb) 36 0))), (13, .int (nI 1)), (14, .int (nI i_C)), (15, .int (nI uu)), (16, .int (nI lu)), (17, .int (nI uo)), (18, .int (nI lo))]) (pc' := 601) (by decide) rfl dL_isNet_599 rfl ?_
                    suffices J_mt : V p l e { frames := 9, cells := 1435, slots := 8850, locals := 189 } s m args below meth c D A 23 (111 + 188 * i_C + 94) (726 + 1158 * i_C + 564) (MQ below (QE D (TI cI) (fun w => [(ba, .inl (cI, 36, .inl (nA xb))), (ca, .inl (cI, 36, .inl (nA xc))), (fa, .inl (cI, 36, .inl (nA xf))), (ta, .inl (cI, 36, .inl (nA xt))), (ua, .inl (cI, 36, .inl (nA xu))), (na, .inl (cI, 2, .inl (nA xn)))] ++ w) (fun w => WQ cI ad xu xt xf xc xb xn w) A 1) args s 1435 8850 A) ([(qm, .inl (cI, 6, .inl (nA (s_L_spreads_xm xu xt xf (s_L_live xn xf xc) uu lu 90 mC)))), (qd, .inl (cI, 36, .inl (nA (D0 xf xc)))), (ba, .inl (cI, 36, .inl (nA xb))), (ca, .inl (cI, 36, .inl (nA xc))), (fa, .inl (cI, 36, .inl (nA xf))), (ta, .inl (cI, 36, .inl (nA xt))), (ua, .inl (cI, 36, .inl (nA xu))), (na, .inl (cI, 2, .inl (nA xn)))] ++ wC) [(22, .int (mt xu xt xf (s_L_live xn xf xc) (6 * uu + aa) (6 * uo + ab))), (21, .int (nI ((6 * uo) + ab))), (20, .int (nI ((6 * uu) + aa))), (19, .int (nI (lp (fun j z => z + sb (SK xu xt xf (s_L_live xn xf xc) uu lu 90 j) 16) 6 0))), (0, .ref (ad 0)), (1, .ref na), (2, .ref ua), (3, .ref ta), (4, .ref fa), (5, .ref ca), (6, .ref ba), (7, .int (nI xX)), (8, .ref qd), (9, .ref qm), (10, .long (nJ (s_L_live xn xf xc))), (12, .int (nI (lp (wrF xf xb) 36 0))), (13, .int (nI 1)), (14, .int (nI i_C)), (15, .int (nI uu)), (16, .int (nI lu)), (17, .int (nI uo)), (18, .int (nI lo))] 646 [] by
                      refine v_aload_n C0 (pc' := 602) 5 rfl rfl dL_isNet_601 rfl ?_
                      refine v_iload C0 (pc' := 604) 1 rfl dL_isNet_602 rfl ?_
                      refine v_ialdN C0 hK (pc' := 605) 6 0 rfl rfl (by omega) (by decide) dL_isNet_604 rfl ?_
                      refine v_if_leN C0 643 (pc' := 608) (by have := hu ((6 * uu) + aa); omega) dL_isNet_605 (by decide) rfl (fun h11 => ?_) (fun h11 => ?_)
                      · refine v_iconst C0 (pc' := 644) (nI 0) (by decide +kernel) dL_isNet_643 rfl ?_
                        refine v_istore C0 (lv' := [(22, .int (nI 0)), (21, .int (nI ((6 * uo) + ab))), (20, .int (nI ((6 * uu) + aa))), (19, .int (nI (lp (fun j z => z + sb (SK xu xt xf (s_L_live xn xf xc) uu lu 90 j) 16) 6 0))), (0, .ref (ad 0)), (1, .ref na), (2, .ref ua), (3, .ref ta), (4, .ref fa), (5, .ref ca), (6, .ref ba), (7, .int (nI xX)), (8, .ref qd), (9, .ref qm), (10, .long (nJ (s_L_live xn xf xc))), (12, .int (nI (lp (wrF xf xb) 36 0))), (13, .int (nI 1)), (14, .int (nI i_C)), (15, .int (nI uu)), (16, .int (nI lu)), (17, .int (nI uo)), (18, .int (nI lo))]) (pc' := 646) (by decide) rfl dL_isNet_644 rfl ?_
                        have e_mt : mt xu xt xf (s_L_live xn xf xc) (6 * uu + aa) (6 * uo + ab) = nI (0) := by unfold mt; rw [if_pos h11]; rfl
                        rw [e_mt] at J_mt
                        refine v_widen (k2 := 111 + 188 * i_C + 94) (n2 := 726 + 1158 * i_C + 564) (by omega) (by omega) ?_
                        exact v_sub (lv' := [(22, .int (nI 0)), (21, .int (nI ((6 * uo) + ab))), (20, .int (nI ((6 * uu) + aa))), (19, .int (nI (lp (fun j z => z + sb (SK xu xt xf (s_L_live xn xf xc) uu lu 90 j) 16) 6 0))), (0, .ref (ad 0)), (1, .ref na), (2, .ref ua), (3, .ref ta), (4, .ref fa), (5, .ref ca), (6, .ref ba), (7, .int (nI xX)), (8, .ref qd), (9, .ref qm), (10, .long (nJ (s_L_live xn xf xc))), (12, .int (nI (lp (wrF xf xb) 36 0))), (13, .int (nI 1)), (14, .int (nI i_C)), (15, .int (nI uu)), (16, .int (nI lu)), (17, .int (nI uo)), (18, .int (nI lo))]) [0, 1, 2, 3, 4, 5, 6, 7, 8, 9, 10, 11, 12, 13, 14, 15, 16, 17, 18, 19, 20, 21] rfl J_mt
                      · refine v_aload_n C0 (pc' := 609) 5 rfl rfl dL_isNet_608 rfl ?_
                        refine v_iload C0 (pc' := 611) 0 rfl dL_isNet_609 rfl ?_
                        refine v_ialdN C0 hK (pc' := 612) 6 0 rfl rfl (by omega) (by decide) dL_isNet_611 rfl ?_
                        refine v_if_leN C0 643 (pc' := 615) (by have := hu ((6 * uo) + ab); omega) dL_isNet_612 (by decide) rfl (fun h12 => ?_) (fun h12 => ?_)
                        · refine v_iconst C0 (pc' := 644) (nI 0) (by decide +kernel) dL_isNet_643 rfl ?_
                          refine v_istore C0 (lv' := [(22, .int (nI 0)), (21, .int (nI ((6 * uo) + ab))), (20, .int (nI ((6 * uu) + aa))), (19, .int (nI (lp (fun j z => z + sb (SK xu xt xf (s_L_live xn xf xc) uu lu 90 j) 16) 6 0))), (0, .ref (ad 0)), (1, .ref na), (2, .ref ua), (3, .ref ta), (4, .ref fa), (5, .ref ca), (6, .ref ba), (7, .int (nI xX)), (8, .ref qd), (9, .ref qm), (10, .long (nJ (s_L_live xn xf xc))), (12, .int (nI (lp (wrF xf xb) 36 0))), (13, .int (nI 1)), (14, .int (nI i_C)), (15, .int (nI uu)), (16, .int (nI lu)), (17, .int (nI uo)), (18, .int (nI lo))]) (pc' := 646) (by decide) rfl dL_isNet_644 rfl ?_
                          have e_mt : mt xu xt xf (s_L_live xn xf xc) (6 * uu + aa) (6 * uo + ab) = nI (0) := by unfold mt; rw [if_neg h11, if_pos h12]; rfl
                          rw [e_mt] at J_mt
                          refine v_widen (k2 := 111 + 188 * i_C + 94) (n2 := 726 + 1158 * i_C + 564) (by omega) (by omega) ?_
                          exact v_sub (lv' := [(22, .int (nI 0)), (21, .int (nI ((6 * uo) + ab))), (20, .int (nI ((6 * uu) + aa))), (19, .int (nI (lp (fun j z => z + sb (SK xu xt xf (s_L_live xn xf xc) uu lu 90 j) 16) 6 0))), (0, .ref (ad 0)), (1, .ref na), (2, .ref ua), (3, .ref ta), (4, .ref fa), (5, .ref ca), (6, .ref ba), (7, .int (nI xX)), (8, .ref qd), (9, .ref qm), (10, .long (nJ (s_L_live xn xf xc))), (12, .int (nI (lp (wrF xf xb) 36 0))), (13, .int (nI 1)), (14, .int (nI i_C)), (15, .int (nI uu)), (16, .int (nI lu)), (17, .int (nI uo)), (18, .int (nI lo))]) [0, 1, 2, 3, 4, 5, 6, 7, 8, 9, 10, 11, 12, 13, 14, 15, 16, 17, 18, 19, 20, 21] rfl J_mt
                        · refine v_aload_n C0 (pc' := 616) 5 rfl rfl dL_isNet_615 rfl ?_
                          refine v_aload_n C0 (pc' := 617) 6 rfl rfl dL_isNet_616 rfl ?_
                          refine v_aload C0 (pc' := 619) 7 rfl dL_isNet_617 rfl ?_
                          refine v_lload C0 (pc' := 621) 13 rfl dL_isNet_619 rfl ?_
                          refine v_iload C0 (pc' := 623) 17 rfl dL_isNet_621 rfl ?_
                          refine v_aload_n C0 (pc' := 624) 5 rfl rfl dL_isNet_623 rfl ?_
                          refine v_iload C0 (pc' := 626) 1 rfl dL_isNet_624 rfl ?_
                          refine v_ialdN C0 hK (pc' := 627) 6 0 rfl rfl (by omega) (by decide) dL_isNet_626 rfl ?_
                          refine v_iload C0 (pc' := 629) 19 rfl dL_isNet_627 rfl ?_
                          refine v_aload_n C0 (pc' := 630) 5 rfl rfl dL_isNet_629 rfl ?_
                          refine v_iload C0 (pc' := 632) 0 rfl dL_isNet_630 rfl ?_
                          refine v_ialdN C0 hK (pc' := 633) 6 0 rfl rfl (by omega) (by decide) dL_isNet_632 rfl ?_
                          refine v_callSi C0 (av := [.ref ua, .ref ta, .ref fa, .long (nJ (s_L_live xn xf xc)), .int (nI uu), .int (nI (xu ((6 * uu) + aa))), .int (nI uo), .int (nI (xu ((6 * uo) + ab)))]) (rest := []) (ws' := [(qm, .inl (cI, 6, .inl (nA (s_L_spreads_xm xu xt xf (s_L_live xn xf xc) uu lu 90 mC)))), (qd, .inl (cI, 36, .inl (nA (D0 xf xc)))), (ba, .inl (cI, 36, .inl (nA xb))), (ca, .inl (cI, 36, .inl (nA xc))), (fa, .inl (cI, 36, .inl (nA xf))), (ta, .inl (cI, 36, .inl (nA xt))), (ua, .inl (cI, 36, .inl (nA xu))), (na, .inl (cI, 2, .inl (nA xn)))] ++ wC) (pc' := 636) hK hA (k_L_hops l D cI ua ta fa xu xt xf (s_L_live xn xf xc) uu (xu ((6 * uu) + aa)) uo (xu ((6 * uo) + ab)) hu ht hf (by omega) hLF (by omega) (by have := hu ((6 * uu) + aa); omega) (by omega) (by have := hu ((6 * uo) + ab); omega)) (va_cwS 8 C0.2.2.2.2 gL_isNet_L_hops rfl rfl rfl (by decide +kernel) ⟨Nat.le_of_ble_eq_true rfl, Nat.le_of_ble_eq_true rfl⟩) (PLs.lfs (PLs.of (isC := [6, 5, 4]) (isR := [0, 1, 2, 3, 7]) (isP := [0, 1, 2, 3, 7, 6, 5, 4]) (wr := [(qm, .inl (cI, 6, .inl (nA (s_L_spreads_xm xu xt xf (s_L_live xn xf xc) uu lu 90 mC)))), (qd, .inl (cI, 36, .inl (nA (D0 xf xc)))), (ba, .inl (cI, 36, .inl (nA xb))), (ca, .inl (cI, 36, .inl (nA xc))), (na, .inl (cI, 2, .inl (nA xn)))]) ⟨rfl, by decide, rfl, by decide, by decide, rfl, by decide⟩)) rfl rfl (Nat.le_of_ble_eq_true rfl) ⟨(by show (111 + 188 * i_C) + 1 + 93 ≤ 1435; omega), (by show (726 + 1158 * i_C) + 6 + 558 ≤ 8850; omega)⟩ dL_isNet_633 rfl ?_
                          refine v_if_lt C0 643 (pc' := 639) dL_isNet_636 (by decide) rfl (fun h13 => ?_) (fun h13 => ?_)
                          · refine v_iconst C0 (pc' := 644) (nI 0) (by decide +kernel) dL_isNet_643 rfl ?_
                            refine v_istore C0 (lv' := [(22, .int (nI 0)), (21, .int (nI ((6 * uo) + ab))), (20, .int (nI ((6 * uu) + aa))), (19, .int (nI (lp (fun j z => z + sb (SK xu xt xf (s_L_live xn xf xc) uu lu 90 j) 16) 6 0))), (0, .ref (ad 0)), (1, .ref na), (2, .ref ua), (3, .ref ta), (4, .ref fa), (5, .ref ca), (6, .ref ba), (7, .int (nI xX)), (8, .ref qd), (9, .ref qm), (10, .long (nJ (s_L_live xn xf xc))), (12, .int (nI (lp (wrF xf xb) 36 0))), (13, .int (nI 1)), (14, .int (nI i_C)), (15, .int (nI uu)), (16, .int (nI lu)), (17, .int (nI uo)), (18, .int (nI lo))]) (pc' := 646) (by decide) rfl dL_isNet_644 rfl ?_
                            have e_mt : mt xu xt xf (s_L_live xn xf xc) (6 * uu + aa) (6 * uo + ab) = nI (0) := by unfold mt; rw [if_neg h11, if_neg h12, show (6 * uu + aa) / 6 = uu by omega, show (6 * uo + ab) / 6 = uo by omega, if_pos (hops_neg.mp h13)]; rfl
                            rw [e_mt] at J_mt
                            refine v_widen (k2 := 111 + 188 * i_C + 94) (n2 := 726 + 1158 * i_C + 564) (by omega) (by omega) ?_
                            exact v_sub (lv' := [(22, .int (nI 0)), (21, .int (nI ((6 * uo) + ab))), (20, .int (nI ((6 * uu) + aa))), (19, .int (nI (lp (fun j z => z + sb (SK xu xt xf (s_L_live xn xf xc) uu lu 90 j) 16) 6 0))), (0, .ref (ad 0)), (1, .ref na), (2, .ref ua), (3, .ref ta), (4, .ref fa), (5, .ref ca), (6, .ref ba), (7, .int (nI xX)), (8, .ref qd), (9, .ref qm), (10, .long (nJ (s_L_live xn xf xc))), (12, .int (nI (lp (wrF xf xb) 36 0))), (13, .int (nI 1)), (14, .int (nI i_C)), (15, .int (nI uu)), (16, .int (nI lu)), (17, .int (nI uo)), (18, .int (nI lo))]) [0, 1, 2, 3, 4, 5, 6, 7, 8, 9, 10, 11, 12, 13, 14, 15, 16, 17, 18, 19, 20, 21] rfl J_mt
                          · refine v_iconst C0 (pc' := 640) (nI 1) (by decide +kernel) dL_isNet_639 rfl ?_
                            refine v_goto C0 644 dL_isNet_640 (by decide) ?_
                            refine v_istore C0 (lv' := [(22, .int (nI 1)), (21, .int (nI ((6 * uo) + ab))), (20, .int (nI ((6 * uu) + aa))), (19, .int (nI (lp (fun j z => z + sb (SK xu xt xf (s_L_live xn xf xc) uu lu 90 j) 16) 6 0))), (0, .ref (ad 0)), (1, .ref na), (2, .ref ua), (3, .ref ta), (4, .ref fa), (5, .ref ca), (6, .ref ba), (7, .int (nI xX)), (8, .ref qd), (9, .ref qm), (10, .long (nJ (s_L_live xn xf xc))), (12, .int (nI (lp (wrF xf xb) 36 0))), (13, .int (nI 1)), (14, .int (nI i_C)), (15, .int (nI uu)), (16, .int (nI lu)), (17, .int (nI uo)), (18, .int (nI lo))]) (pc' := 646) (by decide) rfl dL_isNet_644 rfl ?_
                            have e_mt : mt xu xt xf (s_L_live xn xf xc) (6 * uu + aa) (6 * uo + ab) = nI (1) := by unfold mt; rw [if_neg h11, if_neg h12, show (6 * uu + aa) / 6 = uu by omega, show (6 * uo + ab) / 6 = uo by omega, if_neg (fun y => h13 (hops_neg.mpr y))]; rfl
                            rw [e_mt] at J_mt
                            refine v_widen (k2 := 111 + 188 * i_C + 94) (n2 := 726 + 1158 * i_C + 564) (by omega) (by omega) ?_
                            exact v_sub (lv' := [(22, .int (nI 1)), (21, .int (nI ((6 * uo) + ab))), (20, .int (nI ((6 * uu) + aa))), (19, .int (nI (lp (fun j z => z + sb (SK xu xt xf (s_L_live xn xf xc) uu lu 90 j) 16) 6 0))), (0, .ref (ad 0)), (1, .ref na), (2, .ref ua), (3, .ref ta), (4, .ref fa), (5, .ref ca), (6, .ref ba), (7, .int (nI xX)), (8, .ref qd), (9, .ref qm), (10, .long (nJ (s_L_live xn xf xc))), (12, .int (nI (lp (wrF xf xb) 36 0))), (13, .int (nI 1)), (14, .int (nI i_C)), (15, .int (nI uu)), (16, .int (nI lu)), (17, .int (nI uo)), (18, .int (nI lo))]) [0, 1, 2, 3, 4, 5, 6, 7, 8, 9, 10, 11, 12, 13, 14, 15, 16, 17, 18, 19, 20, 21] rfl J_mt
                    refine v_aload_n C0 (pc' := 647) 4 rfl rfl dL_isNet_646 rfl ?_
                    refine v_iload C0 (pc' := 649) 18 rfl dL_isNet_647 rfl ?_
                    refine v_iload C0 (pc' := 651) 19 rfl dL_isNet_649 rfl ?_
                    refine v_iload C0 (pc' := 653) 20 rfl dL_isNet_651 rfl ?_
                    refine v_iload C0 (pc' := 655) 21 rfl dL_isNet_653 rfl ?_
                    obtain ⟨w4, hw4, c4⟩ := p_hops l D hL hwC (u := uu) (a := lu) (o := uo) (b := lo) (by omega) (by omega) (by omega) (by omega) (by omega) (by omega)
                    obtain ⟨f4, x4⟩ := (hwC).x0
                    refine v_callVi0 C0 (av := [.int (nI uu), .int (nI lu), .int (nI uo), .int (nI lo)]) (rest := []) (ws' := [(qm, .inl (cI, 6, .inl (nA (s_L_spreads_xm xu xt xf (s_L_live xn xf xc) uu lu 90 mC)))), (qd, .inl (cI, 36, .inl (nA (D0 xf xc)))), (ba, .inl (cI, 36, .inl (nA xb))), (ca, .inl (cI, 36, .inl (nA xc))), (fa, .inl (cI, 36, .inl (nA xf))), (ta, .inl (cI, 36, .inl (nA xt))), (ua, .inl (cI, 36, .inl (nA xu))), (na, .inl (cI, 2, .inl (nA xn)))] ++ w4) (pc' := 658) hK hA c4 (cwV 4 C0.2.2.2.2 gL_isNet_X0_hops rfl rfl rfl (by decide +kernel) ⟨Nat.le_of_ble_eq_true rfl, Nat.le_of_ble_eq_true rfl⟩) ⟨_, 0, _, _, _, rfl, ap_r (A := [(qm, .inl (cI, 6, .inl (nA (s_L_spreads_xm xu xt xf (s_L_live xn xf xc) uu lu 90 mC)))), (qd, .inl (cI, 36, .inl (nA (D0 xf xc)))), (ba, .inl (cI, 36, .inl (nA xb))), (ca, .inl (cI, 36, .inl (nA xc))), (fa, .inl (cI, 36, .inl (nA xf))), (ta, .inl (cI, 36, .inl (nA xt))), (ua, .inl (cI, 36, .inl (nA xu))), (na, .inl (cI, 2, .inl (nA xn)))]) x4⟩ (PLs.rt (P := [(qm, .inl (cI, 6, .inl (nA (s_L_spreads_xm xu xt xf (s_L_live xn xf xc) uu lu 90 mC)))), (qd, .inl (cI, 36, .inl (nA (D0 xf xc)))), (ba, .inl (cI, 36, .inl (nA xb))), (ca, .inl (cI, 36, .inl (nA xc))), (fa, .inl (cI, 36, .inl (nA xf))), (ta, .inl (cI, 36, .inl (nA xt))), (ua, .inl (cI, 36, .inl (nA xu))), (na, .inl (cI, 2, .inl (nA xn)))])) rfl rfl (Nat.le_of_ble_eq_true rfl) ⟨(by show 111 + 188 * i_C + 94 ≤ 1435; omega), (by show 726 + 1158 * i_C + 564 ≤ 8850; omega)⟩ dL_isNet_655 rfl ?_
                    refine v_aload_n C0 (pc' := 659) 6 rfl rfl dL_isNet_658 rfl ?_
                    refine v_aload_n C0 (pc' := 660) 7 rfl rfl dL_isNet_659 rfl ?_
                    refine v_aload C0 (pc' := 662) 8 rfl dL_isNet_660 rfl ?_
                    refine v_lload C0 (pc' := 664) 14 rfl dL_isNet_662 rfl ?_
                    refine v_iload C0 (pc' := 666) 18 rfl dL_isNet_664 rfl ?_
                    refine v_iload C0 (pc' := 668) 19 rfl dL_isNet_666 rfl ?_
                    refine v_iload C0 (pc' := 670) 20 rfl dL_isNet_668 rfl ?_
                    refine v_iload C0 (pc' := 672) 21 rfl dL_isNet_670 rfl ?_
                    refine v_callSi C0 (av := [.ref ua, .ref ta, .ref fa, .long (nJ (s_L_live xn xf xc)), .int (nI uu), .int (nI lu), .int (nI uo), .int (nI lo)]) (rest := [.int (s_L_hops xu xt xf (s_L_live xn xf xc) uu lu uo lo)]) (ws' := [(qm, .inl (cI, 6, .inl (nA (s_L_spreads_xm xu xt xf (s_L_live xn xf xc) uu lu 90 mC)))), (qd, .inl (cI, 36, .inl (nA (D0 xf xc)))), (ba, .inl (cI, 36, .inl (nA xb))), (ca, .inl (cI, 36, .inl (nA xc))), (fa, .inl (cI, 36, .inl (nA xf))), (ta, .inl (cI, 36, .inl (nA xt))), (ua, .inl (cI, 36, .inl (nA xu))), (na, .inl (cI, 2, .inl (nA xn)))] ++ w4) (pc' := 675) hK hA (k_L_hops l D cI ua ta fa xu xt xf (s_L_live xn xf xc) uu lu uo lo hu ht hf (by omega) hLF (by omega) (by omega) (by omega) (by omega)) (va_cwS 8 C0.2.2.2.2 gL_isNet_L_hops rfl rfl rfl (by decide +kernel) ⟨Nat.le_of_ble_eq_true rfl, Nat.le_of_ble_eq_true rfl⟩) (PLs.lfs (PLs.of (isC := [6, 5, 4]) (isR := [0, 1, 2, 3, 7]) (isP := [0, 1, 2, 3, 7, 6, 5, 4]) (wr := [(qm, .inl (cI, 6, .inl (nA (s_L_spreads_xm xu xt xf (s_L_live xn xf xc) uu lu 90 mC)))), (qd, .inl (cI, 36, .inl (nA (D0 xf xc)))), (ba, .inl (cI, 36, .inl (nA xb))), (ca, .inl (cI, 36, .inl (nA xc))), (na, .inl (cI, 2, .inl (nA xn)))]) ⟨rfl, by decide, rfl, by decide, by decide, rfl, by decide⟩)) rfl rfl (Nat.le_of_ble_eq_true rfl) ⟨(by show 111 + 188 * i_C + 94 + 93 ≤ 1435; omega), (by show 726 + 1158 * i_C + 564 + 558 ≤ 8850; omega)⟩ dL_isNet_672 rfl ?_
                    refine v_icmp_ne C0 752 (pc' := 678) dL_isNet_675 (by decide) rfl (fun h14 => absurd rfl h14) (fun _ => ?_)
                    refine v_aload_n C0 (pc' := 679) 4 rfl rfl dL_isNet_678 rfl ?_
                    refine v_iload C0 (pc' := 681) 18 rfl dL_isNet_679 rfl ?_
                    refine v_iload C0 (pc' := 683) 19 rfl dL_isNet_681 rfl ?_
                    obtain ⟨w5, hw5, c5⟩ := p_joined l D hL hw4 (u := uu) (a := lu) (by omega) (by omega) (by omega)
                    obtain ⟨f5, x5⟩ := (hw4).x0
                    refine v_callVi0 C0 (av := [.int (nI uu), .int (nI lu)]) (rest := []) (ws' := [(qm, .inl (cI, 6, .inl (nA (s_L_spreads_xm xu xt xf (s_L_live xn xf xc) uu lu 90 mC)))), (qd, .inl (cI, 36, .inl (nA (D0 xf xc)))), (ba, .inl (cI, 36, .inl (nA xb))), (ca, .inl (cI, 36, .inl (nA xc))), (fa, .inl (cI, 36, .inl (nA xf))), (ta, .inl (cI, 36, .inl (nA xt))), (ua, .inl (cI, 36, .inl (nA xu))), (na, .inl (cI, 2, .inl (nA xn)))] ++ w5) (pc' := 686) hK hA c5 (cwV 2 C0.2.2.2.2 gL_isNet_X0_joined rfl rfl rfl (by decide +kernel) ⟨Nat.le_of_ble_eq_true rfl, Nat.le_of_ble_eq_true rfl⟩) ⟨_, 0, _, _, _, rfl, ap_r (A := [(qm, .inl (cI, 6, .inl (nA (s_L_spreads_xm xu xt xf (s_L_live xn xf xc) uu lu 90 mC)))), (qd, .inl (cI, 36, .inl (nA (D0 xf xc)))), (ba, .inl (cI, 36, .inl (nA xb))), (ca, .inl (cI, 36, .inl (nA xc))), (fa, .inl (cI, 36, .inl (nA xf))), (ta, .inl (cI, 36, .inl (nA xt))), (ua, .inl (cI, 36, .inl (nA xu))), (na, .inl (cI, 2, .inl (nA xn)))]) x5⟩ (PLs.rt (P := [(qm, .inl (cI, 6, .inl (nA (s_L_spreads_xm xu xt xf (s_L_live xn xf xc) uu lu 90 mC)))), (qd, .inl (cI, 36, .inl (nA (D0 xf xc)))), (ba, .inl (cI, 36, .inl (nA xb))), (ca, .inl (cI, 36, .inl (nA xc))), (fa, .inl (cI, 36, .inl (nA xf))), (ta, .inl (cI, 36, .inl (nA xt))), (ua, .inl (cI, 36, .inl (nA xu))), (na, .inl (cI, 2, .inl (nA xn)))])) rfl rfl (Nat.le_of_ble_eq_true rfl) ⟨(by show (111 + 188 * i_C + 94) + 93 ≤ 1435; omega), (by show (726 + 1158 * i_C + 564) + 558 ≤ 8850; omega)⟩ dL_isNet_683 rfl ?_
                    refine v_iload C0 (pc' := 688) 3 rfl dL_isNet_686 rfl ?_
                    refine v_icmp_ne C0 752 (pc' := 691) dL_isNet_688 (by decide) rfl (fun h15 => absurd rfl h15) (fun _ => ?_)
                    refine v_aload_n C0 (pc' := 692) 4 rfl rfl dL_isNet_691 rfl ?_
                    refine v_iload C0 (pc' := 694) 18 rfl dL_isNet_692 rfl ?_
                    refine v_iload C0 (pc' := 696) 2 rfl dL_isNet_694 rfl ?_
                    refine v_bipush C0 (pc' := 698) (nI 6) (by decide +kernel) dL_isNet_696 rfl ?_
                    refine v_iremN C0 (pc' := 699) (by omega) (by decide) (by decide) dL_isNet_698 rfl ?_
                    refine v_eqn (y := aa) (by omega) ?_
                    refine v_iload C0 (pc' := 701) 20 rfl dL_isNet_699 rfl ?_
                    refine v_iload C0 (pc' := 703) 1 rfl dL_isNet_701 rfl ?_
                    refine v_bipush C0 (pc' := 705) (nI 6) (by decide +kernel) dL_isNet_703 rfl ?_
                    refine v_iremN C0 (pc' := 706) (by omega) (by decide) (by decide) dL_isNet_705 rfl ?_
                    refine v_eqn (y := ab) (by omega) ?_
                    obtain ⟨w6, hw6, c6⟩ := p_meet l D hL hw5 (u := uu) (a := aa) (o := uo) (b := ab) (by omega) (by omega) (by omega) (by omega)
                    obtain ⟨f6, x6⟩ := (hw5).x0
                    refine v_callVi0 C0 (av := [.int (nI uu), .int (nI aa), .int (nI uo), .int (nI ab)]) (rest := []) (ws' := [(qm, .inl (cI, 6, .inl (nA (s_L_spreads_xm xu xt xf (s_L_live xn xf xc) uu lu 90 mC)))), (qd, .inl (cI, 36, .inl (nA (D0 xf xc)))), (ba, .inl (cI, 36, .inl (nA xb))), (ca, .inl (cI, 36, .inl (nA xc))), (fa, .inl (cI, 36, .inl (nA xf))), (ta, .inl (cI, 36, .inl (nA xt))), (ua, .inl (cI, 36, .inl (nA xu))), (na, .inl (cI, 2, .inl (nA xn)))] ++ w6) (pc' := 709) hK hA c6 (cwV 4 C0.2.2.2.2 gL_isNet_X0_meet rfl rfl rfl (by decide +kernel) ⟨Nat.le_of_ble_eq_true rfl, Nat.le_of_ble_eq_true rfl⟩) ⟨_, 0, _, _, _, rfl, ap_r (A := [(qm, .inl (cI, 6, .inl (nA (s_L_spreads_xm xu xt xf (s_L_live xn xf xc) uu lu 90 mC)))), (qd, .inl (cI, 36, .inl (nA (D0 xf xc)))), (ba, .inl (cI, 36, .inl (nA xb))), (ca, .inl (cI, 36, .inl (nA xc))), (fa, .inl (cI, 36, .inl (nA xf))), (ta, .inl (cI, 36, .inl (nA xt))), (ua, .inl (cI, 36, .inl (nA xu))), (na, .inl (cI, 2, .inl (nA xn)))]) x6⟩ (PLs.rt (P := [(qm, .inl (cI, 6, .inl (nA (s_L_spreads_xm xu xt xf (s_L_live xn xf xc) uu lu 90 mC)))), (qd, .inl (cI, 36, .inl (nA (D0 xf xc)))), (ba, .inl (cI, 36, .inl (nA xb))), (ca, .inl (cI, 36, .inl (nA xc))), (fa, .inl (cI, 36, .inl (nA xf))), (ta, .inl (cI, 36, .inl (nA xt))), (ua, .inl (cI, 36, .inl (nA xu))), (na, .inl (cI, 2, .inl (nA xn)))])) rfl rfl (Nat.le_of_ble_eq_true rfl) ⟨(by show (111 + 188 * i_C + 94) + 93 ≤ 1435; omega), (by show (726 + 1158 * i_C + 564) + 558 ≤ 8850; omega)⟩ dL_isNet_706 rfl ?_
                    refine v_iload C0 (pc' := 711) 0 rfl dL_isNet_709 rfl ?_
                    refine v_icmp_ne C0 752 (pc' := 714) dL_isNet_711 (by decide) rfl (fun h16 => absurd rfl h16) (fun _ => ?_)
                    refine v_aload_n C0 (pc' := 715) 4 rfl rfl dL_isNet_714 rfl ?_
                    refine v_iload C0 (pc' := 717) 18 rfl dL_isNet_715 rfl ?_
                    refine v_iload C0 (pc' := 719) 2 rfl dL_isNet_717 rfl ?_
                    refine v_bipush C0 (pc' := 721) (nI 6) (by decide +kernel) dL_isNet_719 rfl ?_
                    refine v_iremN C0 (pc' := 722) (by omega) (by decide) (by decide) dL_isNet_721 rfl ?_
                    refine v_eqn (y := aa) (by omega) ?_
                    refine v_iload C0 (pc' := 724) 20 rfl dL_isNet_722 rfl ?_
                    refine v_iload C0 (pc' := 726) 1 rfl dL_isNet_724 rfl ?_
                    refine v_bipush C0 (pc' := 728) (nI 6) (by decide +kernel) dL_isNet_726 rfl ?_
                    refine v_iremN C0 (pc' := 729) (by omega) (by decide) (by decide) dL_isNet_728 rfl ?_
                    refine v_eqn (y := ab) (by omega) ?_
                    obtain ⟨w7, hw7, c7⟩ := p_changes l D hL hw6 (u := uu) (a := aa) (o := uo) (b := ab) (by omega) (by omega) (by omega) (by omega)
                    obtain ⟨f7, x7⟩ := (hw6).x0
                    refine v_callVi0 C0 (av := [.int (nI uu), .int (nI aa), .int (nI uo), .int (nI ab)]) (rest := []) (ws' := [(qm, .inl (cI, 6, .inl (nA (s_L_spreads_xm xu xt xf (s_L_live xn xf xc) uu lu 90 mC)))), (qd, .inl (cI, 36, .inl (nA (D0 xf xc)))), (ba, .inl (cI, 36, .inl (nA xb))), (ca, .inl (cI, 36, .inl (nA xc))), (fa, .inl (cI, 36, .inl (nA xf))), (ta, .inl (cI, 36, .inl (nA xt))), (ua, .inl (cI, 36, .inl (nA xu))), (na, .inl (cI, 2, .inl (nA xn)))] ++ w7) (pc' := 732) hK hA c7 (cwV 4 C0.2.2.2.2 gL_isNet_X0_changes rfl rfl rfl (by decide +kernel) ⟨Nat.le_of_ble_eq_true rfl, Nat.le_of_ble_eq_true rfl⟩) ⟨_, 0, _, _, _, rfl, ap_r (A := [(qm, .inl (cI, 6, .inl (nA (s_L_spreads_xm xu xt xf (s_L_live xn xf xc) uu lu 90 mC)))), (qd, .inl (cI, 36, .inl (nA (D0 xf xc)))), (ba, .inl (cI, 36, .inl (nA xb))), (ca, .inl (cI, 36, .inl (nA xc))), (fa, .inl (cI, 36, .inl (nA xf))), (ta, .inl (cI, 36, .inl (nA xt))), (ua, .inl (cI, 36, .inl (nA xu))), (na, .inl (cI, 2, .inl (nA xn)))]) x7⟩ (PLs.rt (P := [(qm, .inl (cI, 6, .inl (nA (s_L_spreads_xm xu xt xf (s_L_live xn xf xc) uu lu 90 mC)))), (qd, .inl (cI, 36, .inl (nA (D0 xf xc)))), (ba, .inl (cI, 36, .inl (nA xb))), (ca, .inl (cI, 36, .inl (nA xc))), (fa, .inl (cI, 36, .inl (nA xf))), (ta, .inl (cI, 36, .inl (nA xt))), (ua, .inl (cI, 36, .inl (nA xu))), (na, .inl (cI, 2, .inl (nA xn)))])) rfl rfl (Nat.le_of_ble_eq_true rfl) ⟨(by show (111 + 188 * i_C + 94) + 93 ≤ 1435; omega), (by show (726 + 1158 * i_C + 564) + 558 ≤ 8850; omega)⟩ dL_isNet_729 rfl ?_
                    refine v_aload_n C0 (pc' := 733) 6 rfl rfl dL_isNet_732 rfl ?_
                    refine v_aload_n C0 (pc' := 734) 7 rfl rfl dL_isNet_733 rfl ?_
                    refine v_aload C0 (pc' := 736) 8 rfl dL_isNet_734 rfl ?_
                    refine v_lload C0 (pc' := 738) 14 rfl dL_isNet_736 rfl ?_
                    refine v_iload C0 (pc' := 740) 2 rfl dL_isNet_738 rfl ?_
                    refine v_iload C0 (pc' := 742) 1 rfl dL_isNet_740 rfl ?_
                    refine v_callSi C0 (av := [.ref ua, .ref ta, .ref fa, .long (nJ (s_L_live xn xf xc)), .int (nI ((6 * uu) + aa)), .int (nI ((6 * uo) + ab))]) (rest := [.int (s_L_changes xu xt xf (s_L_live xn xf xc) (6 * uu + aa) (6 * uo + ab))]) (ws' := [(qm, .inl (cI, 6, .inl (nA (s_L_spreads_xm xu xt xf (s_L_live xn xf xc) uu lu 90 mC)))), (qd, .inl (cI, 36, .inl (nA (D0 xf xc)))), (ba, .inl (cI, 36, .inl (nA xb))), (ca, .inl (cI, 36, .inl (nA xc))), (fa, .inl (cI, 36, .inl (nA xf))), (ta, .inl (cI, 36, .inl (nA xt))), (ua, .inl (cI, 36, .inl (nA xu))), (na, .inl (cI, 2, .inl (nA xn)))] ++ w7) (pc' := 745) hK hA (k_L_changes l D cI ua ta fa xu xt xf (s_L_live xn xf xc) ((6 * uu) + aa) ((6 * uo) + ab) hu ht hf (by omega) hLF (by omega) (by omega)) (va_cwS 6 C0.2.2.2.2 gL_isNet_L_changes rfl rfl rfl (by decide +kernel) ⟨Nat.le_of_ble_eq_true rfl, Nat.le_of_ble_eq_true rfl⟩) (PLs.lfs (PLs.of (isC := [6, 5, 4]) (isR := [0, 1, 2, 3, 7]) (isP := [0, 1, 2, 3, 7, 6, 5, 4]) (wr := [(qm, .inl (cI, 6, .inl (nA (s_L_spreads_xm xu xt xf (s_L_live xn xf xc) uu lu 90 mC)))), (qd, .inl (cI, 36, .inl (nA (D0 xf xc)))), (ba, .inl (cI, 36, .inl (nA xb))), (ca, .inl (cI, 36, .inl (nA xc))), (na, .inl (cI, 2, .inl (nA xn)))]) ⟨rfl, by decide, rfl, by decide, by decide, rfl, by decide⟩)) rfl rfl (Nat.le_of_ble_eq_true rfl) ⟨(by show (111 + 188 * i_C + 94) + 93 + 1 ≤ 1435; omega), (by show (726 + 1158 * i_C + 564) + 558 + 36 ≤ 8850; omega)⟩ dL_isNet_742 rfl ?_
                    refine v_icmp_ne C0 752 (pc' := 748) dL_isNet_745 (by decide) rfl (fun h17 => absurd rfl h17) (fun _ => ?_)
                    refine v_iconst C0 (pc' := 749) (nI 1) (by decide +kernel) dL_isNet_748 rfl ?_
                    refine v_goto C0 753 dL_isNet_749 (by decide) ?_
                    refine v_istore C0 (lv' := [(13, .int (nI 1)), (22, .int (mt xu xt xf (s_L_live xn xf xc) (6 * uu + aa) (6 * uo + ab))), (21, .int (nI ((6 * uo) + ab))), (20, .int (nI ((6 * uu) + aa))), (19, .int (nI (lp (fun j z => z + sb (SK xu xt xf (s_L_live xn xf xc) uu lu 90 j) 16) 6 0))), (0, .ref (ad 0)), (1, .ref na), (2, .ref ua), (3, .ref ta), (4, .ref fa), (5, .ref ca), (6, .ref ba), (7, .int (nI xX)), (8, .ref qd), (9, .ref qm), (10, .long (nJ (s_L_live xn xf xc))), (12, .int (nI (lp (wrF xf xb) 36 0))), (14, .int (nI i_C)), (15, .int (nI uu)), (16, .int (nI lu)), (17, .int (nI uo)), (18, .int (nI lo))]) (pc' := 755) (by decide) rfl dL_isNet_753 rfl ?_
                    refine v_iincN C0 (lv' := [(14, .int (nI (i_C + 1))), (13, .int (nI 1)), (22, .int (mt xu xt xf (s_L_live xn xf xc) (6 * uu + aa) (6 * uo + ab))), (21, .int (nI ((6 * uo) + ab))), (20, .int (nI ((6 * uu) + aa))), (19, .int (nI (lp (fun j z => z + sb (SK xu xt xf (s_L_live xn xf xc) uu lu 90 j) 16) 6 0))), (0, .ref (ad 0)), (1, .ref na), (2, .ref ua), (3, .ref ta), (4, .ref fa), (5, .ref ca), (6, .ref ba), (7, .int (nI xX)), (8, .ref qd), (9, .ref qm), (10, .long (nJ (s_L_live xn xf xc))), (12, .int (nI (lp (wrF xf xb) 36 0))), (15, .int (nI uu)), (16, .int (nI lu)), (17, .int (nI uo)), (18, .int (nI lo))]) (y := 1) (pc' := 758) 17 rfl (by decide) rfl dL_isNet_755 rfl ?_
                    refine v_goto C0 447 dL_isNet_758 (by decide) ?_
                    refine v_widen (k2 := 111 + 188 * (i_C + 1)) (n2 := 726 + 1158 * (i_C + 1)) (by omega) (by omega) ?_
                    have z_C := ih_C (i_C + 1) w7 (s_L_spreads_xm xu xt xf (s_L_live xn xf xc) uu lu 90 mC) (by omega) hw7 hmS
                    exact v_sub (lv' := [(14, .int (nI (i_C + 1))), (13, .int (nI 1)), (0, .ref (ad 0)), (1, .ref na), (2, .ref ua), (3, .ref ta), (4, .ref fa), (5, .ref ca), (6, .ref ba), (7, .int (nI xX)), (8, .ref qd), (9, .ref qm), (10, .long (nJ (s_L_live xn xf xc))), (12, .int (nI (lp (wrF xf xb) 36 0)))]) [0, 1, 6, 7, 8, 9, 10, 11, 12, 13, 14, 15, 16, 17] rfl z_C
                  · exact absurd (by omega) h10
                | succ j_M ih_M =>
                  intro i_M  hi_M 
                  refine v_iload C0 (pc' := 539) 0 rfl dL_isNet_537 rfl ?_
                  refine v_bipush C0 (pc' := 541) (nI 6) (by decide +kernel) dL_isNet_539 rfl ?_
                  refine v_icmp_geN C0 563 (pc' := 544) (by omega) (by omega) dL_isNet_541 (by decide) rfl (fun h18 => ?_) (fun h18 => ?_)
                  · exact absurd h18 (by omega)
                  · refine v_iload C0 (pc' := 546) 1 rfl dL_isNet_544 rfl ?_
                    refine v_aload C0 (pc' := 548) 11 rfl dL_isNet_546 rfl ?_
                    refine v_iload C0 (pc' := 550) 0 rfl dL_isNet_548 rfl ?_
                    refine v_ialdN C0 hK (pc' := 551) 0 0 rfl rfl (by omega) (by decide) dL_isNet_550 rfl ?_
                    refine v_callSi C0 (av := [.int (nI ((s_L_spreads_xm xu xt xf (s_L_live xn xf xc) uu lu 90 mC) i_M))]) (rest := [.int (nI (lp (fun j z => z + sb (SK xu xt xf (s_L_live xn xf xc) uu lu 90 j) 16) i_M 0))]) (ws' := [(qm, .inl (cI, 6, .inl (nA (s_L_spreads_xm xu xt xf (s_L_live xn xf xc) uu lu 90 mC)))), (qd, .inl (cI, 36, .inl (nA (D0 xf xc)))), (ba, .inl (cI, 36, .inl (nA xb))), (ca, .inl (cI, 36, .inl (nA xc))), (fa, .inl (cI, 36, .inl (nA xf))), (ta, .inl (cI, 36, .inl (nA xt))), (ua, .inl (cI, 36, .inl (nA xu))), (na, .inl (cI, 2, .inl (nA xn)))] ++ wC) (pc' := 554) hK hA (k_L_bits l D cI ((s_L_spreads_xm xu xt xf (s_L_live xn xf xc) uu lu 90 mC) i_M) (lt_spreads hu (by omega) hm_C _)) (va_cwS 1 C0.2.2.2.2 gL_isNet_L_bits rfl rfl rfl (by decide +kernel) ⟨Nat.le_of_ble_eq_true rfl, Nat.le_of_ble_eq_true rfl⟩) PLs.nil rfl rfl (Nat.le_of_ble_eq_true rfl) ⟨(by show (111 + 188 * i_C) + 1 + 0 ≤ 1435; omega), (by show (726 + 1158 * i_C) + 6 + 0 ≤ 8850; omega)⟩ dL_isNet_551 rfl ?_
                    refine v_iaddN C0 (pc' := 555) dL_isNet_554 rfl ?_
                    refine v_istore C0 (lv' := [(19, .int (nI ((lp (fun j z => z + sb (SK xu xt xf (s_L_live xn xf xc) uu lu 90 j) 16) i_M 0) + (sb ((s_L_spreads_xm xu xt xf (s_L_live xn xf xc) uu lu 90 mC) i_M) 16)))), (20, .int (nI i_M)), (0, .ref (ad 0)), (1, .ref na), (2, .ref ua), (3, .ref ta), (4, .ref fa), (5, .ref ca), (6, .ref ba), (7, .int (nI xX)), (8, .ref qd), (9, .ref qm), (10, .long (nJ (s_L_live xn xf xc))), (12, .int (nI (lp (wrF xf xb) 36 0))), (13, .int (nI 1)), (14, .int (nI i_C)), (15, .int (nI uu)), (16, .int (nI lu)), (17, .int (nI uo)), (18, .int (nI lo))]) (pc' := 557) (by decide) rfl dL_isNet_555 rfl ?_
                    refine v_iincN C0 (lv' := [(20, .int (nI (i_M + 1))), (19, .int (nI ((lp (fun j z => z + sb (SK xu xt xf (s_L_live xn xf xc) uu lu 90 j) 16) i_M 0) + (sb ((s_L_spreads_xm xu xt xf (s_L_live xn xf xc) uu lu 90 mC) i_M) 16)))), (0, .ref (ad 0)), (1, .ref na), (2, .ref ua), (3, .ref ta), (4, .ref fa), (5, .ref ca), (6, .ref ba), (7, .int (nI xX)), (8, .ref qd), (9, .ref qm), (10, .long (nJ (s_L_live xn xf xc))), (12, .int (nI (lp (wrF xf xb) 36 0))), (13, .int (nI 1)), (14, .int (nI i_C)), (15, .int (nI uu)), (16, .int (nI lu)), (17, .int (nI uo)), (18, .int (nI lo))]) (y := 1) (pc' := 560) 1 rfl (by decide) rfl dL_isNet_557 rfl ?_
                    refine v_goto C0 537 dL_isNet_560 (by decide) ?_
                    have z_M := ih_M (i_M + 1)  (by omega) 
                    have em : lp (fun j z => z + sb (SK xu xt xf (s_L_live xn xf xc) uu lu 90 j) 16) (i_M + 1) 0 = (lp (fun j z => z + sb (SK xu xt xf (s_L_live xn xf xc) uu lu 90 j) 16) i_M 0) + (sb ((s_L_spreads_xm xu xt xf (s_L_live xn xf xc) uu lu 90 mC) i_M) 16) := by rw [hSK i_M (by omega)]; rfl
                    rw [em] at z_M
                    exact v_sub (lv' := [(20, .int (nI (i_M + 1))), (19, .int (nI ((lp (fun j z => z + sb (SK xu xt xf (s_L_live xn xf xc) uu lu 90 j) 16) i_M 0) + (sb ((s_L_spreads_xm xu xt xf (s_L_live xn xf xc) uu lu 90 mC) i_M) 16)))), (0, .ref (ad 0)), (1, .ref na), (2, .ref ua), (3, .ref ta), (4, .ref fa), (5, .ref ca), (6, .ref ba), (7, .int (nI xX)), (8, .ref qd), (9, .ref qm), (10, .long (nJ (s_L_live xn xf xc))), (12, .int (nI (lp (wrF xf xb) 36 0))), (13, .int (nI 1)), (14, .int (nI i_C)), (15, .int (nI uu)), (16, .int (nI lu)), (17, .int (nI uo)), (18, .int (nI lo))]) [0, 1, 2, 3, 4, 5, 6, 7, 8, 9, 10, 11, 12, 13, 14, 15, 16, 17, 18, 19] rfl z_M
        · exact absurd (by omega) h2
      | succ j_B ih_B =>
        intro i_B  hi_B 
        refine v_iload C0 (pc' := 361) 0 rfl dL_isNet_359 rfl ?_
        refine v_bipush C0 (pc' := 363) (nI 6) (by decide +kernel) dL_isNet_361 rfl ?_
        refine v_icmp_geN C0 444 (pc' := 366) (by omega) (by omega) dL_isNet_363 (by decide) rfl (fun h19 => ?_) (fun h19 => ?_)
        · exact absurd h19 (by omega)
        · refine v_iload C0 (pc' := 368) 1 rfl dL_isNet_366 rfl ?_
          refine v_if_eqN C0 444 (pc' := 371) (by omega) dL_isNet_368 (by decide) rfl (fun h20 => ?_) (fun h20 => ?_)
          · exact absurd h20 (by decide)
          · refine v_aload C0 (pc' := 373) 10 rfl dL_isNet_371 rfl ?_
            refine v_iload C0 (pc' := 375) 0 rfl dL_isNet_373 rfl ?_
            refine v_callSi C0 (av := [.ref qd, .int (nI i_B)]) (rest := []) (ws' := [(qm, .inl (cI, 6, .inl (nA (fun _ => 0)))), (qd, .inl (cI, 36, .inl (nA (D0 xf xc)))), (ba, .inl (cI, 36, .inl (nA xb))), (ca, .inl (cI, 36, .inl (nA xc))), (fa, .inl (cI, 36, .inl (nA xf))), (ta, .inl (cI, 36, .inl (nA xt))), (ua, .inl (cI, 36, .inl (nA xu))), (na, .inl (cI, 2, .inl (nA xn)))] ++ wx) (pc' := 378) hK hA (k_L_root l D cI qd (D0 xf xc) i_B hD0 (by omega)) (va_cwS 2 C0.2.2.2.2 gL_isNet_L_root rfl rfl rfl (by decide +kernel) ⟨Nat.le_of_ble_eq_true rfl, Nat.le_of_ble_eq_true rfl⟩) (PLs.lfs (PLs.of (isC := [1]) (isR := [0, 2, 3, 4, 5, 6, 7]) (isP := [0, 7, 1, 2, 3, 4, 5, 6]) (wr := [(qm, .inl (cI, 6, .inl (nA (fun _ => 0)))), (ba, .inl (cI, 36, .inl (nA xb))), (ca, .inl (cI, 36, .inl (nA xc))), (fa, .inl (cI, 36, .inl (nA xf))), (ta, .inl (cI, 36, .inl (nA xt))), (ua, .inl (cI, 36, .inl (nA xu))), (na, .inl (cI, 2, .inl (nA xn)))]) ⟨rfl, by decide, rfl, by decide, by decide, rfl, by decide⟩)) rfl rfl (Nat.le_of_ble_eq_true rfl) ⟨(Nat.le_of_ble_eq_true rfl), (Nat.le_of_ble_eq_true rfl)⟩ dL_isNet_375 rfl ?_
            refine v_istore C0 (lv' := [(15, .int (nI (s_L_root (D0 xf xc) i_B))), (14, .int (nI i_B)), (13, .int (nI 1)), (0, .ref (ad 0)), (1, .ref na), (2, .ref ua), (3, .ref ta), (4, .ref fa), (5, .ref ca), (6, .ref ba), (7, .int (nI xX)), (8, .ref qd), (9, .ref qm), (10, .long (nJ (s_L_live xn xf xc))), (12, .int (nI (lp (wrF xf xb) 36 0)))]) (pc' := 380) (by decide) rfl dL_isNet_378 rfl ?_
            refine v_aload_n C0 (pc' := 381) 3 rfl rfl dL_isNet_380 rfl ?_
            refine v_iload C0 (pc' := 383) 1 rfl dL_isNet_381 rfl ?_
            have c8 := p_root l D hL hw (u := i_B) (by omega)
            obtain ⟨f8, x8⟩ := (hw).x0
            refine v_callVi0 C0 (av := [.int (nI i_B)]) (rest := []) (ws' := [(qm, .inl (cI, 6, .inl (nA (fun _ => 0)))), (qd, .inl (cI, 36, .inl (nA (D0 xf xc)))), (ba, .inl (cI, 36, .inl (nA xb))), (ca, .inl (cI, 36, .inl (nA xc))), (fa, .inl (cI, 36, .inl (nA xf))), (ta, .inl (cI, 36, .inl (nA xt))), (ua, .inl (cI, 36, .inl (nA xu))), (na, .inl (cI, 2, .inl (nA xn)))] ++ wx) (pc' := 386) hK hA c8 (cwV 1 C0.2.2.2.2 gL_isNet_X0_root rfl rfl rfl (by decide +kernel) ⟨Nat.le_of_ble_eq_true rfl, Nat.le_of_ble_eq_true rfl⟩) ⟨_, 0, _, _, _, rfl, ap_r (A := [(qm, .inl (cI, 6, .inl (nA (fun _ => 0)))), (qd, .inl (cI, 36, .inl (nA (D0 xf xc)))), (ba, .inl (cI, 36, .inl (nA xb))), (ca, .inl (cI, 36, .inl (nA xc))), (fa, .inl (cI, 36, .inl (nA xf))), (ta, .inl (cI, 36, .inl (nA xt))), (ua, .inl (cI, 36, .inl (nA xu))), (na, .inl (cI, 2, .inl (nA xn)))]) x8⟩ (PLs.rt (P := [(qm, .inl (cI, 6, .inl (nA (fun _ => 0)))), (qd, .inl (cI, 36, .inl (nA (D0 xf xc)))), (ba, .inl (cI, 36, .inl (nA xb))), (ca, .inl (cI, 36, .inl (nA xc))), (fa, .inl (cI, 36, .inl (nA xf))), (ta, .inl (cI, 36, .inl (nA xt))), (ua, .inl (cI, 36, .inl (nA xu))), (na, .inl (cI, 2, .inl (nA xn)))])) rfl rfl (Nat.le_of_ble_eq_true rfl) ⟨(Nat.le_of_ble_eq_true rfl), (Nat.le_of_ble_eq_true rfl)⟩ dL_isNet_383 rfl ?_
            refine v_iload C0 (pc' := 388) 0 rfl dL_isNet_386 rfl ?_
            refine v_icmp_ne C0 435 (pc' := 391) dL_isNet_388 (by decide) rfl (fun h21 => absurd rfl h21) (fun _ => ?_)
            refine v_aload_n C0 (pc' := 392) 3 rfl rfl dL_isNet_391 rfl ?_
            refine v_iload C0 (pc' := 394) 1 rfl dL_isNet_392 rfl ?_
            have c9 := p_costOf l D hL hw (u := i_B) (by omega)
            obtain ⟨f9, x9⟩ := (hw).x0
            refine v_callVi0 C0 (av := [.int (nI i_B)]) (rest := []) (ws' := [(qm, .inl (cI, 6, .inl (nA (fun _ => 0)))), (qd, .inl (cI, 36, .inl (nA (D0 xf xc)))), (ba, .inl (cI, 36, .inl (nA xb))), (ca, .inl (cI, 36, .inl (nA xc))), (fa, .inl (cI, 36, .inl (nA xf))), (ta, .inl (cI, 36, .inl (nA xt))), (ua, .inl (cI, 36, .inl (nA xu))), (na, .inl (cI, 2, .inl (nA xn)))] ++ wx) (pc' := 397) hK hA c9 (cwV 1 C0.2.2.2.2 gL_isNet_X0_costOf rfl rfl rfl (by decide +kernel) ⟨Nat.le_of_ble_eq_true rfl, Nat.le_of_ble_eq_true rfl⟩) ⟨_, 0, _, _, _, rfl, ap_r (A := [(qm, .inl (cI, 6, .inl (nA (fun _ => 0)))), (qd, .inl (cI, 36, .inl (nA (D0 xf xc)))), (ba, .inl (cI, 36, .inl (nA xb))), (ca, .inl (cI, 36, .inl (nA xc))), (fa, .inl (cI, 36, .inl (nA xf))), (ta, .inl (cI, 36, .inl (nA xt))), (ua, .inl (cI, 36, .inl (nA xu))), (na, .inl (cI, 2, .inl (nA xn)))]) x9⟩ (PLs.rt (P := [(qm, .inl (cI, 6, .inl (nA (fun _ => 0)))), (qd, .inl (cI, 36, .inl (nA (D0 xf xc)))), (ba, .inl (cI, 36, .inl (nA xb))), (ca, .inl (cI, 36, .inl (nA xc))), (fa, .inl (cI, 36, .inl (nA xf))), (ta, .inl (cI, 36, .inl (nA xt))), (ua, .inl (cI, 36, .inl (nA xu))), (na, .inl (cI, 2, .inl (nA xn)))])) rfl rfl (Nat.le_of_ble_eq_true rfl) ⟨(Nat.le_of_ble_eq_true rfl), (Nat.le_of_ble_eq_true rfl)⟩ dL_isNet_394 rfl ?_
            refine v_aload C0 (pc' := 399) 11 rfl dL_isNet_397 rfl ?_
            refine v_bipush C0 (pc' := 401) (nI 6) (by decide +kernel) dL_isNet_399 rfl ?_
            refine v_iload C0 (pc' := 403) 1 rfl dL_isNet_401 rfl ?_
            refine v_imulN C0 (pc' := 404) dL_isNet_403 rfl ?_
            refine v_iload C0 (pc' := 406) 0 rfl dL_isNet_404 rfl ?_
            refine v_iaddN C0 (pc' := 407) dL_isNet_406 rfl ?_
            refine v_ialdN C0 hK (pc' := 408) 1 0 rfl rfl (by have := lt_root (xd := (D0 xf xc)) (unit := i_B) (by first | assumption | omega); omega) (by decide) dL_isNet_407 rfl ?_
            refine v_icmp_ne C0 435 (pc' := 411) dL_isNet_408 (by decide) rfl (fun h22 => absurd rfl h22) (fun _ => ?_)
            refine v_aload_n C0 (pc' := 412) 3 rfl rfl dL_isNet_411 rfl ?_
            refine v_iload C0 (pc' := 414) 1 rfl dL_isNet_412 rfl ?_
            have c10 := p_wayUp l D hL hw (u := i_B) (by omega)
            obtain ⟨f10, x10⟩ := (hw).x0
            refine v_callVi0 C0 (av := [.int (nI i_B)]) (rest := []) (ws' := [(qm, .inl (cI, 6, .inl (nA (fun _ => 0)))), (qd, .inl (cI, 36, .inl (nA (D0 xf xc)))), (ba, .inl (cI, 36, .inl (nA xb))), (ca, .inl (cI, 36, .inl (nA xc))), (fa, .inl (cI, 36, .inl (nA xf))), (ta, .inl (cI, 36, .inl (nA xt))), (ua, .inl (cI, 36, .inl (nA xu))), (na, .inl (cI, 2, .inl (nA xn)))] ++ wx) (pc' := 417) hK hA c10 (cwV 1 C0.2.2.2.2 gL_isNet_X0_wayUp rfl rfl rfl (by decide +kernel) ⟨Nat.le_of_ble_eq_true rfl, Nat.le_of_ble_eq_true rfl⟩) ⟨_, 0, _, _, _, rfl, ap_r (A := [(qm, .inl (cI, 6, .inl (nA (fun _ => 0)))), (qd, .inl (cI, 36, .inl (nA (D0 xf xc)))), (ba, .inl (cI, 36, .inl (nA xb))), (ca, .inl (cI, 36, .inl (nA xc))), (fa, .inl (cI, 36, .inl (nA xf))), (ta, .inl (cI, 36, .inl (nA xt))), (ua, .inl (cI, 36, .inl (nA xu))), (na, .inl (cI, 2, .inl (nA xn)))]) x10⟩ (PLs.rt (P := [(qm, .inl (cI, 6, .inl (nA (fun _ => 0)))), (qd, .inl (cI, 36, .inl (nA (D0 xf xc)))), (ba, .inl (cI, 36, .inl (nA xb))), (ca, .inl (cI, 36, .inl (nA xc))), (fa, .inl (cI, 36, .inl (nA xf))), (ta, .inl (cI, 36, .inl (nA xt))), (ua, .inl (cI, 36, .inl (nA xu))), (na, .inl (cI, 2, .inl (nA xn)))])) rfl rfl (Nat.le_of_ble_eq_true rfl) ⟨(Nat.le_of_ble_eq_true rfl), (Nat.le_of_ble_eq_true rfl)⟩ dL_isNet_414 rfl ?_
            refine v_aload C0 (pc' := 419) 7 rfl dL_isNet_417 rfl ?_
            refine v_aload C0 (pc' := 421) 8 rfl dL_isNet_419 rfl ?_
            refine v_aload C0 (pc' := 423) 11 rfl dL_isNet_421 rfl ?_
            refine v_iload C0 (pc' := 425) 1 rfl dL_isNet_423 rfl ?_
            refine v_callSi C0 (av := [.ref fa, .ref ca, .ref qd, .int (nI i_B)]) (rest := [.int (oI (s_L_way xf xc (D0 xf xc) i_B))]) (ws' := [(qm, .inl (cI, 6, .inl (nA (fun _ => 0)))), (qd, .inl (cI, 36, .inl (nA (D0 xf xc)))), (ba, .inl (cI, 36, .inl (nA xb))), (ca, .inl (cI, 36, .inl (nA xc))), (fa, .inl (cI, 36, .inl (nA xf))), (ta, .inl (cI, 36, .inl (nA xt))), (ua, .inl (cI, 36, .inl (nA xu))), (na, .inl (cI, 2, .inl (nA xn)))] ++ wx) (pc' := 428) hK hA (k_L_way l D cI fa ca qd xf xc (D0 xf xc) i_B hf hc hD0 (by omega)) (va_cwS 4 C0.2.2.2.2 gL_isNet_L_way rfl rfl rfl (by decide +kernel) ⟨Nat.le_of_ble_eq_true rfl, Nat.le_of_ble_eq_true rfl⟩) (PLs.lfs (PLs.of (isC := [4, 3, 1]) (isR := [0, 2, 5, 6, 7]) (isP := [0, 7, 1, 6, 5, 2, 3, 4]) (wr := [(qm, .inl (cI, 6, .inl (nA (fun _ => 0)))), (ba, .inl (cI, 36, .inl (nA xb))), (ta, .inl (cI, 36, .inl (nA xt))), (ua, .inl (cI, 36, .inl (nA xu))), (na, .inl (cI, 2, .inl (nA xn)))]) ⟨rfl, by decide, rfl, by decide, by decide, rfl, by decide⟩)) rfl rfl (Nat.le_of_ble_eq_true rfl) ⟨(Nat.le_of_ble_eq_true rfl), (Nat.le_of_ble_eq_true rfl)⟩ dL_isNet_425 rfl ?_
            refine v_icmp_ne C0 435 (pc' := 431) dL_isNet_428 (by decide) rfl (fun h23 => absurd rfl h23) (fun _ => ?_)
            refine v_iconst C0 (pc' := 432) (nI 1) (by decide +kernel) dL_isNet_431 rfl ?_
            refine v_goto C0 436 dL_isNet_432 (by decide) ?_
            refine v_istore C0 (lv' := [(13, .int (nI 1)), (15, .int (nI (s_L_root (D0 xf xc) i_B))), (14, .int (nI i_B)), (0, .ref (ad 0)), (1, .ref na), (2, .ref ua), (3, .ref ta), (4, .ref fa), (5, .ref ca), (6, .ref ba), (7, .int (nI xX)), (8, .ref qd), (9, .ref qm), (10, .long (nJ (s_L_live xn xf xc))), (12, .int (nI (lp (wrF xf xb) 36 0)))]) (pc' := 438) (by decide) rfl dL_isNet_436 rfl ?_
            refine v_iincN C0 (lv' := [(14, .int (nI (i_B + 1))), (13, .int (nI 1)), (15, .int (nI (s_L_root (D0 xf xc) i_B))), (0, .ref (ad 0)), (1, .ref na), (2, .ref ua), (3, .ref ta), (4, .ref fa), (5, .ref ca), (6, .ref ba), (7, .int (nI xX)), (8, .ref qd), (9, .ref qm), (10, .long (nJ (s_L_live xn xf xc))), (12, .int (nI (lp (wrF xf xb) 36 0)))]) (y := 1) (pc' := 441) 2 rfl (by decide) rfl dL_isNet_438 rfl ?_
            refine v_goto C0 359 dL_isNet_441 (by decide) ?_
            have z_B := ih_B (i_B + 1)  (by omega) 
            exact v_sub (lv' := [(14, .int (nI (i_B + 1))), (13, .int (nI 1)), (0, .ref (ad 0)), (1, .ref na), (2, .ref ua), (3, .ref ta), (4, .ref fa), (5, .ref ca), (6, .ref ba), (7, .int (nI xX)), (8, .ref qd), (9, .ref qm), (10, .long (nJ (s_L_live xn xf xc))), (12, .int (nI (lp (wrF xf xb) 36 0)))]) [0, 1, 3, 4, 5, 6, 7, 8, 9, 10, 11, 12, 13, 14] rfl z_B
    · exact absurd (by omega) h1
  | succ j_A ih_A =>
    intro i_A  hi_A 
    refine v_iload C0 (pc' := 42) 0 rfl dL_isNet_40 rfl ?_
    refine v_bipush C0 (pc' := 44) (nI 36) (by decide +kernel) dL_isNet_42 rfl ?_
    refine v_icmp_geN C0 356 (pc' := 47) (by omega) (by omega) dL_isNet_44 (by decide) rfl (fun h24 => ?_) (fun h24 => ?_)
    · exact absurd h24 (by omega)
    · refine v_iload C0 (pc' := 49) 2 rfl dL_isNet_47 rfl ?_
      refine v_if_eqN C0 356 (pc' := 52) (by omega) dL_isNet_49 (by decide) rfl (fun h25 => ?_) (fun h25 => ?_)
      · exact absurd h25 (by decide)
      · suffices J_wr : V p l e { frames := 9, cells := 1435, slots := 8850, locals := 189 } s m args below meth c D A 23 (3 + 3 * i_A) (78 + 18 * i_A) (MQ below (QE D (TI cI) (fun w => [(ba, .inl (cI, 36, .inl (nA xb))), (ca, .inl (cI, 36, .inl (nA xc))), (fa, .inl (cI, 36, .inl (nA xf))), (ta, .inl (cI, 36, .inl (nA xt))), (ua, .inl (cI, 36, .inl (nA xu))), (na, .inl (cI, 2, .inl (nA xn)))] ++ w) (fun w => WQ cI ad xu xt xf xc xb xn w) A 1) args s 1435 8850 A) ([(qm, .inl (cI, 6, .inl (nA (fun _ => 0)))), (qd, .inl (cI, 36, .inl (nA (D0 xf xc)))), (ba, .inl (cI, 36, .inl (nA xb))), (ca, .inl (cI, 36, .inl (nA xc))), (fa, .inl (cI, 36, .inl (nA xf))), (ta, .inl (cI, 36, .inl (nA xt))), (ua, .inl (cI, 36, .inl (nA xu))), (na, .inl (cI, 2, .inl (nA xn)))] ++ wx) [(14, .int (nI i_A)), (12, .int (nI (lp (wrF xf xb) i_A 0))), (13, .int (nI 1)), (0, .ref (ad 0)), (1, .ref na), (2, .ref ua), (3, .ref ta), (4, .ref fa), (5, .ref ca), (6, .ref ba), (7, .int (nI xX)), (8, .ref qd), (9, .ref qm), (10, .long (nJ (s_L_live xn xf xc)))] 81 [.int (nI (wrF xf xb i_A (lp (wrF xf xb) i_A 0)))] by
          refine v_iload C0 (pc' := 54) 1 rfl dL_isNet_52 rfl ?_
          refine v_aload C0 (pc' := 56) 9 rfl dL_isNet_54 rfl ?_
          refine v_iload C0 (pc' := 58) 0 rfl dL_isNet_56 rfl ?_
          refine v_ialdN C0 hK (pc' := 59) 2 0 rfl rfl (by omega) (by decide) dL_isNet_58 rfl ?_
          refine v_if_leN C0 79 (pc' := 62) (by have := hb i_A; omega) dL_isNet_59 (by decide) rfl (fun h26 => ?_) (fun h26 => ?_)
          · refine v_iconst C0 (pc' := 80) (nI 0) (by decide +kernel) dL_isNet_79 rfl ?_
            refine v_iaddN C0 (pc' := 81) dL_isNet_80 rfl ?_
            have e_wr : wrF xf xb i_A (lp (wrF xf xb) i_A 0) = (lp (wrF xf xb) i_A 0) + 0 := by simp only [wrF, if_pos h26]
            rw [e_wr] at J_wr
            exact v_sub (lv' := [(14, .int (nI i_A)), (12, .int (nI (lp (wrF xf xb) i_A 0))), (13, .int (nI 1)), (0, .ref (ad 0)), (1, .ref na), (2, .ref ua), (3, .ref ta), (4, .ref fa), (5, .ref ca), (6, .ref ba), (7, .int (nI xX)), (8, .ref qd), (9, .ref qm), (10, .long (nJ (s_L_live xn xf xc)))]) [0, 1, 2, 3, 4, 5, 6, 7, 8, 9, 10, 11, 12, 13] rfl J_wr
          · refine v_aload C0 (pc' := 64) 9 rfl dL_isNet_62 rfl ?_
            refine v_iload C0 (pc' := 66) 0 rfl dL_isNet_64 rfl ?_
            refine v_ialdN C0 hK (pc' := 67) 2 0 rfl rfl (by omega) (by decide) dL_isNet_66 rfl ?_
            refine v_aload C0 (pc' := 69) 7 rfl dL_isNet_67 rfl ?_
            refine v_iload C0 (pc' := 71) 0 rfl dL_isNet_69 rfl ?_
            refine v_ialdN C0 hK (pc' := 72) 4 0 rfl rfl (by omega) (by decide) dL_isNet_71 rfl ?_
            refine v_icmp_eqN C0 79 (pc' := 75) (by have := hb i_A; omega) (by have := hf i_A; omega) dL_isNet_72 (by decide) rfl (fun h27 => ?_) (fun h27 => ?_)
            · refine v_iconst C0 (pc' := 80) (nI 0) (by decide +kernel) dL_isNet_79 rfl ?_
              refine v_iaddN C0 (pc' := 81) dL_isNet_80 rfl ?_
              have e_wr : wrF xf xb i_A (lp (wrF xf xb) i_A 0) = (lp (wrF xf xb) i_A 0) + 0 := by simp only [wrF, if_neg h26, if_pos h27]
              rw [e_wr] at J_wr
              exact v_sub (lv' := [(14, .int (nI i_A)), (12, .int (nI (lp (wrF xf xb) i_A 0))), (13, .int (nI 1)), (0, .ref (ad 0)), (1, .ref na), (2, .ref ua), (3, .ref ta), (4, .ref fa), (5, .ref ca), (6, .ref ba), (7, .int (nI xX)), (8, .ref qd), (9, .ref qm), (10, .long (nJ (s_L_live xn xf xc)))]) [0, 1, 2, 3, 4, 5, 6, 7, 8, 9, 10, 11, 12, 13] rfl J_wr
            · refine v_iconst C0 (pc' := 76) (nI 1) (by decide +kernel) dL_isNet_75 rfl ?_
              refine v_goto C0 80 dL_isNet_76 (by decide) ?_
              refine v_iaddN C0 (pc' := 81) dL_isNet_80 rfl ?_
              have e_wr : wrF xf xb i_A (lp (wrF xf xb) i_A 0) = (lp (wrF xf xb) i_A 0) + 1 := by simp only [wrF, if_neg h26, if_neg h27]
              rw [e_wr] at J_wr
              exact v_sub (lv' := [(14, .int (nI i_A)), (12, .int (nI (lp (wrF xf xb) i_A 0))), (13, .int (nI 1)), (0, .ref (ad 0)), (1, .ref na), (2, .ref ua), (3, .ref ta), (4, .ref fa), (5, .ref ca), (6, .ref ba), (7, .int (nI xX)), (8, .ref qd), (9, .ref qm), (10, .long (nJ (s_L_live xn xf xc)))]) [0, 1, 2, 3, 4, 5, 6, 7, 8, 9, 10, 11, 12, 13] rfl J_wr
        refine v_istore C0 (lv' := [(12, .int (nI (wrF xf xb i_A (lp (wrF xf xb) i_A 0)))), (14, .int (nI i_A)), (13, .int (nI 1)), (0, .ref (ad 0)), (1, .ref na), (2, .ref ua), (3, .ref ta), (4, .ref fa), (5, .ref ca), (6, .ref ba), (7, .int (nI xX)), (8, .ref qd), (9, .ref qm), (10, .long (nJ (s_L_live xn xf xc)))]) (pc' := 83) (by decide) rfl dL_isNet_81 rfl ?_
        refine v_iload C0 (pc' := 85) 1 rfl dL_isNet_83 rfl ?_
        refine v_iload C0 (pc' := 87) 10 rfl dL_isNet_85 rfl ?_
        refine v_iaddN C0 (pc' := 88) dL_isNet_87 rfl ?_
        refine v_iconst C0 (pc' := 89) (nI 5) (by decide +kernel) dL_isNet_88 rfl ?_
        refine v_iremN C0 (pc' := 90) (by omega) (by decide) (by decide) dL_isNet_89 rfl ?_
        refine v_if_neN C0 350 (pc' := 93) (by omega) dL_isNet_90 (by decide) rfl (fun h28 => ?_) (fun h28 => ?_)
        · refine v_iincN C0 (lv' := [(14, .int (nI (i_A + 1))), (12, .int (nI (wrF xf xb i_A (lp (wrF xf xb) i_A 0)))), (13, .int (nI 1)), (0, .ref (ad 0)), (1, .ref na), (2, .ref ua), (3, .ref ta), (4, .ref fa), (5, .ref ca), (6, .ref ba), (7, .int (nI xX)), (8, .ref qd), (9, .ref qm), (10, .long (nJ (s_L_live xn xf xc)))]) (y := 1) (pc' := 353) 1 rfl (by decide) rfl dL_isNet_350 rfl ?_
          refine v_goto C0 40 dL_isNet_353 (by decide) ?_
          refine v_widen (k2 := 3 + 3 * (i_A + 1)) (n2 := 78 + 18 * (i_A + 1)) (by omega) (by omega) ?_
          have z_A := ih_A (i_A + 1)  (by omega) 
          exact v_sub (lv' := [(14, .int (nI (i_A + 1))), (12, .int (nI (wrF xf xb i_A (lp (wrF xf xb) i_A 0)))), (13, .int (nI 1)), (0, .ref (ad 0)), (1, .ref na), (2, .ref ua), (3, .ref ta), (4, .ref fa), (5, .ref ca), (6, .ref ba), (7, .int (nI xX)), (8, .ref qd), (9, .ref qm), (10, .long (nJ (s_L_live xn xf xc)))]) [0, 1, 2, 3, 4, 5, 6, 7, 8, 9, 10, 11, 12, 13] rfl z_A
        · refine v_iconst C0 (pc' := 94) (nI 1) (by decide +kernel) dL_isNet_93 rfl ?_
          refine v_iload C0 (pc' := 96) 10 rfl dL_isNet_94 rfl ?_
          refine v_iconst C0 (pc' := 97) (nI 5) (by decide +kernel) dL_isNet_96 rfl ?_
          refine v_idivN C0 (pc' := 98) (by omega) (by decide) (by decide) dL_isNet_97 rfl ?_
          refine v_iload C0 (pc' := 100) 1 rfl dL_isNet_98 rfl ?_
          refine v_iaddN C0 (pc' := 101) dL_isNet_100 rfl ?_
          refine v_iconst C0 (pc' := 102) (nI 4) (by decide +kernel) dL_isNet_101 rfl ?_
          refine v_iremN C0 (pc' := 103) (by omega) (by decide) (by decide) dL_isNet_102 rfl ?_
          refine v_iaddN C0 (pc' := 104) dL_isNet_103 rfl ?_
          obtain ⟨la, e_la, h_la⟩ : ∃ z, 1 + (((xX / 5) + i_A) % 4) = z ∧ 1 ≤ z ∧ z < 16 := ⟨_, rfl, by omega⟩
          refine v_eqn e_la ?_
          refine v_istore C0 (lv' := [(15, .int (nI la)), (12, .int (nI (wrF xf xb i_A (lp (wrF xf xb) i_A 0)))), (14, .int (nI i_A)), (13, .int (nI 1)), (0, .ref (ad 0)), (1, .ref na), (2, .ref ua), (3, .ref ta), (4, .ref fa), (5, .ref ca), (6, .ref ba), (7, .int (nI xX)), (8, .ref qd), (9, .ref qm), (10, .long (nJ (s_L_live xn xf xc)))]) (pc' := 106) (by decide) rfl dL_isNet_104 rfl ?_
          by_cases h29 : xf i_A = 0
          · refine v_aload C0 (pc' := 108) 8 rfl dL_isNet_106 rfl ?_
            refine v_iload C0 (pc' := 110) 2 rfl dL_isNet_108 rfl ?_
            refine v_ialdN C0 hK (pc' := 111) 4 0 rfl rfl (by omega) (by decide) dL_isNet_110 rfl ?_
            refine v_iconst C0 (pc' := 112) (nI 1) (by decide +kernel) dL_isNet_111 rfl ?_
            refine v_isub C0 (pc' := 113) dL_isNet_112 rfl ?_
            refine v_istore C0 (lv' := [(16, .int (nI (xf i_A) - nI 1)), (15, .int (nI la)), (12, .int (nI (wrF xf xb i_A (lp (wrF xf xb) i_A 0)))), (14, .int (nI i_A)), (13, .int (nI 1)), (0, .ref (ad 0)), (1, .ref na), (2, .ref ua), (3, .ref ta), (4, .ref fa), (5, .ref ca), (6, .ref ba), (7, .int (nI xX)), (8, .ref qd), (9, .ref qm), (10, .long (nJ (s_L_live xn xf xc)))]) (pc' := 115) (by decide) rfl dL_isNet_113 rfl ?_
            refine v_aload C0 (pc' := 117) 9 rfl dL_isNet_115 rfl ?_
            refine v_iload C0 (pc' := 119) 3 rfl dL_isNet_117 rfl ?_
            refine v_ialdN C0 hK (pc' := 120) 4 0 rfl rfl (by omega) (by decide) dL_isNet_119 rfl ?_
            refine v_if_neN C0 127 (pc' := 123) (by have := hf i_A; omega) dL_isNet_120 (by decide) rfl (fun h30 => ?_) (fun h30 => ?_)
            · exact absurd h29 h30
            · refine v_iconst C0 (pc' := 124) (nI 0) (by decide +kernel) dL_isNet_123 rfl ?_
              refine v_goto C0 140 dL_isNet_124 (by decide) ?_
              refine v_istore C0 (lv' := [(17, .int (nI 0)), (16, .int (nI (xf i_A) - nI 1)), (15, .int (nI la)), (12, .int (nI (wrF xf xb i_A (lp (wrF xf xb) i_A 0)))), (14, .int (nI i_A)), (13, .int (nI 1)), (0, .ref (ad 0)), (1, .ref na), (2, .ref ua), (3, .ref ta), (4, .ref fa), (5, .ref ca), (6, .ref ba), (7, .int (nI xX)), (8, .ref qd), (9, .ref qm), (10, .long (nJ (s_L_live xn xf xc)))]) (pc' := 142) (by decide) rfl dL_isNet_140 rfl ?_
              refine v_iconst C0 (pc' := 143) (-1) (by decide) dL_isNet_142 rfl ?_
              refine v_istore C0 (lv' := [(18, .int (-1)), (17, .int (nI 0)), (16, .int (nI (xf i_A) - nI 1)), (15, .int (nI la)), (12, .int (nI (wrF xf xb i_A (lp (wrF xf xb) i_A 0)))), (14, .int (nI i_A)), (13, .int (nI 1)), (0, .ref (ad 0)), (1, .ref na), (2, .ref ua), (3, .ref ta), (4, .ref fa), (5, .ref ca), (6, .ref ba), (7, .int (nI xX)), (8, .ref qd), (9, .ref qm), (10, .long (nJ (s_L_live xn xf xc)))]) (pc' := 145) (by decide) rfl dL_isNet_143 rfl ?_
              refine v_iconst C0 (pc' := 146) (nI 1) (by decide +kernel) dL_isNet_145 rfl ?_
              refine v_istore C0 (lv' := [(19, .int (nI 1)), (18, .int (-1)), (17, .int (nI 0)), (16, .int (nI (xf i_A) - nI 1)), (15, .int (nI la)), (12, .int (nI (wrF xf xb i_A (lp (wrF xf xb) i_A 0)))), (14, .int (nI i_A)), (13, .int (nI 1)), (0, .ref (ad 0)), (1, .ref na), (2, .ref ua), (3, .ref ta), (4, .ref fa), (5, .ref ca), (6, .ref ba), (7, .int (nI xX)), (8, .ref qd), (9, .ref qm), (10, .long (nJ (s_L_live xn xf xc)))]) (pc' := 148) (by decide) rfl dL_isNet_146 rfl ?_
              suffices LP_as : ∀ (j_as i_as : Nat), i_as + j_as = 15 → V p l e { frames := 9, cells := 1435, slots := 8850, locals := 189 } s m args below meth c D A 23 (3 + 3 * i_A) (78 + 18 * i_A) (MQ below (QE D (TI cI) (fun w => [(ba, .inl (cI, 36, .inl (nA xb))), (ca, .inl (cI, 36, .inl (nA xc))), (fa, .inl (cI, 36, .inl (nA xf))), (ta, .inl (cI, 36, .inl (nA xt))), (ua, .inl (cI, 36, .inl (nA xu))), (na, .inl (cI, 2, .inl (nA xn)))] ++ w) (fun w => WQ cI ad xu xt xf xc xb xn w) A 1) args s 1435 8850 A) ([(qm, .inl (cI, 6, .inl (nA (fun _ => 0)))), (qd, .inl (cI, 36, .inl (nA (D0 xf xc)))), (ba, .inl (cI, 36, .inl (nA xb))), (ca, .inl (cI, 36, .inl (nA xc))), (fa, .inl (cI, 36, .inl (nA xf))), (ta, .inl (cI, 36, .inl (nA xt))), (ua, .inl (cI, 36, .inl (nA xu))), (na, .inl (cI, 2, .inl (nA xn)))] ++ wx) [(19, .int (nI (i_as + 1))), (18, .int (aI (lp (asF 0) i_as 16))), (0, .ref (ad 0)), (1, .ref na), (2, .ref ua), (3, .ref ta), (4, .ref fa), (5, .ref ca), (6, .ref ba), (7, .int (nI xX)), (8, .ref qd), (9, .ref qm), (10, .long (nJ (s_L_live xn xf xc))), (12, .int (nI (wrF xf xb i_A (lp (wrF xf xb) i_A 0)))), (13, .int (nI 1)), (14, .int (nI i_A)), (15, .int (nI la)), (16, .int (nI (xf i_A) - nI 1)), (17, .int (nI 0))] 148 [] by
                exact v_sub (lv' := [(19, .int (nI 1)), (18, .int (-1)), (0, .ref (ad 0)), (1, .ref na), (2, .ref ua), (3, .ref ta), (4, .ref fa), (5, .ref ca), (6, .ref ba), (7, .int (nI xX)), (8, .ref qd), (9, .ref qm), (10, .long (nJ (s_L_live xn xf xc))), (12, .int (nI (wrF xf xb i_A (lp (wrF xf xb) i_A 0)))), (13, .int (nI 1)), (14, .int (nI i_A)), (15, .int (nI la)), (16, .int (nI (xf i_A) - nI 1)), (17, .int (nI 0))]) [0, 1, 8, 9, 10, 11, 12, 13, 14, 15, 16, 17, 18, 5, 7, 6, 4, 3, 2] rfl (LP_as 15 0  (Nat.zero_add _) )
              intro j_as
              induction j_as with
              | zero =>
                intro i_as  hi_as 
                obtain rfl : i_as = 15 := by omega
                refine v_widen (k2 := 3 + 3 * i_A) (n2 := 78 + 18 * i_A) (by omega) (by omega) ?_
                refine v_iload C0 (pc' := 150) 0 rfl dL_isNet_148 rfl ?_
                refine v_bipush C0 (pc' := 152) (nI 16) (by decide +kernel) dL_isNet_150 rfl ?_
                refine v_icmp_geN C0 181 (pc' := 155) (by omega) (by omega) dL_isNet_152 (by decide) rfl (fun h31 => ?_) (fun h31 => ?_)
                · refine v_aload_n C0 (pc' := 182) 2 rfl rfl dL_isNet_181 rfl ?_
                  refine v_iload C0 (pc' := 184) 15 rfl dL_isNet_182 rfl ?_
                  refine v_bipush C0 (pc' := 186) (nI 6) (by decide +kernel) dL_isNet_184 rfl ?_
                  refine v_idivN C0 (pc' := 187) (by omega) (by decide) (by decide) dL_isNet_186 rfl ?_
                  refine v_iload C0 (pc' := 189) 15 rfl dL_isNet_187 rfl ?_
                  refine v_bipush C0 (pc' := 191) (nI 6) (by decide +kernel) dL_isNet_189 rfl ?_
                  refine v_iremN C0 (pc' := 192) (by omega) (by decide) (by decide) dL_isNet_191 rfl ?_
                  have c11 := p_far l D hL hw (k := i_A) (by omega)
                  rw [if_pos h29] at c11
                  obtain ⟨f11, x11⟩ := (hw).x0
                  refine v_callVi0 C0 (av := [.int (nI (i_A / 6)), .int (nI (i_A % 6))]) (rest := []) (ws' := [(qm, .inl (cI, 6, .inl (nA (fun _ => 0)))), (qd, .inl (cI, 36, .inl (nA (D0 xf xc)))), (ba, .inl (cI, 36, .inl (nA xb))), (ca, .inl (cI, 36, .inl (nA xc))), (fa, .inl (cI, 36, .inl (nA xf))), (ta, .inl (cI, 36, .inl (nA xt))), (ua, .inl (cI, 36, .inl (nA xu))), (na, .inl (cI, 2, .inl (nA xn)))] ++ wx) (pc' := 195) hK hA c11 (cwV 2 C0.2.2.2.2 gL_isNet_X0_far rfl rfl rfl (by decide +kernel) ⟨Nat.le_of_ble_eq_true rfl, Nat.le_of_ble_eq_true rfl⟩) ⟨_, 0, _, _, _, rfl, ap_r (A := [(qm, .inl (cI, 6, .inl (nA (fun _ => 0)))), (qd, .inl (cI, 36, .inl (nA (D0 xf xc)))), (ba, .inl (cI, 36, .inl (nA xb))), (ca, .inl (cI, 36, .inl (nA xc))), (fa, .inl (cI, 36, .inl (nA xf))), (ta, .inl (cI, 36, .inl (nA xt))), (ua, .inl (cI, 36, .inl (nA xu))), (na, .inl (cI, 2, .inl (nA xn)))]) x11⟩ (PLs.rt (P := [(qm, .inl (cI, 6, .inl (nA (fun _ => 0)))), (qd, .inl (cI, 36, .inl (nA (D0 xf xc)))), (ba, .inl (cI, 36, .inl (nA xb))), (ca, .inl (cI, 36, .inl (nA xc))), (fa, .inl (cI, 36, .inl (nA xf))), (ta, .inl (cI, 36, .inl (nA xt))), (ua, .inl (cI, 36, .inl (nA xu))), (na, .inl (cI, 2, .inl (nA xn)))])) rfl rfl (Nat.le_of_ble_eq_true rfl) ⟨(by show 3 + 3 * i_A ≤ 1435; omega), (by show 78 + 18 * i_A ≤ 8850; omega)⟩ dL_isNet_192 rfl ?_
                  refine v_aload C0 (pc' := 197) 6 rfl dL_isNet_195 rfl ?_
                  refine v_iload C0 (pc' := 199) 15 rfl dL_isNet_197 rfl ?_
                  refine v_ialdN C0 hK (pc' := 200) 4 0 rfl rfl (by omega) (by decide) dL_isNet_199 rfl ?_
                  refine v_if_neN C0 207 (pc' := 203) (by have := hf i_A; omega) dL_isNet_200 (by decide) rfl (fun h32 => ?_) (fun h32 => ?_)
                  · exact absurd h29 h32
                  · refine v_iconst C0 (pc' := 204) (-1) (by decide) dL_isNet_203 rfl ?_
                    refine v_goto C0 221 dL_isNet_204 (by decide) ?_
                    refine v_icmp_ne C0 347 (pc' := 224) dL_isNet_221 (by decide) rfl (fun h33 => ?_) (fun h33 => ?_)
                    · exact absurd (by decide) h33
                    · refine v_aload_n C0 (pc' := 225) 2 rfl rfl dL_isNet_224 rfl ?_
                      refine v_iconst C0 (pc' := 226) (nI 2) (by decide +kernel) dL_isNet_225 rfl ?_
                      refine v_iload C0 (pc' := 228) 15 rfl dL_isNet_226 rfl ?_
                      refine v_bipush C0 (pc' := 230) (nI 6) (by decide +kernel) dL_isNet_228 rfl ?_
                      refine v_idivN C0 (pc' := 231) (by omega) (by decide) (by decide) dL_isNet_230 rfl ?_
                      refine v_iload C0 (pc' := 233) 15 rfl dL_isNet_231 rfl ?_
                      refine v_bipush C0 (pc' := 235) (nI 6) (by decide +kernel) dL_isNet_233 rfl ?_
                      refine v_iremN C0 (pc' := 236) (by omega) (by decide) (by decide) dL_isNet_235 rfl ?_
                      refine v_iconst C0 (pc' := 237) (nI 0) (by decide +kernel) dL_isNet_236 rfl ?_
                      have c12 := d_isOn l hst D hL hw (k := i_A) (by omega)
                      rw [if_pos h29] at c12
                      refine v_callSE C0 (av := [.ref (ad 0), .int (nI 2), .int (nI (i_A / 6)), .int (nI (i_A % 6)), .int (nI 0)]) (rest := []) (ws' := [(qm, .inl (cI, 6, .inl (nA (fun _ => 0)))), (qd, .inl (cI, 36, .inl (nA (D0 xf xc)))), (ba, .inl (cI, 36, .inl (nA xb))), (ca, .inl (cI, 36, .inl (nA xc))), (fa, .inl (cI, 36, .inl (nA xf))), (ta, .inl (cI, 36, .inl (nA xt))), (ua, .inl (cI, 36, .inl (nA xu))), (na, .inl (cI, 2, .inl (nA xn)))] ++ wx) (pc' := 240) hK hA hEN c12 (vx_cwSW 5 C0.2.2.2.2 gL_isNet_L_does rfl rfl rfl (by decide +kernel) ⟨Nat.le_of_ble_eq_true rfl, Nat.le_of_ble_eq_true rfl⟩) (PLs.rt (P := [(qm, .inl (cI, 6, .inl (nA (fun _ => 0)))), (qd, .inl (cI, 36, .inl (nA (D0 xf xc)))), (ba, .inl (cI, 36, .inl (nA xb))), (ca, .inl (cI, 36, .inl (nA xc))), (fa, .inl (cI, 36, .inl (nA xf))), (ta, .inl (cI, 36, .inl (nA xt))), (ua, .inl (cI, 36, .inl (nA xu))), (na, .inl (cI, 2, .inl (nA xn)))])) rfl rfl (Nat.le_of_ble_eq_true rfl) ⟨(by show 3 + 3 * i_A + 1 ≤ 1435; omega), (by show 78 + 18 * i_A + 6 ≤ 8850; omega)⟩ dL_isNet_237 rfl ?_
                      refine v_aload C0 (pc' := 242) 6 rfl dL_isNet_240 rfl ?_
                      refine v_iload C0 (pc' := 244) 15 rfl dL_isNet_242 rfl ?_
                      refine v_ialdN C0 hK (pc' := 245) 4 0 rfl rfl (by omega) (by decide) dL_isNet_244 rfl ?_
                      refine v_if_neN C0 253 (pc' := 248) (by have := hf i_A; omega) dL_isNet_245 (by decide) rfl (fun h34 => ?_) (fun h34 => ?_)
                      · exact absurd h29 h34
                      · refine v_bipush C0 (pc' := 250) (-14) (by decide) dL_isNet_248 rfl ?_
                        refine v_goto C0 261 dL_isNet_250 (by decide) ?_
                        refine v_icmp_ne C0 347 (pc' := 264) dL_isNet_261 (by decide) rfl (fun h35 => ?_) (fun h35 => ?_)
                        · exact absurd (by decide) h35
                        · refine v_aload_n C0 (pc' := 265) 2 rfl rfl dL_isNet_264 rfl ?_
                          refine v_iconst C0 (pc' := 266) (nI 3) (by decide +kernel) dL_isNet_265 rfl ?_
                          refine v_iload C0 (pc' := 268) 15 rfl dL_isNet_266 rfl ?_
                          refine v_bipush C0 (pc' := 270) (nI 6) (by decide +kernel) dL_isNet_268 rfl ?_
                          refine v_idivN C0 (pc' := 271) (by omega) (by decide) (by decide) dL_isNet_270 rfl ?_
                          refine v_iload C0 (pc' := 273) 15 rfl dL_isNet_271 rfl ?_
                          refine v_bipush C0 (pc' := 275) (nI 6) (by decide +kernel) dL_isNet_273 rfl ?_
                          refine v_iremN C0 (pc' := 276) (by omega) (by decide) (by decide) dL_isNet_275 rfl ?_
                          refine v_iload C0 (pc' := 278) 16 rfl dL_isNet_276 rfl ?_
                          have c13 := d_comesAs l hst D hL hw (k := i_A) (by omega) (a := la) (by omega) (by omega)
                          rw [if_pos h29] at c13
                          refine v_callSE C0 (av := [.ref (ad 0), .int (nI 3), .int (nI (i_A / 6)), .int (nI (i_A % 6)), .int (nI la)]) (rest := []) (ws' := [(qm, .inl (cI, 6, .inl (nA (fun _ => 0)))), (qd, .inl (cI, 36, .inl (nA (D0 xf xc)))), (ba, .inl (cI, 36, .inl (nA xb))), (ca, .inl (cI, 36, .inl (nA xc))), (fa, .inl (cI, 36, .inl (nA xf))), (ta, .inl (cI, 36, .inl (nA xt))), (ua, .inl (cI, 36, .inl (nA xu))), (na, .inl (cI, 2, .inl (nA xn)))] ++ wx) (pc' := 281) hK hA hEN c13 (vx_cwSW 5 C0.2.2.2.2 gL_isNet_L_does rfl rfl rfl (by decide +kernel) ⟨Nat.le_of_ble_eq_true rfl, Nat.le_of_ble_eq_true rfl⟩) (PLs.rt (P := [(qm, .inl (cI, 6, .inl (nA (fun _ => 0)))), (qd, .inl (cI, 36, .inl (nA (D0 xf xc)))), (ba, .inl (cI, 36, .inl (nA xb))), (ca, .inl (cI, 36, .inl (nA xc))), (fa, .inl (cI, 36, .inl (nA xf))), (ta, .inl (cI, 36, .inl (nA xt))), (ua, .inl (cI, 36, .inl (nA xu))), (na, .inl (cI, 2, .inl (nA xn)))])) rfl rfl (Nat.le_of_ble_eq_true rfl) ⟨(by show (3 + 3 * i_A) + 1 + 1 ≤ 1435; omega), (by show (78 + 18 * i_A) + 6 + 6 ≤ 8850; omega)⟩ dL_isNet_278 rfl ?_
                          refine v_aload C0 (pc' := 283) 6 rfl dL_isNet_281 rfl ?_
                          refine v_iload C0 (pc' := 285) 15 rfl dL_isNet_283 rfl ?_
                          refine v_ialdN C0 hK (pc' := 286) 4 0 rfl rfl (by omega) (by decide) dL_isNet_285 rfl ?_
                          refine v_if_neN C0 294 (pc' := 289) (by have := hf i_A; omega) dL_isNet_286 (by decide) rfl (fun h36 => ?_) (fun h36 => ?_)
                          · exact absurd h29 h36
                          · refine v_bipush C0 (pc' := 291) (-14) (by decide) dL_isNet_289 rfl ?_
                            refine v_goto C0 296 dL_isNet_291 (by decide) ?_
                            refine v_icmp_ne C0 347 (pc' := 299) dL_isNet_296 (by decide) rfl (fun h37 => ?_) (fun h37 => ?_)
                            · exact absurd (by decide) h37
                            · refine v_aload_n C0 (pc' := 300) 2 rfl rfl dL_isNet_299 rfl ?_
                              refine v_iconst C0 (pc' := 301) (nI 4) (by decide +kernel) dL_isNet_300 rfl ?_
                              refine v_iload C0 (pc' := 303) 15 rfl dL_isNet_301 rfl ?_
                              refine v_bipush C0 (pc' := 305) (nI 6) (by decide +kernel) dL_isNet_303 rfl ?_
                              refine v_idivN C0 (pc' := 306) (by omega) (by decide) (by decide) dL_isNet_305 rfl ?_
                              refine v_iload C0 (pc' := 308) 15 rfl dL_isNet_306 rfl ?_
                              refine v_bipush C0 (pc' := 310) (nI 6) (by decide +kernel) dL_isNet_308 rfl ?_
                              refine v_iremN C0 (pc' := 311) (by omega) (by decide) (by decide) dL_isNet_310 rfl ?_
                              refine v_iconst C0 (pc' := 312) (nI 0) (by decide +kernel) dL_isNet_311 rfl ?_
                              have c14 := d_oneSided l hst D hL hw (k := i_A) (by omega)
                              rw [if_pos h29] at c14
                              refine v_callSE C0 (av := [.ref (ad 0), .int (nI 4), .int (nI (i_A / 6)), .int (nI (i_A % 6)), .int (nI 0)]) (rest := []) (ws' := [(qm, .inl (cI, 6, .inl (nA (fun _ => 0)))), (qd, .inl (cI, 36, .inl (nA (D0 xf xc)))), (ba, .inl (cI, 36, .inl (nA xb))), (ca, .inl (cI, 36, .inl (nA xc))), (fa, .inl (cI, 36, .inl (nA xf))), (ta, .inl (cI, 36, .inl (nA xt))), (ua, .inl (cI, 36, .inl (nA xu))), (na, .inl (cI, 2, .inl (nA xn)))] ++ wx) (pc' := 315) hK hA hEN c14 (vx_cwSW 5 C0.2.2.2.2 gL_isNet_L_does rfl rfl rfl (by decide +kernel) ⟨Nat.le_of_ble_eq_true rfl, Nat.le_of_ble_eq_true rfl⟩) (PLs.rt (P := [(qm, .inl (cI, 6, .inl (nA (fun _ => 0)))), (qd, .inl (cI, 36, .inl (nA (D0 xf xc)))), (ba, .inl (cI, 36, .inl (nA xb))), (ca, .inl (cI, 36, .inl (nA xc))), (fa, .inl (cI, 36, .inl (nA xf))), (ta, .inl (cI, 36, .inl (nA xt))), (ua, .inl (cI, 36, .inl (nA xu))), (na, .inl (cI, 2, .inl (nA xn)))])) rfl rfl (Nat.le_of_ble_eq_true rfl) ⟨(by show ((3 + 3 * i_A) + 1) + 1 + 1 ≤ 1435; omega), (by show ((78 + 18 * i_A) + 6) + 6 + 6 ≤ 8850; omega)⟩ dL_isNet_312 rfl ?_
                              refine v_aload C0 (pc' := 317) 6 rfl dL_isNet_315 rfl ?_
                              refine v_iload C0 (pc' := 319) 15 rfl dL_isNet_317 rfl ?_
                              refine v_ialdN C0 hK (pc' := 320) 4 0 rfl rfl (by omega) (by decide) dL_isNet_319 rfl ?_
                              refine v_if_neN C0 328 (pc' := 323) (by have := hf i_A; omega) dL_isNet_320 (by decide) rfl (fun h38 => ?_) (fun h38 => ?_)
                              · exact absurd h29 h38
                              · refine v_bipush C0 (pc' := 325) (-14) (by decide) dL_isNet_323 rfl ?_
                                refine v_goto C0 340 dL_isNet_325 (by decide) ?_
                                refine v_icmp_ne C0 347 (pc' := 343) dL_isNet_340 (by decide) rfl (fun h39 => ?_) (fun h39 => ?_)
                                · exact absurd (by decide) h39
                                · refine v_iconst C0 (pc' := 344) (nI 1) (by decide +kernel) dL_isNet_343 rfl ?_
                                  refine v_goto C0 348 dL_isNet_344 (by decide) ?_
                                  refine v_istore C0 (lv' := [(13, .int (nI 1)), (19, .int (nI (15 + 1))), (18, .int (aI (lp (asF 0) 15 16))), (0, .ref (ad 0)), (1, .ref na), (2, .ref ua), (3, .ref ta), (4, .ref fa), (5, .ref ca), (6, .ref ba), (7, .int (nI xX)), (8, .ref qd), (9, .ref qm), (10, .long (nJ (s_L_live xn xf xc))), (12, .int (nI (wrF xf xb i_A (lp (wrF xf xb) i_A 0)))), (14, .int (nI i_A)), (15, .int (nI la)), (16, .int (nI (xf i_A) - nI 1)), (17, .int (nI 0))]) (pc' := 350) (by decide) rfl dL_isNet_348 rfl ?_
                                  refine v_iincN C0 (lv' := [(14, .int (nI (i_A + 1))), (13, .int (nI 1)), (19, .int (nI (15 + 1))), (18, .int (aI (lp (asF 0) 15 16))), (0, .ref (ad 0)), (1, .ref na), (2, .ref ua), (3, .ref ta), (4, .ref fa), (5, .ref ca), (6, .ref ba), (7, .int (nI xX)), (8, .ref qd), (9, .ref qm), (10, .long (nJ (s_L_live xn xf xc))), (12, .int (nI (wrF xf xb i_A (lp (wrF xf xb) i_A 0)))), (15, .int (nI la)), (16, .int (nI (xf i_A) - nI 1)), (17, .int (nI 0))]) (y := 1) (pc' := 353) 15 rfl (by decide) rfl dL_isNet_350 rfl ?_
                                  refine v_goto C0 40 dL_isNet_353 (by decide) ?_
                                  refine v_widen (k2 := 3 + 3 * (i_A + 1)) (n2 := 78 + 18 * (i_A + 1)) (by omega) (by omega) ?_
                                  have z_A := ih_A (i_A + 1)  (by omega) 
                                  exact v_sub (lv' := [(14, .int (nI (i_A + 1))), (12, .int (nI (wrF xf xb i_A (lp (wrF xf xb) i_A 0)))), (13, .int (nI 1)), (0, .ref (ad 0)), (1, .ref na), (2, .ref ua), (3, .ref ta), (4, .ref fa), (5, .ref ca), (6, .ref ba), (7, .int (nI xX)), (8, .ref qd), (9, .ref qm), (10, .long (nJ (s_L_live xn xf xc)))]) [0, 15, 1, 4, 5, 6, 7, 8, 9, 10, 11, 12, 13, 14] rfl z_A
                · exact absurd (by omega) h31
              | succ j_as ih_as =>
                intro i_as  hi_as 
                refine v_iload C0 (pc' := 150) 0 rfl dL_isNet_148 rfl ?_
                refine v_bipush C0 (pc' := 152) (nI 16) (by decide +kernel) dL_isNet_150 rfl ?_
                refine v_icmp_geN C0 181 (pc' := 155) (by omega) (by omega) dL_isNet_152 (by decide) rfl (fun h40 => ?_) (fun h40 => ?_)
                · exact absurd h40 (by omega)
                · refine v_iload C0 (pc' := 157) 18 rfl dL_isNet_155 rfl ?_
                  refine v_iload C0 (pc' := 159) 0 rfl dL_isNet_157 rfl ?_
                  refine v_ishrN C0 (pc' := 160) (by omega) (by omega) dL_isNet_159 rfl ?_
                  refine v_iconst C0 (pc' := 161) (nI 1) (by decide +kernel) dL_isNet_160 rfl ?_
                  refine v_iand1 C0 (pc' := 162) dL_isNet_161 rfl ?_
                  refine v_iconst C0 (pc' := 163) (nI 1) (by decide +kernel) dL_isNet_162 rfl ?_
                  refine v_icmp_neN C0 171 (pc' := 166) (by omega) (by omega) dL_isNet_163 (by decide) rfl (fun h41 => ?_) (fun h41 => ?_)
                  · refine v_iload C0 (pc' := 173) 1 rfl dL_isNet_171 rfl ?_
                    refine v_istore C0 (lv' := [(18, .int (aI (lp (asF 0) i_as 16))), (19, .int (nI (i_as + 1))), (0, .ref (ad 0)), (1, .ref na), (2, .ref ua), (3, .ref ta), (4, .ref fa), (5, .ref ca), (6, .ref ba), (7, .int (nI xX)), (8, .ref qd), (9, .ref qm), (10, .long (nJ (s_L_live xn xf xc))), (12, .int (nI (wrF xf xb i_A (lp (wrF xf xb) i_A 0)))), (13, .int (nI 1)), (14, .int (nI i_A)), (15, .int (nI la)), (16, .int (nI (xf i_A) - nI 1)), (17, .int (nI 0))]) (pc' := 175) (by decide) rfl dL_isNet_173 rfl ?_
                    refine v_iincN C0 (lv' := [(19, .int (nI ((i_as + 1) + 1))), (18, .int (aI (lp (asF 0) i_as 16))), (0, .ref (ad 0)), (1, .ref na), (2, .ref ua), (3, .ref ta), (4, .ref fa), (5, .ref ca), (6, .ref ba), (7, .int (nI xX)), (8, .ref qd), (9, .ref qm), (10, .long (nJ (s_L_live xn xf xc))), (12, .int (nI (wrF xf xb i_A (lp (wrF xf xb) i_A 0)))), (13, .int (nI 1)), (14, .int (nI i_A)), (15, .int (nI la)), (16, .int (nI (xf i_A) - nI 1)), (17, .int (nI 0))]) (y := 1) (pc' := 178) 1 rfl (by decide) rfl dL_isNet_175 rfl ?_
                    refine v_goto C0 148 dL_isNet_178 (by decide) ?_
                    have z_as := ih_as (i_as + 1)  (by omega) 
                    have ea : aI (lp (asF 0) (i_as + 1) 16) = aI (lp (asF 0) i_as 16) := by rw [lp_succ]; unfold asF; rw [if_neg h41]
                    rw [ea] at z_as
                    exact v_sub (lv' := [(19, .int (nI ((i_as + 1) + 1))), (18, .int (aI (lp (asF 0) i_as 16))), (0, .ref (ad 0)), (1, .ref na), (2, .ref ua), (3, .ref ta), (4, .ref fa), (5, .ref ca), (6, .ref ba), (7, .int (nI xX)), (8, .ref qd), (9, .ref qm), (10, .long (nJ (s_L_live xn xf xc))), (12, .int (nI (wrF xf xb i_A (lp (wrF xf xb) i_A 0)))), (13, .int (nI 1)), (14, .int (nI i_A)), (15, .int (nI la)), (16, .int (nI (xf i_A) - nI 1)), (17, .int (nI 0))]) [0, 1, 2, 3, 4, 5, 6, 7, 8, 9, 10, 11, 12, 13, 14, 15, 16, 17, 18] rfl z_as
                  · refine v_iload C0 (pc' := 168) 0 rfl dL_isNet_166 rfl ?_
                    refine v_goto C0 173 dL_isNet_168 (by decide) ?_
                    refine v_istore C0 (lv' := [(18, .int (nI (i_as + 1))), (19, .int (nI (i_as + 1))), (0, .ref (ad 0)), (1, .ref na), (2, .ref ua), (3, .ref ta), (4, .ref fa), (5, .ref ca), (6, .ref ba), (7, .int (nI xX)), (8, .ref qd), (9, .ref qm), (10, .long (nJ (s_L_live xn xf xc))), (12, .int (nI (wrF xf xb i_A (lp (wrF xf xb) i_A 0)))), (13, .int (nI 1)), (14, .int (nI i_A)), (15, .int (nI la)), (16, .int (nI (xf i_A) - nI 1)), (17, .int (nI 0))]) (pc' := 175) (by decide) rfl dL_isNet_173 rfl ?_
                    refine v_iincN C0 (lv' := [(19, .int (nI ((i_as + 1) + 1))), (18, .int (nI (i_as + 1))), (0, .ref (ad 0)), (1, .ref na), (2, .ref ua), (3, .ref ta), (4, .ref fa), (5, .ref ca), (6, .ref ba), (7, .int (nI xX)), (8, .ref qd), (9, .ref qm), (10, .long (nJ (s_L_live xn xf xc))), (12, .int (nI (wrF xf xb i_A (lp (wrF xf xb) i_A 0)))), (13, .int (nI 1)), (14, .int (nI i_A)), (15, .int (nI la)), (16, .int (nI (xf i_A) - nI 1)), (17, .int (nI 0))]) (y := 1) (pc' := 178) 1 rfl (by decide) rfl dL_isNet_175 rfl ?_
                    refine v_goto C0 148 dL_isNet_178 (by decide) ?_
                    have z_as := ih_as (i_as + 1)  (by omega) 
                    have ea : aI (lp (asF 0) (i_as + 1) 16) = nI (i_as + 1) := by rw [lp_succ]; unfold asF; rw [if_pos h41]; exact if_pos (by omega)
                    rw [ea] at z_as
                    exact v_sub (lv' := [(19, .int (nI ((i_as + 1) + 1))), (18, .int (nI (i_as + 1))), (0, .ref (ad 0)), (1, .ref na), (2, .ref ua), (3, .ref ta), (4, .ref fa), (5, .ref ca), (6, .ref ba), (7, .int (nI xX)), (8, .ref qd), (9, .ref qm), (10, .long (nJ (s_L_live xn xf xc))), (12, .int (nI (wrF xf xb i_A (lp (wrF xf xb) i_A 0)))), (13, .int (nI 1)), (14, .int (nI i_A)), (15, .int (nI la)), (16, .int (nI (xf i_A) - nI 1)), (17, .int (nI 0))]) [0, 1, 2, 3, 4, 5, 6, 7, 8, 9, 10, 11, 12, 13, 14, 15, 16, 17, 18] rfl z_as
          · refine v_aload C0 (pc' := 108) 8 rfl dL_isNet_106 rfl ?_
            refine v_iload C0 (pc' := 110) 2 rfl dL_isNet_108 rfl ?_
            refine v_ialdN C0 hK (pc' := 111) 4 0 rfl rfl (by omega) (by decide) dL_isNet_110 rfl ?_
            refine v_iconst C0 (pc' := 112) (nI 1) (by decide +kernel) dL_isNet_111 rfl ?_
            refine v_isubN C0 (pc' := 113) (by omega) dL_isNet_112 rfl ?_
            refine v_istore C0 (lv' := [(16, .int (nI (xf i_A - 1))), (15, .int (nI la)), (12, .int (nI (wrF xf xb i_A (lp (wrF xf xb) i_A 0)))), (14, .int (nI i_A)), (13, .int (nI 1)), (0, .ref (ad 0)), (1, .ref na), (2, .ref ua), (3, .ref ta), (4, .ref fa), (5, .ref ca), (6, .ref ba), (7, .int (nI xX)), (8, .ref qd), (9, .ref qm), (10, .long (nJ (s_L_live xn xf xc)))]) (pc' := 115) (by decide) rfl dL_isNet_113 rfl ?_
            refine v_aload C0 (pc' := 117) 9 rfl dL_isNet_115 rfl ?_
            refine v_iload C0 (pc' := 119) 3 rfl dL_isNet_117 rfl ?_
            refine v_ialdN C0 hK (pc' := 120) 4 0 rfl rfl (by omega) (by decide) dL_isNet_119 rfl ?_
            refine v_if_neN C0 127 (pc' := 123) (by have := hf i_A; omega) dL_isNet_120 (by decide) rfl (fun h42 => ?_) (fun h42 => ?_)
            · refine v_aload_n C0 (pc' := 128) 7 rfl rfl dL_isNet_127 rfl ?_
              refine v_aload_n C0 (pc' := 129) 8 rfl rfl dL_isNet_128 rfl ?_
              refine v_aload C0 (pc' := 131) 9 rfl dL_isNet_129 rfl ?_
              refine v_iload C0 (pc' := 133) 3 rfl dL_isNet_131 rfl ?_
              refine v_iconst C0 (pc' := 134) (nI 1) (by decide +kernel) dL_isNet_133 rfl ?_
              refine v_iload C0 (pc' := 136) 1 rfl dL_isNet_134 rfl ?_
              refine v_ishlN C0 (pc' := 137) (by omega) dL_isNet_136 rfl ?_
              refine v_callSi C0 (av := [.ref ua, .ref ta, .ref fa, .int (nI i_A), .int (nI (2 ^ la))]) (rest := []) (ws' := [(qm, .inl (cI, 6, .inl (nA (fun _ => 0)))), (qd, .inl (cI, 36, .inl (nA (D0 xf xc)))), (ba, .inl (cI, 36, .inl (nA xb))), (ca, .inl (cI, 36, .inl (nA xc))), (fa, .inl (cI, 36, .inl (nA xf))), (ta, .inl (cI, 36, .inl (nA xt))), (ua, .inl (cI, 36, .inl (nA xu))), (na, .inl (cI, 2, .inl (nA xn)))] ++ wx) (pc' := 140) hK hA (k_L_comes l D cI ua ta fa xu xt xf i_A (2 ^ la) hu ht hf (by omega) (by have := hf i_A; omega) (pow_lt16 (by omega))) (va_cwS 5 C0.2.2.2.2 gL_isNet_L_comes rfl rfl rfl (by decide +kernel) ⟨Nat.le_of_ble_eq_true rfl, Nat.le_of_ble_eq_true rfl⟩) (PLs.lfs (PLs.of (isC := [6, 5, 4]) (isR := [0, 1, 2, 3, 7]) (isP := [0, 1, 2, 3, 7, 6, 5, 4]) (wr := [(qm, .inl (cI, 6, .inl (nA (fun _ => 0)))), (qd, .inl (cI, 36, .inl (nA (D0 xf xc)))), (ba, .inl (cI, 36, .inl (nA xb))), (ca, .inl (cI, 36, .inl (nA xc))), (na, .inl (cI, 2, .inl (nA xn)))]) ⟨rfl, by decide, rfl, by decide, by decide, rfl, by decide⟩)) rfl rfl (Nat.le_of_ble_eq_true rfl) ⟨(by show 3 + 3 * i_A + 0 ≤ 1435; omega), (by show 78 + 18 * i_A + 0 ≤ 8850; omega)⟩ dL_isNet_137 rfl ?_
              refine v_istore C0 (lv' := [(17, .int (nI (s_L_comes xu xt xf i_A (2 ^ la)))), (16, .int (nI (xf i_A - 1))), (15, .int (nI la)), (12, .int (nI (wrF xf xb i_A (lp (wrF xf xb) i_A 0)))), (14, .int (nI i_A)), (13, .int (nI 1)), (0, .ref (ad 0)), (1, .ref na), (2, .ref ua), (3, .ref ta), (4, .ref fa), (5, .ref ca), (6, .ref ba), (7, .int (nI xX)), (8, .ref qd), (9, .ref qm), (10, .long (nJ (s_L_live xn xf xc)))]) (pc' := 142) (by decide) rfl dL_isNet_140 rfl ?_
              refine v_iconst C0 (pc' := 143) (-1) (by decide) dL_isNet_142 rfl ?_
              refine v_istore C0 (lv' := [(18, .int (-1)), (17, .int (nI (s_L_comes xu xt xf i_A (2 ^ la)))), (16, .int (nI (xf i_A - 1))), (15, .int (nI la)), (12, .int (nI (wrF xf xb i_A (lp (wrF xf xb) i_A 0)))), (14, .int (nI i_A)), (13, .int (nI 1)), (0, .ref (ad 0)), (1, .ref na), (2, .ref ua), (3, .ref ta), (4, .ref fa), (5, .ref ca), (6, .ref ba), (7, .int (nI xX)), (8, .ref qd), (9, .ref qm), (10, .long (nJ (s_L_live xn xf xc)))]) (pc' := 145) (by decide) rfl dL_isNet_143 rfl ?_
              refine v_iconst C0 (pc' := 146) (nI 1) (by decide +kernel) dL_isNet_145 rfl ?_
              refine v_istore C0 (lv' := [(19, .int (nI 1)), (18, .int (-1)), (17, .int (nI (s_L_comes xu xt xf i_A (2 ^ la)))), (16, .int (nI (xf i_A - 1))), (15, .int (nI la)), (12, .int (nI (wrF xf xb i_A (lp (wrF xf xb) i_A 0)))), (14, .int (nI i_A)), (13, .int (nI 1)), (0, .ref (ad 0)), (1, .ref na), (2, .ref ua), (3, .ref ta), (4, .ref fa), (5, .ref ca), (6, .ref ba), (7, .int (nI xX)), (8, .ref qd), (9, .ref qm), (10, .long (nJ (s_L_live xn xf xc)))]) (pc' := 148) (by decide) rfl dL_isNet_146 rfl ?_
              have hcm : s_L_comes xu xt xf i_A (2 ^ la) < 65536 := lt_comes hu (pow_lt16 (by omega))
              suffices LP_as : ∀ (j_as i_as : Nat), i_as + j_as = 15 → V p l e { frames := 9, cells := 1435, slots := 8850, locals := 189 } s m args below meth c D A 23 (3 + 3 * i_A) (78 + 18 * i_A) (MQ below (QE D (TI cI) (fun w => [(ba, .inl (cI, 36, .inl (nA xb))), (ca, .inl (cI, 36, .inl (nA xc))), (fa, .inl (cI, 36, .inl (nA xf))), (ta, .inl (cI, 36, .inl (nA xt))), (ua, .inl (cI, 36, .inl (nA xu))), (na, .inl (cI, 2, .inl (nA xn)))] ++ w) (fun w => WQ cI ad xu xt xf xc xb xn w) A 1) args s 1435 8850 A) ([(qm, .inl (cI, 6, .inl (nA (fun _ => 0)))), (qd, .inl (cI, 36, .inl (nA (D0 xf xc)))), (ba, .inl (cI, 36, .inl (nA xb))), (ca, .inl (cI, 36, .inl (nA xc))), (fa, .inl (cI, 36, .inl (nA xf))), (ta, .inl (cI, 36, .inl (nA xt))), (ua, .inl (cI, 36, .inl (nA xu))), (na, .inl (cI, 2, .inl (nA xn)))] ++ wx) [(19, .int (nI (i_as + 1))), (18, .int (aI (lp (asF (s_L_comes xu xt xf i_A (2 ^ la))) i_as 16))), (0, .ref (ad 0)), (1, .ref na), (2, .ref ua), (3, .ref ta), (4, .ref fa), (5, .ref ca), (6, .ref ba), (7, .int (nI xX)), (8, .ref qd), (9, .ref qm), (10, .long (nJ (s_L_live xn xf xc))), (12, .int (nI (wrF xf xb i_A (lp (wrF xf xb) i_A 0)))), (13, .int (nI 1)), (14, .int (nI i_A)), (15, .int (nI la)), (16, .int (nI (xf i_A - 1))), (17, .int (nI (s_L_comes xu xt xf i_A (2 ^ la))))] 148 [] by
                exact v_sub (lv' := [(19, .int (nI 1)), (18, .int (-1)), (0, .ref (ad 0)), (1, .ref na), (2, .ref ua), (3, .ref ta), (4, .ref fa), (5, .ref ca), (6, .ref ba), (7, .int (nI xX)), (8, .ref qd), (9, .ref qm), (10, .long (nJ (s_L_live xn xf xc))), (12, .int (nI (wrF xf xb i_A (lp (wrF xf xb) i_A 0)))), (13, .int (nI 1)), (14, .int (nI i_A)), (15, .int (nI la)), (16, .int (nI (xf i_A - 1))), (17, .int (nI (s_L_comes xu xt xf i_A (2 ^ la))))]) [0, 1, 8, 9, 10, 11, 12, 13, 14, 15, 16, 17, 18, 5, 7, 6, 4, 3, 2] rfl (LP_as 15 0  (Nat.zero_add _) )
              intro j_as
              induction j_as with
              | zero =>
                intro i_as  hi_as 
                obtain rfl : i_as = 15 := by omega
                refine v_widen (k2 := 3 + 3 * i_A) (n2 := 78 + 18 * i_A) (by omega) (by omega) ?_
                refine v_iload C0 (pc' := 150) 0 rfl dL_isNet_148 rfl ?_
                refine v_bipush C0 (pc' := 152) (nI 16) (by decide +kernel) dL_isNet_150 rfl ?_
                refine v_icmp_geN C0 181 (pc' := 155) (by omega) (by omega) dL_isNet_152 (by decide) rfl (fun h43 => ?_) (fun h43 => ?_)
                · refine v_aload_n C0 (pc' := 182) 2 rfl rfl dL_isNet_181 rfl ?_
                  refine v_iload C0 (pc' := 184) 15 rfl dL_isNet_182 rfl ?_
                  refine v_bipush C0 (pc' := 186) (nI 6) (by decide +kernel) dL_isNet_184 rfl ?_
                  refine v_idivN C0 (pc' := 187) (by omega) (by decide) (by decide) dL_isNet_186 rfl ?_
                  refine v_iload C0 (pc' := 189) 15 rfl dL_isNet_187 rfl ?_
                  refine v_bipush C0 (pc' := 191) (nI 6) (by decide +kernel) dL_isNet_189 rfl ?_
                  refine v_iremN C0 (pc' := 192) (by omega) (by decide) (by decide) dL_isNet_191 rfl ?_
                  have c15 := p_far l D hL hw (k := i_A) (by omega)
                  rw [if_neg h29] at c15
                  obtain ⟨f15, x15⟩ := (hw).x0
                  refine v_callVi0 C0 (av := [.int (nI (i_A / 6)), .int (nI (i_A % 6))]) (rest := []) (ws' := [(qm, .inl (cI, 6, .inl (nA (fun _ => 0)))), (qd, .inl (cI, 36, .inl (nA (D0 xf xc)))), (ba, .inl (cI, 36, .inl (nA xb))), (ca, .inl (cI, 36, .inl (nA xc))), (fa, .inl (cI, 36, .inl (nA xf))), (ta, .inl (cI, 36, .inl (nA xt))), (ua, .inl (cI, 36, .inl (nA xu))), (na, .inl (cI, 2, .inl (nA xn)))] ++ wx) (pc' := 195) hK hA c15 (cwV 2 C0.2.2.2.2 gL_isNet_X0_far rfl rfl rfl (by decide +kernel) ⟨Nat.le_of_ble_eq_true rfl, Nat.le_of_ble_eq_true rfl⟩) ⟨_, 0, _, _, _, rfl, ap_r (A := [(qm, .inl (cI, 6, .inl (nA (fun _ => 0)))), (qd, .inl (cI, 36, .inl (nA (D0 xf xc)))), (ba, .inl (cI, 36, .inl (nA xb))), (ca, .inl (cI, 36, .inl (nA xc))), (fa, .inl (cI, 36, .inl (nA xf))), (ta, .inl (cI, 36, .inl (nA xt))), (ua, .inl (cI, 36, .inl (nA xu))), (na, .inl (cI, 2, .inl (nA xn)))]) x15⟩ (PLs.rt (P := [(qm, .inl (cI, 6, .inl (nA (fun _ => 0)))), (qd, .inl (cI, 36, .inl (nA (D0 xf xc)))), (ba, .inl (cI, 36, .inl (nA xb))), (ca, .inl (cI, 36, .inl (nA xc))), (fa, .inl (cI, 36, .inl (nA xf))), (ta, .inl (cI, 36, .inl (nA xt))), (ua, .inl (cI, 36, .inl (nA xu))), (na, .inl (cI, 2, .inl (nA xn)))])) rfl rfl (Nat.le_of_ble_eq_true rfl) ⟨(by show 3 + 3 * i_A ≤ 1435; omega), (by show 78 + 18 * i_A ≤ 8850; omega)⟩ dL_isNet_192 rfl ?_
                  refine v_aload C0 (pc' := 197) 6 rfl dL_isNet_195 rfl ?_
                  refine v_iload C0 (pc' := 199) 15 rfl dL_isNet_197 rfl ?_
                  refine v_ialdN C0 hK (pc' := 200) 4 0 rfl rfl (by omega) (by decide) dL_isNet_199 rfl ?_
                  refine v_if_neN C0 207 (pc' := 203) (by have := hf i_A; omega) dL_isNet_200 (by decide) rfl (fun h44 => ?_) (fun h44 => ?_)
                  · refine v_iload C0 (pc' := 209) 17 rfl dL_isNet_207 rfl ?_
                    refine v_bipush C0 (pc' := 211) (nI 6) (by decide +kernel) dL_isNet_209 rfl ?_
                    refine v_idivN C0 (pc' := 212) (by have := hf i_A; omega) (by decide) (by decide) dL_isNet_211 rfl ?_
                    refine v_bipush C0 (pc' := 214) (nI 10) (by decide +kernel) dL_isNet_212 rfl ?_
                    refine v_imulN C0 (pc' := 215) dL_isNet_214 rfl ?_
                    refine v_iload C0 (pc' := 217) 17 rfl dL_isNet_215 rfl ?_
                    refine v_bipush C0 (pc' := 219) (nI 6) (by decide +kernel) dL_isNet_217 rfl ?_
                    refine v_iremN C0 (pc' := 220) (by have := hf i_A; omega) (by decide) (by decide) dL_isNet_219 rfl ?_
                    refine v_iaddN C0 (pc' := 221) dL_isNet_220 rfl ?_
                    refine v_icmp_ne C0 347 (pc' := 224) dL_isNet_221 (by decide) rfl (fun h45 => absurd rfl h45) (fun _ => ?_)
                    refine v_aload_n C0 (pc' := 225) 2 rfl rfl dL_isNet_224 rfl ?_
                    refine v_iconst C0 (pc' := 226) (nI 2) (by decide +kernel) dL_isNet_225 rfl ?_
                    refine v_iload C0 (pc' := 228) 15 rfl dL_isNet_226 rfl ?_
                    refine v_bipush C0 (pc' := 230) (nI 6) (by decide +kernel) dL_isNet_228 rfl ?_
                    refine v_idivN C0 (pc' := 231) (by omega) (by decide) (by decide) dL_isNet_230 rfl ?_
                    refine v_iload C0 (pc' := 233) 15 rfl dL_isNet_231 rfl ?_
                    refine v_bipush C0 (pc' := 235) (nI 6) (by decide +kernel) dL_isNet_233 rfl ?_
                    refine v_iremN C0 (pc' := 236) (by omega) (by decide) (by decide) dL_isNet_235 rfl ?_
                    refine v_iconst C0 (pc' := 237) (nI 0) (by decide +kernel) dL_isNet_236 rfl ?_
                    have c16 := d_isOn l hst D hL hw (k := i_A) (by omega)
                    rw [if_neg h29] at c16
                    refine v_callSE C0 (av := [.ref (ad 0), .int (nI 2), .int (nI (i_A / 6)), .int (nI (i_A % 6)), .int (nI 0)]) (rest := []) (ws' := [(qm, .inl (cI, 6, .inl (nA (fun _ => 0)))), (qd, .inl (cI, 36, .inl (nA (D0 xf xc)))), (ba, .inl (cI, 36, .inl (nA xb))), (ca, .inl (cI, 36, .inl (nA xc))), (fa, .inl (cI, 36, .inl (nA xf))), (ta, .inl (cI, 36, .inl (nA xt))), (ua, .inl (cI, 36, .inl (nA xu))), (na, .inl (cI, 2, .inl (nA xn)))] ++ wx) (pc' := 240) hK hA hEN c16 (vx_cwSW 5 C0.2.2.2.2 gL_isNet_L_does rfl rfl rfl (by decide +kernel) ⟨Nat.le_of_ble_eq_true rfl, Nat.le_of_ble_eq_true rfl⟩) (PLs.rt (P := [(qm, .inl (cI, 6, .inl (nA (fun _ => 0)))), (qd, .inl (cI, 36, .inl (nA (D0 xf xc)))), (ba, .inl (cI, 36, .inl (nA xb))), (ca, .inl (cI, 36, .inl (nA xc))), (fa, .inl (cI, 36, .inl (nA xf))), (ta, .inl (cI, 36, .inl (nA xt))), (ua, .inl (cI, 36, .inl (nA xu))), (na, .inl (cI, 2, .inl (nA xn)))])) rfl rfl (Nat.le_of_ble_eq_true rfl) ⟨(by show 3 + 3 * i_A + 1 ≤ 1435; omega), (by show 78 + 18 * i_A + 6 ≤ 8850; omega)⟩ dL_isNet_237 rfl ?_
                    refine v_aload C0 (pc' := 242) 6 rfl dL_isNet_240 rfl ?_
                    refine v_iload C0 (pc' := 244) 15 rfl dL_isNet_242 rfl ?_
                    refine v_ialdN C0 hK (pc' := 245) 4 0 rfl rfl (by omega) (by decide) dL_isNet_244 rfl ?_
                    refine v_if_neN C0 253 (pc' := 248) (by have := hf i_A; omega) dL_isNet_245 (by decide) rfl (fun h46 => ?_) (fun h46 => ?_)
                    · refine v_lload C0 (pc' := 255) 12 rfl dL_isNet_253 rfl ?_
                      refine v_iload C0 (pc' := 257) 15 rfl dL_isNet_255 rfl ?_
                      refine v_lshrN C0 (pc' := 258) (by omega) (by omega) dL_isNet_257 rfl ?_
                      refine v_lconst C0 (pc' := 259) 1 rfl dL_isNet_258 rfl ?_
                      refine v_land1 C0 (pc' := 260) dL_isNet_259 rfl ?_
                      refine v_l2iN C0 (pc' := 261) dL_isNet_260 rfl ?_
                      refine v_icmp_ne C0 347 (pc' := 264) dL_isNet_261 (by decide) rfl (fun h47 => absurd rfl h47) (fun _ => ?_)
                      refine v_aload_n C0 (pc' := 265) 2 rfl rfl dL_isNet_264 rfl ?_
                      refine v_iconst C0 (pc' := 266) (nI 3) (by decide +kernel) dL_isNet_265 rfl ?_
                      refine v_iload C0 (pc' := 268) 15 rfl dL_isNet_266 rfl ?_
                      refine v_bipush C0 (pc' := 270) (nI 6) (by decide +kernel) dL_isNet_268 rfl ?_
                      refine v_idivN C0 (pc' := 271) (by omega) (by decide) (by decide) dL_isNet_270 rfl ?_
                      refine v_iload C0 (pc' := 273) 15 rfl dL_isNet_271 rfl ?_
                      refine v_bipush C0 (pc' := 275) (nI 6) (by decide +kernel) dL_isNet_273 rfl ?_
                      refine v_iremN C0 (pc' := 276) (by omega) (by decide) (by decide) dL_isNet_275 rfl ?_
                      refine v_iload C0 (pc' := 278) 16 rfl dL_isNet_276 rfl ?_
                      have c17 := d_comesAs l hst D hL hw (k := i_A) (by omega) (a := la) (by omega) (by omega)
                      rw [if_neg h29] at c17
                      refine v_callSE C0 (av := [.ref (ad 0), .int (nI 3), .int (nI (i_A / 6)), .int (nI (i_A % 6)), .int (nI la)]) (rest := []) (ws' := [(qm, .inl (cI, 6, .inl (nA (fun _ => 0)))), (qd, .inl (cI, 36, .inl (nA (D0 xf xc)))), (ba, .inl (cI, 36, .inl (nA xb))), (ca, .inl (cI, 36, .inl (nA xc))), (fa, .inl (cI, 36, .inl (nA xf))), (ta, .inl (cI, 36, .inl (nA xt))), (ua, .inl (cI, 36, .inl (nA xu))), (na, .inl (cI, 2, .inl (nA xn)))] ++ wx) (pc' := 281) hK hA hEN c17 (vx_cwSW 5 C0.2.2.2.2 gL_isNet_L_does rfl rfl rfl (by decide +kernel) ⟨Nat.le_of_ble_eq_true rfl, Nat.le_of_ble_eq_true rfl⟩) (PLs.rt (P := [(qm, .inl (cI, 6, .inl (nA (fun _ => 0)))), (qd, .inl (cI, 36, .inl (nA (D0 xf xc)))), (ba, .inl (cI, 36, .inl (nA xb))), (ca, .inl (cI, 36, .inl (nA xc))), (fa, .inl (cI, 36, .inl (nA xf))), (ta, .inl (cI, 36, .inl (nA xt))), (ua, .inl (cI, 36, .inl (nA xu))), (na, .inl (cI, 2, .inl (nA xn)))])) rfl rfl (Nat.le_of_ble_eq_true rfl) ⟨(by show (3 + 3 * i_A) + 1 + 1 ≤ 1435; omega), (by show (78 + 18 * i_A) + 6 + 6 ≤ 8850; omega)⟩ dL_isNet_278 rfl ?_
                      refine v_aload C0 (pc' := 283) 6 rfl dL_isNet_281 rfl ?_
                      refine v_iload C0 (pc' := 285) 15 rfl dL_isNet_283 rfl ?_
                      refine v_ialdN C0 hK (pc' := 286) 4 0 rfl rfl (by omega) (by decide) dL_isNet_285 rfl ?_
                      refine v_if_neN C0 294 (pc' := 289) (by have := hf i_A; omega) dL_isNet_286 (by decide) rfl (fun h48 => ?_) (fun h48 => ?_)
                      · refine v_iload C0 (pc' := 296) 1 rfl dL_isNet_294 rfl ?_
                        refine v_icmp_ne C0 347 (pc' := 299) dL_isNet_296 (by decide) rfl (fun h49 => absurd rfl h49) (fun _ => ?_)
                        refine v_aload_n C0 (pc' := 300) 2 rfl rfl dL_isNet_299 rfl ?_
                        refine v_iconst C0 (pc' := 301) (nI 4) (by decide +kernel) dL_isNet_300 rfl ?_
                        refine v_iload C0 (pc' := 303) 15 rfl dL_isNet_301 rfl ?_
                        refine v_bipush C0 (pc' := 305) (nI 6) (by decide +kernel) dL_isNet_303 rfl ?_
                        refine v_idivN C0 (pc' := 306) (by omega) (by decide) (by decide) dL_isNet_305 rfl ?_
                        refine v_iload C0 (pc' := 308) 15 rfl dL_isNet_306 rfl ?_
                        refine v_bipush C0 (pc' := 310) (nI 6) (by decide +kernel) dL_isNet_308 rfl ?_
                        refine v_iremN C0 (pc' := 311) (by omega) (by decide) (by decide) dL_isNet_310 rfl ?_
                        refine v_iconst C0 (pc' := 312) (nI 0) (by decide +kernel) dL_isNet_311 rfl ?_
                        have c18 := d_oneSided l hst D hL hw (k := i_A) (by omega)
                        rw [if_neg h29] at c18
                        refine v_callSE C0 (av := [.ref (ad 0), .int (nI 4), .int (nI (i_A / 6)), .int (nI (i_A % 6)), .int (nI 0)]) (rest := []) (ws' := [(qm, .inl (cI, 6, .inl (nA (fun _ => 0)))), (qd, .inl (cI, 36, .inl (nA (D0 xf xc)))), (ba, .inl (cI, 36, .inl (nA xb))), (ca, .inl (cI, 36, .inl (nA xc))), (fa, .inl (cI, 36, .inl (nA xf))), (ta, .inl (cI, 36, .inl (nA xt))), (ua, .inl (cI, 36, .inl (nA xu))), (na, .inl (cI, 2, .inl (nA xn)))] ++ wx) (pc' := 315) hK hA hEN c18 (vx_cwSW 5 C0.2.2.2.2 gL_isNet_L_does rfl rfl rfl (by decide +kernel) ⟨Nat.le_of_ble_eq_true rfl, Nat.le_of_ble_eq_true rfl⟩) (PLs.rt (P := [(qm, .inl (cI, 6, .inl (nA (fun _ => 0)))), (qd, .inl (cI, 36, .inl (nA (D0 xf xc)))), (ba, .inl (cI, 36, .inl (nA xb))), (ca, .inl (cI, 36, .inl (nA xc))), (fa, .inl (cI, 36, .inl (nA xf))), (ta, .inl (cI, 36, .inl (nA xt))), (ua, .inl (cI, 36, .inl (nA xu))), (na, .inl (cI, 2, .inl (nA xn)))])) rfl rfl (Nat.le_of_ble_eq_true rfl) ⟨(by show ((3 + 3 * i_A) + 1) + 1 + 1 ≤ 1435; omega), (by show ((78 + 18 * i_A) + 6) + 6 + 6 ≤ 8850; omega)⟩ dL_isNet_312 rfl ?_
                        refine v_aload C0 (pc' := 317) 6 rfl dL_isNet_315 rfl ?_
                        refine v_iload C0 (pc' := 319) 15 rfl dL_isNet_317 rfl ?_
                        refine v_ialdN C0 hK (pc' := 320) 4 0 rfl rfl (by omega) (by decide) dL_isNet_319 rfl ?_
                        refine v_if_neN C0 328 (pc' := 323) (by have := hf i_A; omega) dL_isNet_320 (by decide) rfl (fun h50 => ?_) (fun h50 => ?_)
                        · refine v_aload_n C0 (pc' := 329) 5 rfl rfl dL_isNet_328 rfl ?_
                          refine v_iload C0 (pc' := 331) 15 rfl dL_isNet_329 rfl ?_
                          refine v_ialdN C0 hK (pc' := 332) 5 0 rfl rfl (by omega) (by decide) dL_isNet_331 rfl ?_
                          refine v_aload_n C0 (pc' := 333) 5 rfl rfl dL_isNet_332 rfl ?_
                          refine v_iload C0 (pc' := 335) 17 rfl dL_isNet_333 rfl ?_
                          refine v_ialdN C0 hK (pc' := 336) 5 0 rfl rfl (by have := hf i_A; omega) (by decide) dL_isNet_335 rfl ?_
                          refine v_ixorN C0 (pc' := 337) dL_isNet_336 rfl ?_
                          refine v_callSi C0 (av := [.int (nI ((xt i_A) ^^^ (xt (xf i_A - 1))))]) (rest := [.int (nI (sb (xt i_A ^^^ xt (xf i_A - 1)) 16))]) (ws' := [(qm, .inl (cI, 6, .inl (nA (fun _ => 0)))), (qd, .inl (cI, 36, .inl (nA (D0 xf xc)))), (ba, .inl (cI, 36, .inl (nA xb))), (ca, .inl (cI, 36, .inl (nA xc))), (fa, .inl (cI, 36, .inl (nA xf))), (ta, .inl (cI, 36, .inl (nA xt))), (ua, .inl (cI, 36, .inl (nA xu))), (na, .inl (cI, 2, .inl (nA xn)))] ++ wx) (pc' := 340) hK hA (k_L_bits l D cI ((xt i_A) ^^^ (xt (xf i_A - 1))) (Nat.xor_lt_two_pow (n := 16) (ht _) (ht _))) (va_cwS 1 C0.2.2.2.2 gL_isNet_L_bits rfl rfl rfl (by decide +kernel) ⟨Nat.le_of_ble_eq_true rfl, Nat.le_of_ble_eq_true rfl⟩) PLs.nil rfl rfl (Nat.le_of_ble_eq_true rfl) ⟨(by show (((3 + 3 * i_A) + 1) + 1) + 1 + 0 ≤ 1435; omega), (by show (((78 + 18 * i_A) + 6) + 6) + 6 + 0 ≤ 8850; omega)⟩ dL_isNet_337 rfl ?_
                          refine v_icmp_ne C0 347 (pc' := 343) dL_isNet_340 (by decide) rfl (fun h51 => absurd rfl h51) (fun _ => ?_)
                          refine v_iconst C0 (pc' := 344) (nI 1) (by decide +kernel) dL_isNet_343 rfl ?_
                          refine v_goto C0 348 dL_isNet_344 (by decide) ?_
                          refine v_istore C0 (lv' := [(13, .int (nI 1)), (19, .int (nI (15 + 1))), (18, .int (aI (lp (asF (s_L_comes xu xt xf i_A (2 ^ la))) 15 16))), (0, .ref (ad 0)), (1, .ref na), (2, .ref ua), (3, .ref ta), (4, .ref fa), (5, .ref ca), (6, .ref ba), (7, .int (nI xX)), (8, .ref qd), (9, .ref qm), (10, .long (nJ (s_L_live xn xf xc))), (12, .int (nI (wrF xf xb i_A (lp (wrF xf xb) i_A 0)))), (14, .int (nI i_A)), (15, .int (nI la)), (16, .int (nI (xf i_A - 1))), (17, .int (nI (s_L_comes xu xt xf i_A (2 ^ la))))]) (pc' := 350) (by decide) rfl dL_isNet_348 rfl ?_
                          refine v_iincN C0 (lv' := [(14, .int (nI (i_A + 1))), (13, .int (nI 1)), (19, .int (nI (15 + 1))), (18, .int (aI (lp (asF (s_L_comes xu xt xf i_A (2 ^ la))) 15 16))), (0, .ref (ad 0)), (1, .ref na), (2, .ref ua), (3, .ref ta), (4, .ref fa), (5, .ref ca), (6, .ref ba), (7, .int (nI xX)), (8, .ref qd), (9, .ref qm), (10, .long (nJ (s_L_live xn xf xc))), (12, .int (nI (wrF xf xb i_A (lp (wrF xf xb) i_A 0)))), (15, .int (nI la)), (16, .int (nI (xf i_A - 1))), (17, .int (nI (s_L_comes xu xt xf i_A (2 ^ la))))]) (y := 1) (pc' := 353) 15 rfl (by decide) rfl dL_isNet_350 rfl ?_
                          refine v_goto C0 40 dL_isNet_353 (by decide) ?_
                          refine v_widen (k2 := 3 + 3 * (i_A + 1)) (n2 := 78 + 18 * (i_A + 1)) (by omega) (by omega) ?_
                          have z_A := ih_A (i_A + 1)  (by omega) 
                          exact v_sub (lv' := [(14, .int (nI (i_A + 1))), (12, .int (nI (wrF xf xb i_A (lp (wrF xf xb) i_A 0)))), (13, .int (nI 1)), (0, .ref (ad 0)), (1, .ref na), (2, .ref ua), (3, .ref ta), (4, .ref fa), (5, .ref ca), (6, .ref ba), (7, .int (nI xX)), (8, .ref qd), (9, .ref qm), (10, .long (nJ (s_L_live xn xf xc)))]) [0, 15, 1, 4, 5, 6, 7, 8, 9, 10, 11, 12, 13, 14] rfl z_A
                        · exact absurd h50 h29
                      · exact absurd h48 h29
                    · exact absurd h46 h29
                  · exact absurd h44 h29
                · exact absurd (by omega) h43
              | succ j_as ih_as =>
                intro i_as  hi_as 
                refine v_iload C0 (pc' := 150) 0 rfl dL_isNet_148 rfl ?_
                refine v_bipush C0 (pc' := 152) (nI 16) (by decide +kernel) dL_isNet_150 rfl ?_
                refine v_icmp_geN C0 181 (pc' := 155) (by omega) (by omega) dL_isNet_152 (by decide) rfl (fun h52 => ?_) (fun h52 => ?_)
                · exact absurd h52 (by omega)
                · refine v_iload C0 (pc' := 157) 18 rfl dL_isNet_155 rfl ?_
                  refine v_iload C0 (pc' := 159) 0 rfl dL_isNet_157 rfl ?_
                  refine v_ishrN C0 (pc' := 160) (by omega) (by omega) dL_isNet_159 rfl ?_
                  refine v_iconst C0 (pc' := 161) (nI 1) (by decide +kernel) dL_isNet_160 rfl ?_
                  refine v_iand1 C0 (pc' := 162) dL_isNet_161 rfl ?_
                  refine v_iconst C0 (pc' := 163) (nI 1) (by decide +kernel) dL_isNet_162 rfl ?_
                  refine v_icmp_neN C0 171 (pc' := 166) (by omega) (by omega) dL_isNet_163 (by decide) rfl (fun h53 => ?_) (fun h53 => ?_)
                  · refine v_iload C0 (pc' := 173) 1 rfl dL_isNet_171 rfl ?_
                    refine v_istore C0 (lv' := [(18, .int (aI (lp (asF (s_L_comes xu xt xf i_A (2 ^ la))) i_as 16))), (19, .int (nI (i_as + 1))), (0, .ref (ad 0)), (1, .ref na), (2, .ref ua), (3, .ref ta), (4, .ref fa), (5, .ref ca), (6, .ref ba), (7, .int (nI xX)), (8, .ref qd), (9, .ref qm), (10, .long (nJ (s_L_live xn xf xc))), (12, .int (nI (wrF xf xb i_A (lp (wrF xf xb) i_A 0)))), (13, .int (nI 1)), (14, .int (nI i_A)), (15, .int (nI la)), (16, .int (nI (xf i_A - 1))), (17, .int (nI (s_L_comes xu xt xf i_A (2 ^ la))))]) (pc' := 175) (by decide) rfl dL_isNet_173 rfl ?_
                    refine v_iincN C0 (lv' := [(19, .int (nI ((i_as + 1) + 1))), (18, .int (aI (lp (asF (s_L_comes xu xt xf i_A (2 ^ la))) i_as 16))), (0, .ref (ad 0)), (1, .ref na), (2, .ref ua), (3, .ref ta), (4, .ref fa), (5, .ref ca), (6, .ref ba), (7, .int (nI xX)), (8, .ref qd), (9, .ref qm), (10, .long (nJ (s_L_live xn xf xc))), (12, .int (nI (wrF xf xb i_A (lp (wrF xf xb) i_A 0)))), (13, .int (nI 1)), (14, .int (nI i_A)), (15, .int (nI la)), (16, .int (nI (xf i_A - 1))), (17, .int (nI (s_L_comes xu xt xf i_A (2 ^ la))))]) (y := 1) (pc' := 178) 1 rfl (by decide) rfl dL_isNet_175 rfl ?_
                    refine v_goto C0 148 dL_isNet_178 (by decide) ?_
                    have z_as := ih_as (i_as + 1)  (by omega) 
                    have ea : aI (lp (asF (s_L_comes xu xt xf i_A (2 ^ la))) (i_as + 1) 16) = aI (lp (asF (s_L_comes xu xt xf i_A (2 ^ la))) i_as 16) := by rw [lp_succ]; unfold asF; rw [if_neg h53]
                    rw [ea] at z_as
                    exact v_sub (lv' := [(19, .int (nI ((i_as + 1) + 1))), (18, .int (aI (lp (asF (s_L_comes xu xt xf i_A (2 ^ la))) i_as 16))), (0, .ref (ad 0)), (1, .ref na), (2, .ref ua), (3, .ref ta), (4, .ref fa), (5, .ref ca), (6, .ref ba), (7, .int (nI xX)), (8, .ref qd), (9, .ref qm), (10, .long (nJ (s_L_live xn xf xc))), (12, .int (nI (wrF xf xb i_A (lp (wrF xf xb) i_A 0)))), (13, .int (nI 1)), (14, .int (nI i_A)), (15, .int (nI la)), (16, .int (nI (xf i_A - 1))), (17, .int (nI (s_L_comes xu xt xf i_A (2 ^ la))))]) [0, 1, 2, 3, 4, 5, 6, 7, 8, 9, 10, 11, 12, 13, 14, 15, 16, 17, 18] rfl z_as
                  · refine v_iload C0 (pc' := 168) 0 rfl dL_isNet_166 rfl ?_
                    refine v_goto C0 173 dL_isNet_168 (by decide) ?_
                    refine v_istore C0 (lv' := [(18, .int (nI (i_as + 1))), (19, .int (nI (i_as + 1))), (0, .ref (ad 0)), (1, .ref na), (2, .ref ua), (3, .ref ta), (4, .ref fa), (5, .ref ca), (6, .ref ba), (7, .int (nI xX)), (8, .ref qd), (9, .ref qm), (10, .long (nJ (s_L_live xn xf xc))), (12, .int (nI (wrF xf xb i_A (lp (wrF xf xb) i_A 0)))), (13, .int (nI 1)), (14, .int (nI i_A)), (15, .int (nI la)), (16, .int (nI (xf i_A - 1))), (17, .int (nI (s_L_comes xu xt xf i_A (2 ^ la))))]) (pc' := 175) (by decide) rfl dL_isNet_173 rfl ?_
                    refine v_iincN C0 (lv' := [(19, .int (nI ((i_as + 1) + 1))), (18, .int (nI (i_as + 1))), (0, .ref (ad 0)), (1, .ref na), (2, .ref ua), (3, .ref ta), (4, .ref fa), (5, .ref ca), (6, .ref ba), (7, .int (nI xX)), (8, .ref qd), (9, .ref qm), (10, .long (nJ (s_L_live xn xf xc))), (12, .int (nI (wrF xf xb i_A (lp (wrF xf xb) i_A 0)))), (13, .int (nI 1)), (14, .int (nI i_A)), (15, .int (nI la)), (16, .int (nI (xf i_A - 1))), (17, .int (nI (s_L_comes xu xt xf i_A (2 ^ la))))]) (y := 1) (pc' := 178) 1 rfl (by decide) rfl dL_isNet_175 rfl ?_
                    refine v_goto C0 148 dL_isNet_178 (by decide) ?_
                    have z_as := ih_as (i_as + 1)  (by omega) 
                    have ea : aI (lp (asF (s_L_comes xu xt xf i_A (2 ^ la))) (i_as + 1) 16) = nI (i_as + 1) := by rw [lp_succ]; unfold asF; rw [if_pos h53]; exact if_pos (by omega)
                    rw [ea] at z_as
                    exact v_sub (lv' := [(19, .int (nI ((i_as + 1) + 1))), (18, .int (nI (i_as + 1))), (0, .ref (ad 0)), (1, .ref na), (2, .ref ua), (3, .ref ta), (4, .ref fa), (5, .ref ca), (6, .ref ba), (7, .int (nI xX)), (8, .ref qd), (9, .ref qm), (10, .long (nJ (s_L_live xn xf xc))), (12, .int (nI (wrF xf xb i_A (lp (wrF xf xb) i_A 0)))), (13, .int (nI 1)), (14, .int (nI i_A)), (15, .int (nI la)), (16, .int (nI (xf i_A - 1))), (17, .int (nI (s_L_comes xu xt xf i_A (2 ^ la))))]) [0, 1, 2, 3, 4, 5, 6, 7, 8, 9, 10, 11, 12, 13, 14, 15, 16, 17, 18] rfl z_as
            · exact absurd h42 h29
