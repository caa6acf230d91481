/-! worlds side by side; rows over numbers: ints that are nI of a number, arrays that hold them (nA), longs (nJ) -/
theorem ap_l {α : Type} {A B : List α} {k : Nat} {q : α} (h : A[k]? = some q) : (A ++ B)[k]? = some q := by
  rw [List.getElem?_append_left (List.getElem?_eq_some_iff.mp h).1]; exact h
theorem ap_r {α : Type} {A B : List α} {k : Nat} {q : α} (h : B[k]? = some q) : (A ++ B)[A.length + k]? = some q := by
  rw [List.getElem?_append_right (Nat.le_add_right _ _), Nat.add_sub_cancel_left]; exact h
theorem ap_s {α : Type} {A B : List α} {k : Nat} {q : α} (h : (A ++ B)[k]? = some q) : A[k]? = some q ∨ ∃ i, k = A.length + i ∧ B[i]? = some q := by
  by_cases hk : k < A.length
  · rw [List.getElem?_append_left hk] at h; exact Or.inl h
  · rw [List.getElem?_append_right (Nat.not_lt.mp hk)] at h
    exact Or.inr ⟨k - A.length, by omega, h⟩
theorem PLs.mid {P W0 W1 R : va_W} : PLs (P ++ (W0 ++ R)) W0 W1 (P ++ (W1 ++ R)) := by
  refine ⟨fun D H hP k q hq => hP (P.length + k) q (ap_r (ap_l hq)), fun A hD => ⟨fun i j p q hi hj e => ?_, fun k q hq => hD.2 (P.length + k) q (ap_r (ap_l hq))⟩, fun D A0 H H1 hP hD hk hF hP1 hD1 => ?_⟩
  · have := hD.1 (P.length + i) (P.length + j) p q (ap_r (ap_l hi)) (ap_r (ap_l hj)) e
    omega
  · have outP : ∀ (k : Nat) (q : Nat × va_E), P[k]? = some q → ¬ va_A W0 H.size q.1 := by
      intro k q hq h
      rcases h with ⟨i, e, h⟩ | h
      · have h1 := hD.1 k (P.length + i) q (q.1, e) (ap_l hq) (ap_r (ap_l h)) rfl
        have h2 := (List.getElem?_eq_some_iff.mp hq).1
        omega
      · exact absurd (hP k q (ap_l hq)).lt (Nat.not_lt.mpr h)
    have outR : ∀ (k : Nat) (q : Nat × va_E), R[k]? = some q → ¬ va_A W0 H.size q.1 := by
      intro k q hq h
      rcases h with ⟨i, e, h⟩ | h
      · have h1 := hD.1 (P.length + (W0.length + k)) (P.length + i) q (q.1, e) (ap_r (ap_r hq)) (ap_r (ap_l h)) rfl
        have h2 := (List.getElem?_eq_some_iff.mp h).1
        omega
      · exact absurd (hP (P.length + (W0.length + k)) q (ap_r (ap_r hq))).lt (Nat.not_lt.mpr h)
    refine ⟨fun k q hq => ?_, fun i j p q hi hj e => ?_, fun k q hq => ?_⟩
    · rcases ap_s hq with h | ⟨i, -, h⟩
      · exact (hP k q (ap_l h)).kept (hk q.1 (hP k q (ap_l h)).lt (outP k q h))
      · rcases ap_s h with h | ⟨i, -, h⟩
        · exact hP1 _ q h
        · exact (hP _ q (ap_r (ap_r h))).kept (hk q.1 (hP _ q (ap_r (ap_r h))).lt (outR i q h))
    · rcases ap_s hi with h1 | ⟨i1, e1, h1⟩
      · rcases ap_s hj with h2 | ⟨j1, e2, h2⟩
        · exact hD.1 i j p q (ap_l h1) (ap_l h2) e
        · rcases ap_s h2 with h2 | ⟨j2, e3, h2⟩
          · exact absurd (hD1.2 _ q h2) (by rw [← e]; exact outP i p h1)
          · have h3 := hD.1 i (P.length + (W0.length + j2)) p q (ap_l h1) (ap_r (ap_r h2)) e
            have h4 := (List.getElem?_eq_some_iff.mp h1).1
            omega
      · rcases ap_s h1 with h1 | ⟨i2, e3, h1⟩
        · rcases ap_s hj with h2 | ⟨j1, e2, h2⟩
          · exact absurd (hD1.2 _ p h1) (by rw [e]; exact outP j q h2)
          · rcases ap_s h2 with h2 | ⟨j2, e4, h2⟩
            · have h3 := hD1.1 _ _ p q h1 h2 e
              omega
            · exact absurd (hD1.2 _ p h1) (by rw [e]; exact outR j2 q h2)
        · rcases ap_s hj with h2 | ⟨j1, e2, h2⟩
          · have h3 := hD.1 (P.length + (W0.length + i2)) j p q (ap_r (ap_r h1)) (ap_l h2) e
            have h4 := (List.getElem?_eq_some_iff.mp h2).1
            omega
          · rcases ap_s h2 with h2 | ⟨j2, e4, h2⟩
            · exact absurd (hD1.2 _ q h2) (by rw [← e]; exact outR i2 p h1)
            · have h3 := hD.1 (P.length + (W0.length + i2)) (P.length + (W0.length + j2)) p q (ap_r (ap_r h1)) (ap_r (ap_r h2)) e
              omega
    · rcases ap_s hq with h | ⟨i, -, h⟩
      · exact hD.2 k q (ap_l h)
      · rcases ap_s h with h | ⟨i, -, h⟩
        · exact hF q.1 (hD1.2 _ q h)
        · exact hD.2 _ q (ap_r (ap_r h))
theorem PLs.rt {P W0 W1 : va_W} : PLs (P ++ W0) W0 W1 (P ++ W1) := by
  have h := PLs.mid (P := P) (W0 := W0) (W1 := W1) (R := [])
  rw [List.append_nil, List.append_nil] at h
  exact h
theorem PLs.lf {W0 W1 R : va_W} : PLs (W0 ++ R) W0 W1 (W1 ++ R) := PLs.mid (P := [])
theorem PLs.trans {ws wm wm' ws2 wc w1 : va_W} (h : PLs ws wm wm' ws2) (g : PLs wm wc w1 wm') : PLs ws wc w1 ws2 := by
  refine ⟨fun D H hP => g.1 D H (h.1 D H hP), fun A hD => g.2.1 A (h.2.1 A hD), fun D A0 H H1 hP hD hk hF hP1 hD1 => ?_⟩
  have hPm := h.1 D H hP
  have hDm := h.2.1 A0 hD
  have sub : ∀ q, va_A wc H.size q → va_A wm H.size q := by
    intro q hq
    rcases hq with ⟨k, e, hk2⟩ | hq
    · exact (g.2.1 (va_A wm H.size) (hDm.self)).2 k _ hk2
    · exact Or.inr hq
  have hF2 : ∀ q, va_A wm H.size q → A0 q := by
    intro q hq
    rcases hq with ⟨k, e, hk2⟩ | hq
    · exact hDm.2 k _ hk2
    · exact hF q (Or.inr hq)
  obtain ⟨a, b⟩ := g.2.2 D (va_A wm H.size) H H1 hPm (hDm.self) hk sub hP1 hD1
  exact h.2.2 D A0 H H1 hP hD (fun q hq hn => hk q hq (fun z => hn (sub q z))) hF2 a b
theorem PLs.lfs {L wc w1 L' R : va_W} (g : PLs L wc w1 L') : PLs (L ++ R) wc w1 (L' ++ R) := PLs.trans PLs.lf g
/-! numbers -/
def nA (g : Nat → Nat) : Nat → Int32 := fun k => nI (g k)
def updN (g : Nat → Nat) (i x : Nat) : Nat → Nat := fun j => if j = i then x else g j
theorem nA_upd (g : Nat → Nat) (i x : Nat) : upd (nA g) i (nI x) = nA (updN g i x) := by
  funext j
  show (if j = i then nI x else nI (g j)) = nI (if j = i then x else g j)
  split <;> rfl
theorem updN_s {g : Nat → Nat} {i x : Nat} : updN g i x i = x := if_pos rfl
theorem updN_n {g : Nat → Nat} {i x j : Nat} (h : j ≠ i) : updN g i x j = g j := if_neg h
theorem updN_le {g : Nat → Nat} {i x B : Nat} (h : ∀ k, g k ≤ B) (hx : x ≤ B) : ∀ k, updN g i x k ≤ B := fun k => by
  unfold updN
  split
  · exact hx
  · exact h k
theorem nA_0 : (fun _ => 0 : Nat → Int32) = nA (fun _ => 0) := rfl
def nJ (n : Nat) : Int64 := Int64.ofNat n
theorem nJ_toInt {n : Nat} (h : n < 2 ^ 63) : (nJ n).toInt = (n : Int) := Int64.toInt_ofNat_of_lt h
theorem nJ_eq {a b : Nat} (ha : a < 2 ^ 63) (hb : b < 2 ^ 63) : nJ a = nJ b ↔ a = b := by
  rw [← Int64.toInt_inj, nJ_toInt ha, nJ_toInt hb]; omega
theorem nJ_or (a b : Nat) : nJ a ||| nJ b = nJ (a ||| b) := by
  apply Int64.toBitVec_inj.1
  show BitVec.ofNat 64 a ||| BitVec.ofNat 64 b = BitVec.ofNat 64 (a ||| b)
  apply BitVec.eq_of_getLsbD_eq
  intro i hi
  simp [hi]
theorem nJ_and (a b : Nat) : nJ a &&& nJ b = nJ (a &&& b) := by
  apply Int64.toBitVec_inj.1
  show BitVec.ofNat 64 a &&& BitVec.ofNat 64 b = BitVec.ofNat 64 (a &&& b)
  apply BitVec.eq_of_getLsbD_eq
  intro i hi
  simp [hi]
theorem nJ_and1 (a : Nat) : nJ a &&& 1 = nJ (a % 2) := by
  have h : (1 : Int64) = nJ 1 := rfl
  rw [h, nJ_and, Nat.and_one_is_mod]
theorem nJ_shl : ∀ l, l < 36 → (1 : Int64) <<< ((nI l).toInt64 &&& 63) = nJ (2 ^ l) := by decide +kernel
theorem nJ_amt : ∀ l, l < 36 → (((nI l).toInt64 &&& 63).toBitVec.smod 64).toNat = l := by decide +kernel
theorem nJ_shr {a l : Nat} (ha : a < 2 ^ 63) (hl : l < 36) : nJ a >>> ((nI l).toInt64 &&& 63) = nJ (a / 2 ^ l) := by
  apply Int64.toInt_inj.mp
  have h2 : a / 2 ^ l ≤ a := Nat.div_le_self _ _
  have h3 : (nJ a >>> ((nI l).toInt64 &&& 63)).toInt = (nJ a).toInt >>> l := by
    show ((nJ a).toBitVec.sshiftRight (((nI l).toInt64 &&& 63).toBitVec.smod 64).toNat).toInt = _
    rw [nJ_amt l hl, BitVec.toInt_sshiftRight]
    rfl
  rw [h3, nJ_toInt ha, nJ_toInt (by omega), Int.shiftRight_eq_div_pow]
  rfl
theorem nJ_i (a : Nat) : (nJ a).toInt32 = nI a := Int64.toInt32_ofNat'
theorem nI_shl : ∀ l, l < 16 → (1 : Int32) <<< (nI l &&& 31) = nI (2 ^ l) := by decide +kernel
theorem nI_amt : ∀ l, l < 16 → ((nI l &&& 31).toBitVec.smod 32).toNat = l := by decide +kernel
theorem nI_shr {a l : Nat} (ha : a < 2 ^ 31) (hl : l < 16) : nI a >>> (nI l &&& 31) = nI (a / 2 ^ l) := pk_shrN ha _ l (nI_amt l hl)
theorem nI_and1 (a : Nat) : nI a &&& 1 = nI (a % 2) := by
  have h : (1 : Int32) = nI 1 := rfl
  rw [h, nx_and, Nat.and_one_is_mod]
/-- (x - 1) / 6, of an int that isn't negative -/
theorem nI_pre6 {a : Nat} (ha : a < 2 ^ 31) : (nI a - nI 1) / nI 6 = nI ((a - 1) / 6) := by
  rcases Nat.eq_zero_or_pos a with h | h
  · subst h; decide +kernel
  · rw [pk_sub h, pk_div (by omega) (by decide) (by decide)]
/-- a counter that goes down from a -/
def dI (a i : Nat) : Int32 := nI a - nI i
theorem dI_s (a i : Nat) : dI a i + (-1) = dI a (i + 1) := by
  unfold dI
  rw [← nI_add, Int32.sub_eq_add_neg, Int32.sub_eq_add_neg, Int32.neg_add, Int32.sub_eq_add_neg, ← Int32.add_assoc, show (-1 : Int32) = - nI 1 by decide +kernel]
theorem dI_s1 (a i : Nat) : dI a i + Int32.ofInt (-1) = dI a (i + 1) := by
  rw [show Int32.ofInt (-1) = -1 by decide +kernel]
  exact dI_s a i
/-- a port, or none (6) -/
def oI (x : Nat) : Int32 := if x < 6 then nI x else -1
theorem oI_n {x : Nat} (h : x < 6) : oI x = nI x := if_pos h
theorem oI_6 : oI 6 = -1 := rfl
theorem oI_m {x : Nat} (h : 6 ≤ x) : oI x = -1 := if_neg (by omega)
theorem oI_lt {x : Nat} : oI x < 0 ↔ 6 ≤ x := by
  by_cases h : x < 6
  · rw [oI_n h]; exact ⟨fun z => absurd z (nI_pos (by omega)), fun z => absurd h (by omega)⟩
  · rw [oI_m (by omega)]; exact ⟨fun _ => by omega, fun _ => by decide⟩
theorem oI_eq {x y : Nat} (hy : y < 6) : oI x = nI y ↔ x = y := by
  by_cases h : x < 6
  · rw [oI_n h, nI_eq (by omega) (by omega)]
  · rw [oI_m (by omega)]; exact ⟨fun z => absurd z.symm (nI_m1 (by omega)), fun z => by omega⟩
theorem dI_n {a i : Nat} (h : i ≤ a) : dI a i = nI (a - i) := pk_sub h
theorem dI_neg (a : Nat) : dI a (a + 1) < 0 := by
  rw [← dI_s, dI_n (Nat.le_refl a), Nat.sub_self]
  decide
section VKN
variable {p : Program} {l : Launch} {e : Env} {R : Room} {s : State} {m : MethodId} {args : Array Value} {below : List Frame} {meth : Method} {c : Code} {D : va_G} {A : Nat → Prop} {nL k n : Nat} {Q : State → Prop}
variable {cc : ByteArray} {Ts : List Cond} {own : String} {ws ws' : va_W} {lv lv' : List (Nat × Value)} {pc : Nat} {st : List Value} {tys : List (ClassId × FieldType)}
theorem v_lload_n (C0 : CallFix p m c cc nL s args Ts own) {pc' : Nat} {j : Fin 4} {i : Nat} {x : Int64} (q : Nat) (hk : lv[q]? = some (i, .long x)) (hi : (j : Nat) = i) (hdg : decode cc pc = .ok (.lload_n j, 1)) (hn : pc + 1 = pc') (kk : V p l e R s m args below meth c D A nL k n Q ws lv pc' (.long x :: st)) : V p l e R s m args below meth c D A nL k n Q ws lv pc (st) := fun H locs ls hP hD hS hl => lv_lload_n C0.1 C0.2.1 hdg hi (lv_at hl q hk) (hn ▸ kk H locs ls hP hD hS hl)
theorem v_lload (C0 : CallFix p m c cc nL s args Ts own) {pc' : Nat} {i : Nat} {x : Int64} (q : Nat) (hk : lv[q]? = some (i, .long x)) (hdg : decode cc pc = .ok (.lload i, 2)) (hn : pc + 2 = pc') (kk : V p l e R s m args below meth c D A nL k n Q ws lv pc' (.long x :: st)) : V p l e R s m args below meth c D A nL k n Q ws lv pc (st) := fun H locs ls hP hD hS hl => lv_lload C0.1 C0.2.1 hdg (lv_at hl q hk) (hn ▸ kk H locs ls hP hD hS hl)
theorem v_lstore (C0 : CallFix p m c cc nL s args Ts own) {i : Nat} {x : Int64} {pc' : Nat} (hn1 : i + 1 < nL) (hv : (i, Value.long x) :: lv.filter (fun q => !(q.1 == i) && (!(q.1 == i + 1) && !(q.1 + 1 == i && q.2.category == 2))) = lv') (hdg : decode cc pc = .ok (.lstore i, 2)) (hn : pc + 2 = pc') (kk : V p l e R s m args below meth c D A nL k n Q ws lv' pc' (st)) : V p l e R s m args below meth c D A nL k n Q ws lv pc (Value.long x :: st) := fun H locs ls hP hD hS hl => lv_lstore C0.1 C0.2.1 hdg hl hn1 hv (fun ls2 hl2 => hn ▸ kk H locs ls2 hP hD hS hl2)
theorem v_lorN (C0 : CallFix p m c cc nL s args Ts own) {pc' : Nat} {x y : Nat}  (hdg : decode cc pc = .ok (.lor, 1)) (hn : pc + 1 = pc') (kk : V p l e R s m args below meth c D A nL k n Q ws lv pc' (.long (nJ (x ||| y)) :: st)) : V p l e R s m args below meth c D A nL k n Q ws lv pc (.long (nJ y) :: .long (nJ x) :: st) := fun H locs ls hP hD hS hl => lv_lor C0.1 C0.2.1 hdg (nJ_or x y ▸ hn ▸ kk H locs ls hP hD hS hl)
theorem v_land1 (C0 : CallFix p m c cc nL s args Ts own) {pc' : Nat} {x : Nat}  (hdg : decode cc pc = .ok (.land, 1)) (hn : pc + 1 = pc') (kk : V p l e R s m args below meth c D A nL k n Q ws lv pc' (.long (nJ (x % 2)) :: st)) : V p l e R s m args below meth c D A nL k n Q ws lv pc (.long 1 :: .long (nJ x) :: st) := fun H locs ls hP hD hS hl => lv_land C0.1 C0.2.1 hdg (nJ_and1 x ▸ hn ▸ kk H locs ls hP hD hS hl)
theorem v_lshlN (C0 : CallFix p m c cc nL s args Ts own) {pc' : Nat} {y : Nat} (hy : y < 36) (hdg : decode cc pc = .ok (.lshl, 1)) (hn : pc + 1 = pc') (kk : V p l e R s m args below meth c D A nL k n Q ws lv pc' (.long (nJ (2 ^ y)) :: st)) : V p l e R s m args below meth c D A nL k n Q ws lv pc (.int (nI y) :: .long 1 :: st) := fun H locs ls hP hD hS hl => lv_lshl C0.1 C0.2.1 hdg (nJ_shl y hy) (hn ▸ kk H locs ls hP hD hS hl)
theorem v_lshrN (C0 : CallFix p m c cc nL s args Ts own) {pc' : Nat} {x y : Nat} (hx : x < 2 ^ 63) (hy : y < 36) (hdg : decode cc pc = .ok (.lshr, 1)) (hn : pc + 1 = pc') (kk : V p l e R s m args below meth c D A nL k n Q ws lv pc' (.long (nJ (x / 2 ^ y)) :: st)) : V p l e R s m args below meth c D A nL k n Q ws lv pc (.int (nI y) :: .long (nJ x) :: st) := fun H locs ls hP hD hS hl => lv_lshr C0.1 C0.2.1 hdg (nJ_shr hx hy) (hn ▸ kk H locs ls hP hD hS hl)
theorem v_l2iN (C0 : CallFix p m c cc nL s args Ts own) {pc' : Nat} {x : Nat}  (hdg : decode cc pc = .ok (.l2i, 1)) (hn : pc + 1 = pc') (kk : V p l e R s m args below meth c D A nL k n Q ws lv pc' (.int (nI x) :: st)) : V p l e R s m args below meth c D A nL k n Q ws lv pc (.long (nJ x) :: st) := fun H locs ls hP hD hS hl => lv_l2i C0.1 C0.2.1 hdg (nJ_i x) (hn ▸ kk H locs ls hP hD hS hl)
theorem v_lc1 (C0 : CallFix p m c cc nL s args Ts own) {x : Nat} {off : Int} (tgt : Nat) {pc1 pc' : Nat} (hx : x < 2 ^ 62) (hdg : decode cc pc = .ok (.lcmp, 1)) (h1 : pc + 1 = pc1) (hd1 : decode cc pc1 = .ok (.ifCond .ne off, 3)) (ht : (pc1 : Int) + off = (tgt : Int)) (hn : pc1 + 3 = pc') (kt : ¬ x = 1 → V p l e R s m args below meth c D A nL k n Q ws lv tgt (st)) (kf : x = 1 → V p l e R s m args below meth c D A nL k n Q ws lv pc' (st)) : V p l e R s m args below meth c D A nL k n Q ws lv pc (.long 1 :: .long (nJ x) :: st) := by
  refine v_lcmp C0 hdg h1 (v_if_ne C0 tgt hd1 ht hn (fun h => kt (fun z => h ?_)) (fun h => kf ?_))
  · subst z
    show lg_cmp 1 1 = 0
    unfold lg_cmp
    rw [if_neg (fun z => Int64.lt_irrefl z), if_pos rfl]
  · have h2 : nJ x = 1 := by
      unfold lg_cmp at h
      split at h
      · exact absurd h (by decide)
      · split at h
        · assumption
        · exact absurd h (by decide)
    exact (nJ_eq (b := 1) (by omega) (by decide)).mp h2
theorem v_iaddN (C0 : CallFix p m c cc nL s args Ts own) {pc' : Nat} {x y : Nat}  (hdg : decode cc pc = .ok (.iadd, 1)) (hn : pc + 1 = pc') (kk : V p l e R s m args below meth c D A nL k n Q ws lv pc' (.int (nI (x + y)) :: st)) : V p l e R s m args below meth c D A nL k n Q ws lv pc (.int (nI y) :: .int (nI x) :: st) := v_iadd C0 hdg hn (nI_add x y ▸ kk)
theorem v_imulN (C0 : CallFix p m c cc nL s args Ts own) {pc' : Nat} {x y : Nat}  (hdg : decode cc pc = .ok (.imul, 1)) (hn : pc + 1 = pc') (kk : V p l e R s m args below meth c D A nL k n Q ws lv pc' (.int (nI (x * y)) :: st)) : V p l e R s m args below meth c D A nL k n Q ws lv pc (.int (nI y) :: .int (nI x) :: st) := v_imul C0 hdg hn (pk_mul x y ▸ kk)
theorem v_isubN (C0 : CallFix p m c cc nL s args Ts own) {pc' : Nat} {x y : Nat} (h : y ≤ x) (hdg : decode cc pc = .ok (.isub, 1)) (hn : pc + 1 = pc') (kk : V p l e R s m args below meth c D A nL k n Q ws lv pc' (.int (nI (x - y)) :: st)) : V p l e R s m args below meth c D A nL k n Q ws lv pc (.int (nI y) :: .int (nI x) :: st) := v_isub C0 hdg hn (pk_sub h ▸ kk)
theorem v_idivN (C0 : CallFix p m c cc nL s args Ts own) {pc' : Nat} {x y : Nat} (hx : x < 2 ^ 31) (h0 : 0 < y) (hy : y < 2 ^ 31) (hdg : decode cc pc = .ok (.idiv, 1)) (hn : pc + 1 = pc') (kk : V p l e R s m args below meth c D A nL k n Q ws lv pc' (.int (nI (x / y)) :: st)) : V p l e R s m args below meth c D A nL k n Q ws lv pc (.int (nI y) :: .int (nI x) :: st) := v_idiv C0 (nI_ne0 h0 hy) hdg hn (pk_div hx h0 hy ▸ kk)
theorem v_iremN (C0 : CallFix p m c cc nL s args Ts own) {pc' : Nat} {x y : Nat} (hx : x < 2 ^ 31) (h0 : 0 < y) (hy : y < 2 ^ 31) (hdg : decode cc pc = .ok (.irem, 1)) (hn : pc + 1 = pc') (kk : V p l e R s m args below meth c D A nL k n Q ws lv pc' (.int (nI (x % y)) :: st)) : V p l e R s m args below meth c D A nL k n Q ws lv pc (.int (nI y) :: .int (nI x) :: st) := v_irem C0 (nI_ne0 h0 hy) hdg hn (pk_rem hx h0 hy ▸ kk)
theorem v_idivP (C0 : CallFix p m c cc nL s args Ts own) {pc' : Nat} {x : Nat} (hx : x < 2 ^ 31) (hdg : decode cc pc = .ok (.idiv, 1)) (hn : pc + 1 = pc') (kk : V p l e R s m args below meth c D A nL k n Q ws lv pc' (.int (nI ((x - 1) / 6)) :: st)) : V p l e R s m args below meth c D A nL k n Q ws lv pc (.int (nI 6) :: .int (nI x - nI 1) :: st) := v_idiv C0 (nI_ne0 (by decide) (by decide)) hdg hn (nI_pre6 hx ▸ kk)
theorem v_iandN (C0 : CallFix p m c cc nL s args Ts own) {pc' : Nat} {x y : Nat}  (hdg : decode cc pc = .ok (.iand, 1)) (hn : pc + 1 = pc') (kk : V p l e R s m args below meth c D A nL k n Q ws lv pc' (.int (nI (x &&& y)) :: st)) : V p l e R s m args below meth c D A nL k n Q ws lv pc (.int (nI y) :: .int (nI x) :: st) := v_iand C0 hdg hn (nx_and x y ▸ kk)
theorem v_iand1 (C0 : CallFix p m c cc nL s args Ts own) {pc' : Nat} {x : Nat}  (hdg : decode cc pc = .ok (.iand, 1)) (hn : pc + 1 = pc') (kk : V p l e R s m args below meth c D A nL k n Q ws lv pc' (.int (nI (x % 2)) :: st)) : V p l e R s m args below meth c D A nL k n Q ws lv pc (.int (nI 1) :: .int (nI x) :: st) := v_iand C0 hdg hn (nI_and1 x ▸ kk)
theorem v_iorN (C0 : CallFix p m c cc nL s args Ts own) {pc' : Nat} {x y : Nat}  (hdg : decode cc pc = .ok (.ior, 1)) (hn : pc + 1 = pc') (kk : V p l e R s m args below meth c D A nL k n Q ws lv pc' (.int (nI (x ||| y)) :: st)) : V p l e R s m args below meth c D A nL k n Q ws lv pc (.int (nI y) :: .int (nI x) :: st) := v_ior C0 hdg hn (fa_or x y ▸ kk)
theorem v_ixorN (C0 : CallFix p m c cc nL s args Ts own) {pc' : Nat} {x y : Nat}  (hdg : decode cc pc = .ok (.ixor, 1)) (hn : pc + 1 = pc') (kk : V p l e R s m args below meth c D A nL k n Q ws lv pc' (.int (nI (x ^^^ y)) :: st)) : V p l e R s m args below meth c D A nL k n Q ws lv pc (.int (nI y) :: .int (nI x) :: st) := v_ixor C0 hdg hn (nx_xor x y ▸ kk)
theorem v_ixorM (C0 : CallFix p m c cc nL s args Ts own) {pc' : Nat} {x : Nat}  (hdg : decode cc pc = .ok (.ixor, 1)) (hn : pc + 1 = pc') (kk : V p l e R s m args below meth c D A nL k n Q ws lv pc' (.int (nI (x ^^^ 4294967295)) :: st)) : V p l e R s m args below meth c D A nL k n Q ws lv pc (.int (-1) :: .int (nI x) :: st) := v_ixor C0 hdg hn ((show nI x ^^^ (-1) = nI (x ^^^ 4294967295) by rw [show (-1 : Int32) = nI 4294967295 by decide +kernel, nx_xor]) ▸ kk)
theorem v_ishlN (C0 : CallFix p m c cc nL s args Ts own) {pc' : Nat} {y : Nat} (hy : y < 16) (hdg : decode cc pc = .ok (.ishl, 1)) (hn : pc + 1 = pc') (kk : V p l e R s m args below meth c D A nL k n Q ws lv pc' (.int (nI (2 ^ y)) :: st)) : V p l e R s m args below meth c D A nL k n Q ws lv pc (.int (nI y) :: .int (nI 1) :: st) := v_ishl C0 hdg hn ((show nI 1 <<< (nI y &&& 31) = nI (2 ^ y) from nI_shl y hy) ▸ kk)
theorem v_ishrN (C0 : CallFix p m c cc nL s args Ts own) {pc' : Nat} {x y : Nat} (hx : x < 2 ^ 31) (hy : y < 16) (hdg : decode cc pc = .ok (.ishr, 1)) (hn : pc + 1 = pc') (kk : V p l e R s m args below meth c D A nL k n Q ws lv pc' (.int (nI (x / 2 ^ y)) :: st)) : V p l e R s m args below meth c D A nL k n Q ws lv pc (.int (nI y) :: .int (nI x) :: st) := v_ishr C0 hdg hn (nI_shr hx hy ▸ kk)
theorem v_iincN (C0 : CallFix p m c cc nL s args Ts own) {i x y : Nat} {pc' : Nat} (q : Nat) (hk : lv[q]? = some (i, .int (nI x))) (hn1 : i < nL) (hv : (i, Value.int (nI (x + y))) :: lv.filter (fun q => !(q.1 == i) && !(q.1 + 1 == i && q.2.category == 2)) = lv') (hdg : decode cc pc = .ok (.iinc i (y : Int), 3)) (hn : pc + 3 = pc') (kk : V p l e R s m args below meth c D A nL k n Q ws lv' pc' (st)) : V p l e R s m args below meth c D A nL k n Q ws lv pc (st) := v_iinc C0 q hk (nI (x + y)) (by rw [Int32.ofInt_eq_ofNat]; exact nI_add x y) hn1 hv hdg hn kk
theorem v_dup2 (C0 : CallFix p m c cc nL s args Ts own) {pc' : Nat} {va vb : Value} (ha : va.category = 1) (hb : vb.category = 1) (hdg : decode cc pc = .ok (.dup2, 1)) (hn : pc + 1 = pc') (kk : V p l e R s m args below meth c D A nL k n Q ws lv pc' (va :: vb :: va :: vb :: st)) : V p l e R s m args below meth c D A nL k n Q ws lv pc (va :: vb :: st) := fun H locs ls hP hD hS hl => lv_dup2_11 C0.1 C0.2.1 hdg ha hb (hn ▸ kk H locs ls hP hD hS hl)
theorem v_ialdN (C0 : CallFix p m c cc nL s args Ts own) (hK : va_K D vwCl tys s) {a z i : Nat} {cA : ClassId} {g : Nat → Nat} {pc' : Nat} (q0 t0 : Nat) (ha : ws[q0]? = some (a, .inl (cA, z, .inl (nA g)))) (ht : tys[t0]? = some (cA, .int)) (hi : i < z) (hz : z < 2 ^ 31) (hdg : decode cc pc = .ok (.iaload, 1)) (hn : pc + 1 = pc') (kk : V p l e R s m args below meth c D A nL k n Q ws lv pc' (.int (nI (g i)) :: st)) : V p l e R s m args below meth c D A nL k n Q ws lv pc (.int (nI i) :: .ref a :: st) := v_iald C0 hK q0 t0 ha ht (vp_in_nI hi hz) hdg hn (by rw [nI_clamp (show i < 2 ^ 31 by omega)]; exact kk)
theorem v_iastN (C0 : CallFix p m c cc nL s args Ts own) (hK : va_K D vwCl tys s) {a z i x : Nat} {cA : ClassId} {g : Nat → Nat} {pc' : Nat} (q0 t0 : Nat) (ha : ws[q0]? = some (a, .inl (cA, z, .inl (nA g)))) (hw : ws.set q0 (a, .inl (cA, z, .inl (nA (updN g i x)))) = ws') (ht : tys[t0]? = some (cA, .int)) (hi : i < z) (hz : z < 2 ^ 31) (hdg : decode cc pc = .ok (.iastore, 1)) (hn : pc + 1 = pc') (kk : V p l e R s m args below meth c D A nL k n Q ws' lv pc' (st)) : V p l e R s m args below meth c D A nL k n Q ws lv pc (.int (nI x) :: .int (nI i) :: .ref a :: st) := v_iast C0 hK q0 t0 ha (by rw [nI_clamp (show i < 2 ^ 31 by omega), nA_upd]; exact hw) ht (vp_in_nI hi hz) hdg hn kk
theorem nI_eq0 {x : Nat} (hx : x < 2 ^ 31) : nI x = 0 ↔ x = 0 := nI_eq (b := 0) hx (by decide)
theorem nI_le0 {x : Nat} (hx : x < 2 ^ 31) : nI x ≤ 0 ↔ x = 0 := (nI_leI (b := 0) hx (by decide)).trans ⟨Nat.le_zero.mp, fun h => Nat.le_zero.mpr h⟩
theorem v_if_eqN (C0 : CallFix p m c cc nL s args Ts own) {x : Nat} {off : Int} (tgt : Nat) {pc' : Nat} (hx : x < 2 ^ 31) (hdg : decode cc pc = .ok (.ifCond .eq off, 3)) (ht : (pc : Int) + off = (tgt : Int)) (hn : pc + 3 = pc') (kt : x = 0 → V p l e R s m args below meth c D A nL k n Q ws lv tgt (st)) (kf : ¬ x = 0 → V p l e R s m args below meth c D A nL k n Q ws lv pc' (st)) : V p l e R s m args below meth c D A nL k n Q ws lv pc (.int (nI x) :: st) := v_if_eq C0 tgt hdg ht hn (fun h => kt ((nI_eq0 hx).mp h)) (fun h => kf (fun z => h ((nI_eq0 hx).mpr z)))
theorem v_if_neN (C0 : CallFix p m c cc nL s args Ts own) {x : Nat} {off : Int} (tgt : Nat) {pc' : Nat} (hx : x < 2 ^ 31) (hdg : decode cc pc = .ok (.ifCond .ne off, 3)) (ht : (pc : Int) + off = (tgt : Int)) (hn : pc + 3 = pc') (kt : ¬ x = 0 → V p l e R s m args below meth c D A nL k n Q ws lv tgt (st)) (kf : x = 0 → V p l e R s m args below meth c D A nL k n Q ws lv pc' (st)) : V p l e R s m args below meth c D A nL k n Q ws lv pc (.int (nI x) :: st) := v_if_ne C0 tgt hdg ht hn (fun h => kt (fun z => h ((nI_eq0 hx).mpr z))) (fun h => kf ((nI_eq0 hx).mp h))
theorem v_if_leN (C0 : CallFix p m c cc nL s args Ts own) {x : Nat} {off : Int} (tgt : Nat) {pc' : Nat} (hx : x < 2 ^ 31) (hdg : decode cc pc = .ok (.ifCond .le off, 3)) (ht : (pc : Int) + off = (tgt : Int)) (hn : pc + 3 = pc') (kt : x = 0 → V p l e R s m args below meth c D A nL k n Q ws lv tgt (st)) (kf : ¬ x = 0 → V p l e R s m args below meth c D A nL k n Q ws lv pc' (st)) : V p l e R s m args below meth c D A nL k n Q ws lv pc (.int (nI x) :: st) := v_if_le C0 tgt hdg ht hn (fun h => kt ((nI_le0 hx).mp h)) (fun h => kf (fun z => h ((nI_le0 hx).mpr z)))
theorem v_icmp_eqN (C0 : CallFix p m c cc nL s args Ts own) {x y : Nat} {off : Int} (tgt : Nat) {pc' : Nat} (hx : x < 2 ^ 31) (hy : y < 2 ^ 31) (hdg : decode cc pc = .ok (.if_icmp .eq off, 3)) (ht : (pc : Int) + off = (tgt : Int)) (hn : pc + 3 = pc') (kt : x = y → V p l e R s m args below meth c D A nL k n Q ws lv tgt (st)) (kf : ¬ x = y → V p l e R s m args below meth c D A nL k n Q ws lv pc' (st)) : V p l e R s m args below meth c D A nL k n Q ws lv pc (.int (nI y) :: .int (nI x) :: st) := v_icmp_eq C0 tgt hdg ht hn (fun h => kt ((nI_eq hx hy).mp h)) (fun h => kf (fun z => h ((nI_eq hx hy).mpr z)))
theorem v_icmp_neN (C0 : CallFix p m c cc nL s args Ts own) {x y : Nat} {off : Int} (tgt : Nat) {pc' : Nat} (hx : x < 2 ^ 31) (hy : y < 2 ^ 31) (hdg : decode cc pc = .ok (.if_icmp .ne off, 3)) (ht : (pc : Int) + off = (tgt : Int)) (hn : pc + 3 = pc') (kt : ¬ x = y → V p l e R s m args below meth c D A nL k n Q ws lv tgt (st)) (kf : x = y → V p l e R s m args below meth c D A nL k n Q ws lv pc' (st)) : V p l e R s m args below meth c D A nL k n Q ws lv pc (.int (nI y) :: .int (nI x) :: st) := v_icmp_ne C0 tgt hdg ht hn (fun h => kt (fun z => h ((nI_eq hx hy).mpr z))) (fun h => kf ((nI_eq hx hy).mp h))
theorem v_icmp_geN (C0 : CallFix p m c cc nL s args Ts own) {x y : Nat} {off : Int} (tgt : Nat) {pc' : Nat} (hx : x < 2 ^ 31) (hy : y < 2 ^ 31) (hdg : decode cc pc = .ok (.if_icmp .ge off, 3)) (ht : (pc : Int) + off = (tgt : Int)) (hn : pc + 3 = pc') (kt : y ≤ x → V p l e R s m args below meth c D A nL k n Q ws lv tgt (st)) (kf : ¬ y ≤ x → V p l e R s m args below meth c D A nL k n Q ws lv pc' (st)) : V p l e R s m args below meth c D A nL k n Q ws lv pc (.int (nI y) :: .int (nI x) :: st) := v_icmp_ge C0 tgt hdg ht hn (fun h => kt ((nI_leI hy hx).mp h)) (fun h => kf (fun z => h ((nI_leI hy hx).mpr z)))
theorem v_icmp_gtN (C0 : CallFix p m c cc nL s args Ts own) {x y : Nat} {off : Int} (tgt : Nat) {pc' : Nat} (hx : x < 2 ^ 31) (hy : y < 2 ^ 31) (hdg : decode cc pc = .ok (.if_icmp .gt off, 3)) (ht : (pc : Int) + off = (tgt : Int)) (hn : pc + 3 = pc') (kt : y < x → V p l e R s m args below meth c D A nL k n Q ws lv tgt (st)) (kf : ¬ y < x → V p l e R s m args below meth c D A nL k n Q ws lv pc' (st)) : V p l e R s m args below meth c D A nL k n Q ws lv pc (.int (nI y) :: .int (nI x) :: st) := v_icmp_gt C0 tgt hdg ht hn (fun h => kt ((nI_ltI hy hx).mp h)) (fun h => kf (fun z => h ((nI_ltI hy hx).mpr z)))
theorem v_icmp_leN (C0 : CallFix p m c cc nL s args Ts own) {x y : Nat} {off : Int} (tgt : Nat) {pc' : Nat} (hx : x < 2 ^ 31) (hy : y < 2 ^ 31) (hdg : decode cc pc = .ok (.if_icmp .le off, 3)) (ht : (pc : Int) + off = (tgt : Int)) (hn : pc + 3 = pc') (kt : x ≤ y → V p l e R s m args below meth c D A nL k n Q ws lv tgt (st)) (kf : ¬ x ≤ y → V p l e R s m args below meth c D A nL k n Q ws lv pc' (st)) : V p l e R s m args below meth c D A nL k n Q ws lv pc (.int (nI y) :: .int (nI x) :: st) := v_icmp_le C0 tgt hdg ht hn (fun h => kt ((nI_leI hx hy).mp h)) (fun h => kf (fun z => h ((nI_leI hx hy).mpr z)))
theorem v_icmp_ltN (C0 : CallFix p m c cc nL s args Ts own) {x y : Nat} {off : Int} (tgt : Nat) {pc' : Nat} (hx : x < 2 ^ 31) (hy : y < 2 ^ 31) (hdg : decode cc pc = .ok (.if_icmp .lt off, 3)) (ht : (pc : Int) + off = (tgt : Int)) (hn : pc + 3 = pc') (kt : x < y → V p l e R s m args below meth c D A nL k n Q ws lv tgt (st)) (kf : ¬ x < y → V p l e R s m args below meth c D A nL k n Q ws lv pc' (st)) : V p l e R s m args below meth c D A nL k n Q ws lv pc (.int (nI y) :: .int (nI x) :: st) := v_icmp_lt C0 tgt hdg ht hn (fun h => kt ((nI_ltI hx hy).mp h)) (fun h => kf (fun z => h ((nI_ltI hx hy).mpr z)))
theorem v_lv (h : lv = lv') (kk : V p l e R s m args below meth c D A nL k n Q ws lv' pc (st)) : V p l e R s m args below meth c D A nL k n Q ws lv pc (st) := h ▸ kk
theorem v_if_ltO (C0 : CallFix p m c cc nL s args Ts own) {x : Nat} {off : Int} (tgt : Nat) {pc' : Nat} (hdg : decode cc pc = .ok (.ifCond .lt off, 3)) (ht : (pc : Int) + off = (tgt : Int)) (hn : pc + 3 = pc') (kt : 6 ≤ x → V p l e R s m args below meth c D A nL k n Q ws lv tgt (st)) (kf : ¬ 6 ≤ x → V p l e R s m args below meth c D A nL k n Q ws lv pc' (st)) : V p l e R s m args below meth c D A nL k n Q ws lv pc (.int (oI x) :: st) := v_if_lt C0 tgt hdg ht hn (fun h => kt (oI_lt.mp h)) (fun h => kf (fun z => h (oI_lt.mpr z)))
theorem v_icmp_eqO (C0 : CallFix p m c cc nL s args Ts own) {x y : Nat} {off : Int} (tgt : Nat) {pc' : Nat} (hy : y < 6) (hdg : decode cc pc = .ok (.if_icmp .eq off, 3)) (ht : (pc : Int) + off = (tgt : Int)) (hn : pc + 3 = pc') (kt : x = y → V p l e R s m args below meth c D A nL k n Q ws lv tgt (st)) (kf : ¬ x = y → V p l e R s m args below meth c D A nL k n Q ws lv pc' (st)) : V p l e R s m args below meth c D A nL k n Q ws lv pc (.int (nI y) :: .int (oI x) :: st) := v_icmp_eq C0 tgt hdg ht hn (fun h => kt ((oI_eq hy).mp h)) (fun h => kf (fun z => h ((oI_eq hy).mpr z)))
theorem v_icmp_neO (C0 : CallFix p m c cc nL s args Ts own) {x y : Nat} {off : Int} (tgt : Nat) {pc' : Nat} (hy : y < 6) (hdg : decode cc pc = .ok (.if_icmp .ne off, 3)) (ht : (pc : Int) + off = (tgt : Int)) (hn : pc + 3 = pc') (kt : ¬ x = y → V p l e R s m args below meth c D A nL k n Q ws lv tgt (st)) (kf : x = y → V p l e R s m args below meth c D A nL k n Q ws lv pc' (st)) : V p l e R s m args below meth c D A nL k n Q ws lv pc (.int (nI y) :: .int (oI x) :: st) := v_icmp_ne C0 tgt hdg ht hn (fun h => kt (fun z => h ((oI_eq hy).mpr z))) (fun h => kf ((oI_eq hy).mp h))
theorem v_eqn {x y : Nat} (h : x = y) (kk : V p l e R s m args below meth c D A nL k n Q ws lv pc (.int (nI y) :: st)) : V p l e R s m args below meth c D A nL k n Q ws lv pc (.int (nI x) :: st) := h ▸ kk
theorem v_eql {x y : Nat} (h : x = y) (kk : V p l e R s m args below meth c D A nL k n Q ws lv pc (.long (nJ y) :: st)) : V p l e R s m args below meth c D A nL k n Q ws lv pc (.long (nJ x) :: st) := h ▸ kk
theorem v_front {W : va_W} {x : Nat × va_E} (kk : V p l e R s m args below meth c D A nL k n Q (x :: W) lv pc st) : V p l e R s m args below meth c D A nL k n Q (W ++ [x]) lv pc st := by
  intro H locs ls hP hD hS hl
  have hx : (W ++ [x])[W.length + 0]? = some x := ap_r (B := [x]) (k := 0) rfl
  refine kk H locs ls (fun k q hq => ?_) ⟨fun i j p q hi hj he => ?_, fun k q hq => ?_⟩ hS hl
  · cases k with
    | zero => cases hq; exact hP _ _ hx
    | succ k => exact hP k q (ap_l hq)
  · cases i with
    | zero =>
      cases hi
      cases j with
      | zero => rfl
      | succ j =>
        have h1 := hD.1 _ _ _ _ hx (ap_l (B := [x]) (show W[j]? = some q from hj)) he
        have h2 := (List.getElem?_eq_some_iff.mp (show W[j]? = some q from hj)).1
        omega
    | succ i =>
      cases j with
      | zero =>
        cases hj
        have h1 := hD.1 _ _ _ _ (ap_l (B := [x]) (show W[i]? = some p from hi)) hx he
        have h2 := (List.getElem?_eq_some_iff.mp (show W[i]? = some p from hi)).1
        omega
      | succ j =>
        have h1 := hD.1 _ _ _ _ (ap_l (B := [x]) (show W[i]? = some p from hi)) (ap_l (B := [x]) (show W[j]? = some q from hj)) he
        omega
  · cases k with
    | zero => cases hq; exact hD.2 _ _ hx
    | succ k => exact hD.2 k q (ap_l hq)
theorem v_tail {W : va_W} {x : Nat × va_E} (kk : V p l e R s m args below meth c D A nL k n Q W lv pc st) : V p l e R s m args below meth c D A nL k n Q (x :: W) lv pc st := by
  intro H locs ls hP hD hS hl
  refine kk H locs ls (fun k q hq => hP (k + 1) q hq) ⟨fun i j p q hi hj he => ?_, fun k q hq => hD.2 (k + 1) q hq⟩ hS hl
  have := hD.1 (i + 1) (j + 1) p q hi hj he
  omega
theorem v_newN (C0 : CallFix p m c cc nL s args Ts own) (hK : va_K D vwCl tys s) (hA : ∀ q, s.heap.size ≤ q → A q) (t0 : Nat) {cI : ClassId} (ht : tys[t0]? = some (cI, .int)) {N pc' k' n' : Nat} (hN : N < 1000) (hc : k + 1 ≤ R.cells) (hs : n + N ≤ R.slots) (harr : Cond.arrayClass .int ∈ Ts) (hdg : decode cc pc = .ok (.newarray .int, 2)) (hpc : pc + 2 = pc') (hk' : k + 1 = k') (hn' : n + N = n') (kk : ∀ q : Nat, V p l e R s m args below meth c D A nL k' n' Q ((q, .inl (cI, N, .inl (nA (fun _ => 0)))) :: ws) lv pc' (.ref q :: st)) : V p l e R s m args below meth c D A nL k n Q ws lv pc (.int (nI N) :: st) :=
  v_newa C0 hK hA t0 ht (N := N) (nI_pos (by omega)) (nI_clamp (by omega)) (by show N * 4 ≤ 536870912; omega) hc hs harr hdg hk' hn' hpc (fun q => v_front (kk q))
/-- a contract that answers a long -/
def QL (D : va_G) (tys : List (ClassId × FieldType)) (W1 : va_W) (A : Nat → Prop) (r : Int64) : Array Value → State → Outcome → State → Prop := va_Ql (fun x (_ : Unit) => x = r) (fun _ t => CQ D tys W1 A t) A
def Kl (l : Launch) (y : MethodName) (wy : List Cond) (fr lo mc ms : Nat) (D : va_G) (tys : List (ClassId × FieldType)) (av : List Value) (W0 W1 : va_W) (r : Int64) : Prop := ∀ sz, Met l y wy { frames := fr, cells := mc, slots := ms, locals := lo } (va_Pc av (CP D tys W0 sz)) (QL D tys W1 (va_A W0 sz) r) mc ms (va_A W0 sz)
theorem Kl.of {y : MethodName} {wy ws' : List Cond} {fr lo mc ms maxL : Nat} {av : List Value} {W0 W1 : va_W} {r : Int64} {lv0 : List (Nat × Value)} (hy : plainName y.cls = true) (hw : wy = Cond.code y cc maxL (some .long) :: ws') (hlen : (lg_sl av).length ≤ maxL) (hlv : lv_args 0 av = lv0)
    (body : ∀ (p : Program) (e : Env) (s : State) (m : MethodId) (args : Array Value) (below : List Frame) (meth : Method) (c : Code) (A : Nat → Prop), CallFix p m c cc maxL s args wy y.cls → meth.sig.returnType = some .long → meth.locks = false → va_K D vwCl tys s → (∀ q, s.heap.size ≤ q → A q) → V p l e { frames := fr, cells := mc, slots := ms, locals := lo } s m args below meth c D A maxL 0 0 (MQ below (QL D tys W1 A r) args s mc ms A) W0 lv0 0 []) : Kl l y wy fr lo mc ms D tys av W0 W1 r := by
  intro sz
  refine Met.ofW (cc := cc) (maxL := maxL) (ret := some .long) hy hw ?_
  intro p e s m args below meth c s₁ B hml hv
  obtain ⟨rfl, hsz, hP, hK, hD0⟩ := hv
  subst hsz
  have hl := lv_entry av (n := maxL) hlen
  rw [lg_entry_eq]
  rw [hlv] at hl
  exact body p e s m _ below meth c _ ⟨B.exec, B.bytes, hml, findClass_of_methodNamed B.named, atoms_spec (ws := wy) B.pre⟩ B.returns B.notSynchronized hK (fun q h => Or.inr h) _ _ _ hP hD0.self va_S.rf hl
theorem v_lret (C0 : CallFix p m c cc nL s args Ts own) (hr : meth.sig.returnType = some .long) (hlk : meth.locks = false) (hK : va_K D vwCl tys s) {v r : Int64} (hv : v = r) (hdg : decode cc pc = .ok (.lreturn, 1)) : V p l e R s m args below meth c D A nL k n (MQ below (QL D tys ws A r) args s k n A) ws lv pc [.long v] := fun H locs ls hP hD hS hl => W.lret C0.1 C0.2.1 hr (fun t ht hW => ⟨⟨v, (), rfl, hv, by rw [ht]; exact hP, va_K.moved hW.alike hK, hD⟩, hS.F ht⟩) hS.2.2 hdg hlk
theorem v_callSl (C0 : CallFix p m c cc nL s args Ts own) {y : MethodName} {bytes : ByteArray} {maxL fr lo mc ms na index : Nat} {ret : Option FieldType} {wy : List Cond} {av rest : List Value} {W0 W1 : va_W} {r : Int64} {pc' : Nat} (hK : va_K D vwCl tys s) (hA : ∀ q, s.heap.size ≤ q → A q) (hM : Kl l y wy fr lo mc ms D tys av W0 W1 r) (cw : CallB R s args own index y bytes maxL ret wy { frames := fr, cells := mc, slots := ms, locals := lo } mc ms na ∧ (Cond.static y).before args s = true) (hPL : PLs ws W0 W1 ws') (hlen : av.length = na) (hst : st = av.reverse ++ rest) (hro : (rest.map fun v => v.category).sum ≤ 8) (hfit : k + mc ≤ R.cells ∧ n + ms ≤ R.slots) (hdg : decode cc pc = .ok (.invokestatic index, 3)) (hn : pc + 3 = pc') (kk : V p l e R s m args below meth c D A nL (k + mc) (n + ms) Q ws' lv pc' (.long r :: rest)) : V p l e R s m args below meth c D A nL k n Q ws lv pc st := by
  intro H locs ls hP hD hS hl
  have hFc := hPL.free hD hS hA
  refine va_calll (va_runS (As := av) (rest := rest) C0 (hM H.size) cw ⟨CP.blind, fun U hU hW => ⟨rfl, by rw [hU], by rw [hU]; exact hPL.1 _ _ hP, va_K.moved hW.alike hK, (hPL.2.1 _ hD).weaken (fun _ _ _ _ => trivial)⟩⟩ rfl hlen hl.1 hst (lv_room hro) hdg hfit) hS (fun q _ h => hFc q h) hFc (fun r1 u t H1 locs1 ht hvm hw hB hz1 hk1 hS1 => ?_)
  obtain ⟨q1, q2, q3⟩ := hB
  rw [ht] at q1
  obtain ⟨hP2, hD2⟩ := hPL.2.2 _ _ _ _ hP hD hk1 hFc q1 q3
  subst hw
  exact hn ▸ kk H1 locs1 ls hP2 hD2 hS1 hl
end VKN
