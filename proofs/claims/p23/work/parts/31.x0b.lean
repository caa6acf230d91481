def bc1 (x : Int32) : Int32 := x - ((x.toUInt32 >>> ((1 : Int32).toUInt32 &&& Int32.toUInt32 31)).toInt32 &&& 1431655765)
def bc2 (x : Int32) : Int32 := (x &&& 858993459) + ((x.toUInt32 >>> ((2 : Int32).toUInt32 &&& Int32.toUInt32 31)).toInt32 &&& 858993459)
def bc3 (x : Int32) : Int32 := (x + (x.toUInt32 >>> ((4 : Int32).toUInt32 &&& Int32.toUInt32 31)).toInt32) &&& 252645135
def bc4 (x : Int32) : Int32 := x + (x.toUInt32 >>> ((8 : Int32).toUInt32 &&& Int32.toUInt32 31)).toInt32
def bc5 (x : Int32) : Int32 := x + (x.toUInt32 >>> ((16 : Int32).toUInt32 &&& Int32.toUInt32 31)).toInt32
def s_J6_bitCount_0f7a4 (x : Int32) : Int32 := (bc5 (bc4 (bc3 (bc2 (bc1 x))))) &&& 63
set_option maxHeartbeats 4000000 in
set_option maxRecDepth 100000 in
theorem k_J6_bitCount_0f7a4 (l : Launch) (D : va_G) (cI : ClassId)  (x : Int32) : Ki l yJ6_bitCount_0f7a4 wsJ6_bitCount_0f7a4 0 0 0 0 D (TI cI) [.int x] ([]) ([]) (s_J6_bitCount_0f7a4 x) := by
  refine Ki.of (cc := cJ6_bitCount_0f7a4) (maxL := 1) (rt := .int) (lv0 := [(0, .int x)]) (by decide +kernel) rfl (Nat.le_of_ble_eq_true rfl) rfl ?_
  intro p e s m args below meth c A C0 hr hlk hK hA
  refine v_iload_n C0 (pc' := 1) 0 rfl rfl dJ6_bitCount_0f7a4_0 rfl ?_
  refine v_iload_n C0 (pc' := 2) 0 rfl rfl dJ6_bitCount_0f7a4_1 rfl ?_
  refine v_iconst C0 (pc' := 3) 1 (by decide) dJ6_bitCount_0f7a4_2 rfl ?_
  refine v_iushr C0 (pc' := 4) dJ6_bitCount_0f7a4_3 rfl ?_
  refine v_ldcw C0 (pc' := 7) 1431655765 (C0.2.2.2.2 _ (by decide +kernel)) dJ6_bitCount_0f7a4_4 rfl ?_
  refine v_iand C0 (pc' := 8) dJ6_bitCount_0f7a4_7 rfl ?_
  refine v_isub C0 (pc' := 9) dJ6_bitCount_0f7a4_8 rfl ?_
  refine v_eqi (y := bc1 x) rfl ?_
  refine v_istore_n C0 (lv' := [(0, .int (bc1 x))]) (pc' := 10) rfl (by decide) rfl dJ6_bitCount_0f7a4_9 rfl ?_
  refine v_iload_n C0 (pc' := 11) 0 rfl rfl dJ6_bitCount_0f7a4_10 rfl ?_
  refine v_ldcw C0 (pc' := 14) 858993459 (C0.2.2.2.2 _ (by decide +kernel)) dJ6_bitCount_0f7a4_11 rfl ?_
  refine v_iand C0 (pc' := 15) dJ6_bitCount_0f7a4_14 rfl ?_
  refine v_iload_n C0 (pc' := 16) 0 rfl rfl dJ6_bitCount_0f7a4_15 rfl ?_
  refine v_iconst C0 (pc' := 17) 2 (by decide) dJ6_bitCount_0f7a4_16 rfl ?_
  refine v_iushr C0 (pc' := 18) dJ6_bitCount_0f7a4_17 rfl ?_
  refine v_ldcw C0 (pc' := 21) 858993459 (C0.2.2.2.2 _ (by decide +kernel)) dJ6_bitCount_0f7a4_18 rfl ?_
  refine v_iand C0 (pc' := 22) dJ6_bitCount_0f7a4_21 rfl ?_
  refine v_iadd C0 (pc' := 23) dJ6_bitCount_0f7a4_22 rfl ?_
  refine v_eqi (y := bc2 (bc1 x)) rfl ?_
  refine v_istore_n C0 (lv' := [(0, .int (bc2 (bc1 x)))]) (pc' := 24) rfl (by decide) rfl dJ6_bitCount_0f7a4_23 rfl ?_
  refine v_iload_n C0 (pc' := 25) 0 rfl rfl dJ6_bitCount_0f7a4_24 rfl ?_
  refine v_iload_n C0 (pc' := 26) 0 rfl rfl dJ6_bitCount_0f7a4_25 rfl ?_
  refine v_iconst C0 (pc' := 27) 4 (by decide) dJ6_bitCount_0f7a4_26 rfl ?_
  refine v_iushr C0 (pc' := 28) dJ6_bitCount_0f7a4_27 rfl ?_
  refine v_iadd C0 (pc' := 29) dJ6_bitCount_0f7a4_28 rfl ?_
  refine v_ldcw C0 (pc' := 32) 252645135 (C0.2.2.2.2 _ (by decide +kernel)) dJ6_bitCount_0f7a4_29 rfl ?_
  refine v_iand C0 (pc' := 33) dJ6_bitCount_0f7a4_32 rfl ?_
  refine v_eqi (y := bc3 (bc2 (bc1 x))) rfl ?_
  refine v_istore_n C0 (lv' := [(0, .int (bc3 (bc2 (bc1 x))))]) (pc' := 34) rfl (by decide) rfl dJ6_bitCount_0f7a4_33 rfl ?_
  refine v_iload_n C0 (pc' := 35) 0 rfl rfl dJ6_bitCount_0f7a4_34 rfl ?_
  refine v_iload_n C0 (pc' := 36) 0 rfl rfl dJ6_bitCount_0f7a4_35 rfl ?_
  refine v_bipush C0 (pc' := 38) 8 (by decide) dJ6_bitCount_0f7a4_36 rfl ?_
  refine v_iushr C0 (pc' := 39) dJ6_bitCount_0f7a4_38 rfl ?_
  refine v_iadd C0 (pc' := 40) dJ6_bitCount_0f7a4_39 rfl ?_
  refine v_eqi (y := bc4 (bc3 (bc2 (bc1 x)))) rfl ?_
  refine v_istore_n C0 (lv' := [(0, .int (bc4 (bc3 (bc2 (bc1 x)))))]) (pc' := 41) rfl (by decide) rfl dJ6_bitCount_0f7a4_40 rfl ?_
  refine v_iload_n C0 (pc' := 42) 0 rfl rfl dJ6_bitCount_0f7a4_41 rfl ?_
  refine v_iload_n C0 (pc' := 43) 0 rfl rfl dJ6_bitCount_0f7a4_42 rfl ?_
  refine v_bipush C0 (pc' := 45) 16 (by decide) dJ6_bitCount_0f7a4_43 rfl ?_
  refine v_iushr C0 (pc' := 46) dJ6_bitCount_0f7a4_45 rfl ?_
  refine v_iadd C0 (pc' := 47) dJ6_bitCount_0f7a4_46 rfl ?_
  refine v_eqi (y := bc5 (bc4 (bc3 (bc2 (bc1 x))))) rfl ?_
  refine v_istore_n C0 (lv' := [(0, .int (bc5 (bc4 (bc3 (bc2 (bc1 x))))))]) (pc' := 48) rfl (by decide) rfl dJ6_bitCount_0f7a4_47 rfl ?_
  refine v_iload_n C0 (pc' := 49) 0 rfl rfl dJ6_bitCount_0f7a4_48 rfl ?_
  refine v_bipush C0 (pc' := 51) 63 (by decide) dJ6_bitCount_0f7a4_49 rfl ?_
  refine v_iand C0 (pc' := 52) dJ6_bitCount_0f7a4_51 rfl ?_
  exact v_iret C0 hr hlk hK rfl dJ6_bitCount_0f7a4_52
def s_X0_endName (slot : Int32) : Int32 := if slot = (-1) then (-1) else ((slot / 6) * 10) + (slot - slot / 6 * 6)
set_option maxHeartbeats 4000000 in
set_option maxRecDepth 100000 in
theorem k_X0_endName (l : Launch) (D : va_G) (cI : ClassId)  (slot : Int32) : Ki l yX0_endName wsX0_endName 0 0 0 0 D (TI cI) [.int slot] ([]) ([]) (s_X0_endName slot) := by
  refine Ki.of (cc := cX0_endName) (maxL := 1) (rt := .int) (lv0 := [(0, .int slot)]) (by decide +kernel) rfl (Nat.le_of_ble_eq_true rfl) rfl ?_
  intro p e s m args below meth c A C0 hr hlk hK hA
  refine v_iload_n C0 (pc' := 1) 0 rfl rfl dX0_endName_0 rfl ?_
  refine v_iconst C0 (pc' := 2) (-1) (by decide) dX0_endName_1 rfl ?_
  refine v_icmp_ne C0 9 (pc' := 5) dX0_endName_2 (by decide) rfl (fun h1 => ?_) (fun h1 => ?_)
  · refine v_iload_n C0 (pc' := 10) 0 rfl rfl dX0_endName_9 rfl ?_
    refine v_bipush C0 (pc' := 12) 6 (by decide) dX0_endName_10 rfl ?_
    refine v_idiv C0 (pc' := 13) (by decide) dX0_endName_12 rfl ?_
    refine v_bipush C0 (pc' := 15) 10 (by decide) dX0_endName_13 rfl ?_
    refine v_imul C0 (pc' := 16) dX0_endName_15 rfl ?_
    refine v_iload_n C0 (pc' := 17) 0 rfl rfl dX0_endName_16 rfl ?_
    refine v_bipush C0 (pc' := 19) 6 (by decide) dX0_endName_17 rfl ?_
    refine v_irem C0 (pc' := 20) (by decide) dX0_endName_19 rfl ?_
    refine v_iadd C0 (pc' := 21) dX0_endName_20 rfl ?_
    exact v_iret C0 hr hlk hK (by simp only [s_X0_endName, if_neg h1]) dX0_endName_21
  · refine v_iconst C0 (pc' := 6) (-1) (by decide) dX0_endName_5 rfl ?_
    refine v_goto C0 21 dX0_endName_6 (by decide) ?_
    exact v_iret C0 hr hlk hK (by simp only [s_X0_endName, if_pos h1]) dX0_endName_21
def s_X0_isTagged (T : Nat → Int32) (slot : Int32) (lane : Int32) : Int32 := if ((xAt 36 T slot) &&& ((1 : Int32) <<< (lane &&& 31))) = 0 then 0 else 1
set_option maxHeartbeats 4000000 in
set_option maxRecDepth 100000 in
theorem k_X0_isTagged (l : Launch) (D : va_G) (cI : ClassId) (ad : Nat → Nat) (U : Nat → Int32) (T : Nat → Int32) (F : Nat → Int32) (C : Nat → Int32) (B : Nat → Int32) (RU : Nat → Int32) (RC : Nat → Int32) (WU : Nat → Int32) (ST : Nat → Int32) (RP : Nat → Int32) (RN : Int32) (WT : Nat → Int32) (SM : Nat → Int32) (CC : Int32) (TR : Int32) (slot : Int32) (lane : Int32) : Ki l yX0_isTagged wsX0_isTagged 1 21 0 0 D (TI cI) [.ref (ad 0), .int slot, .int lane] (wX cI ad U T F C B RU RC WU ST RP RN WT SM CC TR) (wX cI ad U T F C B RU RC WU ST RP RN WT SM CC TR) (s_X0_isTagged T slot lane) := by
  refine Ki.of (cc := cX0_isTagged) (maxL := 3) (rt := .boolean) (lv0 := [(0, .ref (ad 0)), (1, .int slot), (2, .int lane)]) (by decide +kernel) rfl (Nat.le_of_ble_eq_true rfl) rfl ?_
  intro p e s m args below meth c A C0 hr hlk hK hA
  refine v_aload_n C0 (pc' := 1) 0 rfl rfl dX0_isTagged_0 rfl ?_
  refine v_get C0 hK (C := RX0) (T := TX0) (N := 15) (pc' := 4) 0 1 rfl rfl rfl (by decide) in_X0_isTagged fl_X0_isTagged_13 rfl dX0_isTagged_1 rfl ?_
  refine v_iload_n C0 (pc' := 5) 1 rfl rfl dX0_isTagged_4 rfl ?_
  refine v_callSi0 C0 (av := [.ref (ad 2), .int slot]) (rest := []) (ws' := wX cI ad U T F C B RU RC WU ST RP RN WT SM CC TR) (pc' := 8) hK hA (k_X0_at l D cI (ad 2) 36 T slot (by decide)) (va_cwS 2 C0.2.2.2.2 gX0_isTagged_X0_at rfl rfl rfl (by decide +kernel) ⟨Nat.le_of_ble_eq_true rfl, Nat.le_of_ble_eq_true rfl⟩) (PLs.one0 2 rfl) rfl rfl (Nat.le_of_ble_eq_true rfl) ⟨Nat.zero_le _, Nat.zero_le _⟩ dX0_isTagged_5 rfl ?_
  refine v_iconst C0 (pc' := 9) 1 (by decide) dX0_isTagged_8 rfl ?_
  refine v_iload_n C0 (pc' := 10) 2 rfl rfl dX0_isTagged_9 rfl ?_
  refine v_ishl C0 (pc' := 11) dX0_isTagged_10 rfl ?_
  refine v_iand C0 (pc' := 12) dX0_isTagged_11 rfl ?_
  refine v_if_eq C0 19 (pc' := 15) dX0_isTagged_12 (by decide) rfl (fun h1 => ?_) (fun h1 => ?_)
  · refine v_iconst C0 (pc' := 20) 0 (by decide) dX0_isTagged_19 rfl ?_
    exact v_zret C0 hr hlk hK (Or.inl rfl : (0 : Int32) = 0 ∨ (0 : Int32) = 1) (by simp only [s_X0_isTagged, if_pos h1]) dX0_isTagged_20
  · refine v_iconst C0 (pc' := 16) 1 (by decide) dX0_isTagged_15 rfl ?_
    refine v_goto C0 20 dX0_isTagged_16 (by decide) ?_
    exact v_zret C0 hr hlk hK (Or.inr rfl : (1 : Int32) = 0 ∨ (1 : Int32) = 1) (by simp only [s_X0_isTagged, if_neg h1]) dX0_isTagged_20
theorem b_X0_isTagged (T : Nat → Int32) (slot : Int32) (lane : Int32) : s_X0_isTagged T slot lane = 0 ∨ s_X0_isTagged T slot lane = 1 := by unfold s_X0_isTagged; (repeat' split) <;> first | exact Or.inl rfl | exact Or.inr rfl
def s_X0_hasCable (F : Nat → Int32) (slot : Int32) : Int32 := if (xAt 36 F slot) = (-1) then 0 else 1
set_option maxHeartbeats 4000000 in
set_option maxRecDepth 100000 in
theorem k_X0_hasCable (l : Launch) (D : va_G) (cI : ClassId) (ad : Nat → Nat) (U : Nat → Int32) (T : Nat → Int32) (F : Nat → Int32) (C : Nat → Int32) (B : Nat → Int32) (RU : Nat → Int32) (RC : Nat → Int32) (WU : Nat → Int32) (ST : Nat → Int32) (RP : Nat → Int32) (RN : Int32) (WT : Nat → Int32) (SM : Nat → Int32) (CC : Int32) (TR : Int32) (slot : Int32) : Ki l yX0_hasCable wsX0_hasCable 1 21 0 0 D (TI cI) [.ref (ad 0), .int slot] (wX cI ad U T F C B RU RC WU ST RP RN WT SM CC TR) (wX cI ad U T F C B RU RC WU ST RP RN WT SM CC TR) (s_X0_hasCable F slot) := by
  refine Ki.of (cc := cX0_hasCable) (maxL := 2) (rt := .boolean) (lv0 := [(0, .ref (ad 0)), (1, .int slot)]) (by decide +kernel) rfl (Nat.le_of_ble_eq_true rfl) rfl ?_
  intro p e s m args below meth c A C0 hr hlk hK hA
  refine v_aload_n C0 (pc' := 1) 0 rfl rfl dX0_hasCable_0 rfl ?_
  refine v_get C0 hK (C := RX0) (T := TX0) (N := 15) (pc' := 4) 0 2 rfl rfl rfl (by decide) in_X0_hasCable fl_X0_hasCable_16 rfl dX0_hasCable_1 rfl ?_
  refine v_iload_n C0 (pc' := 5) 1 rfl rfl dX0_hasCable_4 rfl ?_
  refine v_callSi0 C0 (av := [.ref (ad 3), .int slot]) (rest := []) (ws' := wX cI ad U T F C B RU RC WU ST RP RN WT SM CC TR) (pc' := 8) hK hA (k_X0_at l D cI (ad 3) 36 F slot (by decide)) (va_cwS 2 C0.2.2.2.2 gX0_hasCable_X0_at rfl rfl rfl (by decide +kernel) ⟨Nat.le_of_ble_eq_true rfl, Nat.le_of_ble_eq_true rfl⟩) (PLs.one0 3 rfl) rfl rfl (Nat.le_of_ble_eq_true rfl) ⟨Nat.zero_le _, Nat.zero_le _⟩ dX0_hasCable_5 rfl ?_
  refine v_iconst C0 (pc' := 9) (-1) (by decide) dX0_hasCable_8 rfl ?_
  refine v_icmp_eq C0 16 (pc' := 12) dX0_hasCable_9 (by decide) rfl (fun h1 => ?_) (fun h1 => ?_)
  · refine v_iconst C0 (pc' := 17) 0 (by decide) dX0_hasCable_16 rfl ?_
    exact v_zret C0 hr hlk hK (Or.inl rfl : (0 : Int32) = 0 ∨ (0 : Int32) = 1) (by simp only [s_X0_hasCable, if_pos h1]) dX0_hasCable_17
  · refine v_iconst C0 (pc' := 13) 1 (by decide) dX0_hasCable_12 rfl ?_
    refine v_goto C0 17 dX0_hasCable_13 (by decide) ?_
    exact v_zret C0 hr hlk hK (Or.inr rfl : (1 : Int32) = 0 ∨ (1 : Int32) = 1) (by simp only [s_X0_hasCable, if_neg h1]) dX0_hasCable_17
theorem b_X0_hasCable (F : Nat → Int32) (slot : Int32) : s_X0_hasCable F slot = 0 ∨ s_X0_hasCable F slot = 1 := by unfold s_X0_hasCable; (repeat' split) <;> first | exact Or.inl rfl | exact Or.inr rfl
def s_X0_setCable_F (F : Nat → Int32) (slot : Int32) (fin : Int32) : Nat → Int32 := (xPut 36 F slot fin)
def s_X0_setCable_C (C : Nat → Int32) (slot : Int32) (cost : Int32) : Nat → Int32 := (xPut 36 C slot cost)
set_option maxHeartbeats 4000000 in
set_option maxRecDepth 100000 in
theorem k_X0_setCable (l : Launch) (D : va_G) (cI : ClassId) (ad : Nat → Nat) (U : Nat → Int32) (T : Nat → Int32) (F : Nat → Int32) (C : Nat → Int32) (B : Nat → Int32) (RU : Nat → Int32) (RC : Nat → Int32) (WU : Nat → Int32) (ST : Nat → Int32) (RP : Nat → Int32) (RN : Int32) (WT : Nat → Int32) (SM : Nat → Int32) (CC : Int32) (TR : Int32) (slot : Int32) (fin : Int32) (cost : Int32) : Kv l yX0_setCable wsX0_setCable 1 22 0 0 D (TI cI) [.ref (ad 0), .int slot, .int fin, .int cost] (wX cI ad U T F C B RU RC WU ST RP RN WT SM CC TR) (wX cI ad U T (s_X0_setCable_F F slot fin) (s_X0_setCable_C C slot cost) B RU RC WU ST RP RN WT SM CC TR) := by
  refine Kv.of (cc := cX0_setCable) (maxL := 4) (lv0 := [(0, .ref (ad 0)), (1, .int slot), (2, .int fin), (3, .int cost)]) (by decide +kernel) rfl (Nat.le_of_ble_eq_true rfl) rfl ?_
  intro p e s m args below meth c A C0 hr hlk hK hA
  refine v_aload_n C0 (pc' := 1) 0 rfl rfl dX0_setCable_0 rfl ?_
  refine v_get C0 hK (C := RX0) (T := TX0) (N := 15) (pc' := 4) 0 2 rfl rfl rfl (by decide) in_X0_setCable fl_X0_setCable_16 rfl dX0_setCable_1 rfl ?_
  refine v_iload_n C0 (pc' := 5) 1 rfl rfl dX0_setCable_4 rfl ?_
  refine v_iload_n C0 (pc' := 6) 2 rfl rfl dX0_setCable_5 rfl ?_
  refine v_callSv0 C0 (av := [.ref (ad 3), .int slot, .int fin]) (rest := []) (ws' := wX cI ad U T (xPut 36 F slot fin) C B RU RC WU ST RP RN WT SM CC TR) (pc' := 9) hK hA (k_X0_put l D cI (ad 3) 36 F slot fin (by decide)) (va_cwS 3 C0.2.2.2.2 gX0_setCable_X0_put rfl rfl rfl (by decide +kernel) ⟨Nat.le_of_ble_eq_true rfl, Nat.le_of_ble_eq_true rfl⟩) (PLs.one 3 rfl) rfl rfl (Nat.le_of_ble_eq_true rfl) ⟨Nat.zero_le _, Nat.zero_le _⟩ dX0_setCable_6 rfl ?_
  refine v_aload_n C0 (pc' := 10) 0 rfl rfl dX0_setCable_9 rfl ?_
  refine v_get C0 hK (C := RX0) (T := TX0) (N := 15) (pc' := 13) 0 3 rfl rfl rfl (by decide) in_X0_setCable fl_X0_setCable_19 rfl dX0_setCable_10 rfl ?_
  refine v_iload_n C0 (pc' := 14) 1 rfl rfl dX0_setCable_13 rfl ?_
  refine v_iload_n C0 (pc' := 15) 3 rfl rfl dX0_setCable_14 rfl ?_
  refine v_callSv0 C0 (av := [.ref (ad 4), .int slot, .int cost]) (rest := []) (ws' := wX cI ad U T (xPut 36 F slot fin) (xPut 36 C slot cost) B RU RC WU ST RP RN WT SM CC TR) (pc' := 18) hK hA (k_X0_put l D cI (ad 4) 36 C slot cost (by decide)) (va_cwS 3 C0.2.2.2.2 gX0_setCable_X0_put rfl rfl rfl (by decide +kernel) ⟨Nat.le_of_ble_eq_true rfl, Nat.le_of_ble_eq_true rfl⟩) (PLs.one 4 rfl) rfl rfl (Nat.le_of_ble_eq_true rfl) ⟨Nat.zero_le _, Nat.zero_le _⟩ dX0_setCable_15 rfl ?_
  refine v_world (ws' := wX cI ad U T (s_X0_setCable_F F slot fin) (s_X0_setCable_C C slot cost) B RU RC WU ST RP RN WT SM CC TR) rfl ?_
  exact v_vret C0 hr hlk hK dX0_setCable_18
def s_X0_hasLiveCable (F : Nat → Int32) (WU : Nat → Int32) (TR : Int32) (slot : Int32) : Int32 := if (xAt 36 F slot) = (-1) then 0 else (if TR = 0 then 1 else (if (xAt 6 WU (slot / 6)) = slot then 1 else (if (xAt 6 WU ((xAt 36 F slot) / 6)) = (xAt 36 F slot) then 1 else 0)))
set_option maxHeartbeats 4000000 in
set_option maxRecDepth 100000 in
theorem k_X0_hasLiveCable (l : Launch) (D : va_G) (cI : ClassId) (ad : Nat → Nat) (U : Nat → Int32) (T : Nat → Int32) (F : Nat → Int32) (C : Nat → Int32) (B : Nat → Int32) (RU : Nat → Int32) (RC : Nat → Int32) (WU : Nat → Int32) (ST : Nat → Int32) (RP : Nat → Int32) (RN : Int32) (WT : Nat → Int32) (SM : Nat → Int32) (CC : Int32) (TR : Int32) (slot : Int32) (hb_TR : TR = 0 ∨ TR = 1) : Ki l yX0_hasLiveCable wsX0_hasLiveCable 1 21 0 0 D (TI cI) [.ref (ad 0), .int slot] (wX cI ad U T F C B RU RC WU ST RP RN WT SM CC TR) (wX cI ad U T F C B RU RC WU ST RP RN WT SM CC TR) (s_X0_hasLiveCable F WU TR slot) := by
  refine Ki.of (cc := cX0_hasLiveCable) (maxL := 3) (rt := .boolean) (lv0 := [(0, .ref (ad 0)), (1, .int slot)]) (by decide +kernel) rfl (Nat.le_of_ble_eq_true rfl) rfl ?_
  intro p e s m args below meth c A C0 hr hlk hK hA
  refine v_aload_n C0 (pc' := 1) 0 rfl rfl dX0_hasLiveCable_0 rfl ?_
  refine v_get C0 hK (C := RX0) (T := TX0) (N := 15) (pc' := 4) 0 2 rfl rfl rfl (by decide) in_X0_hasLiveCable fl_X0_hasLiveCable_16 rfl dX0_hasLiveCable_1 rfl ?_
  refine v_iload_n C0 (pc' := 5) 1 rfl rfl dX0_hasLiveCable_4 rfl ?_
  refine v_callSi0 C0 (av := [.ref (ad 3), .int slot]) (rest := []) (ws' := wX cI ad U T F C B RU RC WU ST RP RN WT SM CC TR) (pc' := 8) hK hA (k_X0_at l D cI (ad 3) 36 F slot (by decide)) (va_cwS 2 C0.2.2.2.2 gX0_hasLiveCable_X0_at rfl rfl rfl (by decide +kernel) ⟨Nat.le_of_ble_eq_true rfl, Nat.le_of_ble_eq_true rfl⟩) (PLs.one0 3 rfl) rfl rfl (Nat.le_of_ble_eq_true rfl) ⟨Nat.zero_le _, Nat.zero_le _⟩ dX0_hasLiveCable_5 rfl ?_
  refine v_istore_n C0 (lv' := [(2, .int (xAt 36 F slot)), (0, .ref (ad 0)), (1, .int slot)]) (pc' := 9) rfl (by decide) rfl dX0_hasLiveCable_8 rfl ?_
  refine v_iload_n C0 (pc' := 10) 0 rfl rfl dX0_hasLiveCable_9 rfl ?_
  refine v_iconst C0 (pc' := 11) (-1) (by decide) dX0_hasLiveCable_10 rfl ?_
  refine v_icmp_ne C0 16 (pc' := 14) dX0_hasLiveCable_11 (by decide) rfl (fun h1 => ?_) (fun h1 => ?_)
  · refine v_aload_n C0 (pc' := 17) 1 rfl rfl dX0_hasLiveCable_16 rfl ?_
    refine v_get C0 hK (C := RX0) (T := TX0) (N := 15) (pc' := 20) 0 14 rfl rfl rfl (by decide) in_X0_hasLiveCable fl_X0_hasLiveCable_108 rfl dX0_hasLiveCable_17 rfl ?_
    refine v_if_eq C0 53 (pc' := 23) dX0_hasLiveCable_20 (by decide) rfl (fun h2 => ?_) (fun h2 => ?_)
    · refine v_iconst C0 (pc' := 54) 1 (by decide) dX0_hasLiveCable_53 rfl ?_
      refine v_goto C0 58 dX0_hasLiveCable_54 (by decide) ?_
      exact v_zret C0 hr hlk hK (Or.inr rfl : (1 : Int32) = 0 ∨ (1 : Int32) = 1) (by simp only [s_X0_hasLiveCable, if_neg h1, if_pos h2]) dX0_hasLiveCable_58
    · refine v_aload_n C0 (pc' := 24) 1 rfl rfl dX0_hasLiveCable_23 rfl ?_
      refine v_get C0 hK (C := RX0) (T := TX0) (N := 15) (pc' := 27) 0 7 rfl rfl rfl (by decide) in_X0_hasLiveCable fl_X0_hasLiveCable_31 rfl dX0_hasLiveCable_24 rfl ?_
      refine v_iload_n C0 (pc' := 28) 2 rfl rfl dX0_hasLiveCable_27 rfl ?_
      refine v_bipush C0 (pc' := 30) 6 (by decide) dX0_hasLiveCable_28 rfl ?_
      refine v_idiv C0 (pc' := 31) (by decide) dX0_hasLiveCable_30 rfl ?_
      refine v_callSi0 C0 (av := [.ref (ad 8), .int (slot / 6)]) (rest := []) (ws' := wX cI ad U T F C B RU RC WU ST RP RN WT SM CC TR) (pc' := 34) hK hA (k_X0_at l D cI (ad 8) 6 WU (slot / 6) (by decide)) (va_cwS 2 C0.2.2.2.2 gX0_hasLiveCable_X0_at rfl rfl rfl (by decide +kernel) ⟨Nat.le_of_ble_eq_true rfl, Nat.le_of_ble_eq_true rfl⟩) (PLs.one0 8 rfl) rfl rfl (Nat.le_of_ble_eq_true rfl) ⟨Nat.zero_le _, Nat.zero_le _⟩ dX0_hasLiveCable_31 rfl ?_
      refine v_iload_n C0 (pc' := 35) 2 rfl rfl dX0_hasLiveCable_34 rfl ?_
      refine v_icmp_eq C0 53 (pc' := 38) dX0_hasLiveCable_35 (by decide) rfl (fun h3 => ?_) (fun h3 => ?_)
      · refine v_iconst C0 (pc' := 54) 1 (by decide) dX0_hasLiveCable_53 rfl ?_
        refine v_goto C0 58 dX0_hasLiveCable_54 (by decide) ?_
        exact v_zret C0 hr hlk hK (Or.inr rfl : (1 : Int32) = 0 ∨ (1 : Int32) = 1) (by simp only [s_X0_hasLiveCable, if_neg h1, if_neg h2, if_pos h3]) dX0_hasLiveCable_58
      · refine v_aload_n C0 (pc' := 39) 1 rfl rfl dX0_hasLiveCable_38 rfl ?_
        refine v_get C0 hK (C := RX0) (T := TX0) (N := 15) (pc' := 42) 0 7 rfl rfl rfl (by decide) in_X0_hasLiveCable fl_X0_hasLiveCable_31 rfl dX0_hasLiveCable_39 rfl ?_
        refine v_iload_n C0 (pc' := 43) 0 rfl rfl dX0_hasLiveCable_42 rfl ?_
        refine v_bipush C0 (pc' := 45) 6 (by decide) dX0_hasLiveCable_43 rfl ?_
        refine v_idiv C0 (pc' := 46) (by decide) dX0_hasLiveCable_45 rfl ?_
        refine v_callSi0 C0 (av := [.ref (ad 8), .int ((xAt 36 F slot) / 6)]) (rest := []) (ws' := wX cI ad U T F C B RU RC WU ST RP RN WT SM CC TR) (pc' := 49) hK hA (k_X0_at l D cI (ad 8) 6 WU ((xAt 36 F slot) / 6) (by decide)) (va_cwS 2 C0.2.2.2.2 gX0_hasLiveCable_X0_at rfl rfl rfl (by decide +kernel) ⟨Nat.le_of_ble_eq_true rfl, Nat.le_of_ble_eq_true rfl⟩) (PLs.one0 8 rfl) rfl rfl (Nat.le_of_ble_eq_true rfl) ⟨Nat.zero_le _, Nat.zero_le _⟩ dX0_hasLiveCable_46 rfl ?_
        refine v_iload_n C0 (pc' := 50) 0 rfl rfl dX0_hasLiveCable_49 rfl ?_
        refine v_icmp_ne C0 57 (pc' := 53) dX0_hasLiveCable_50 (by decide) rfl (fun h4 => ?_) (fun h4 => ?_)
        · refine v_iconst C0 (pc' := 58) 0 (by decide) dX0_hasLiveCable_57 rfl ?_
          exact v_zret C0 hr hlk hK (Or.inl rfl : (0 : Int32) = 0 ∨ (0 : Int32) = 1) (by simp only [s_X0_hasLiveCable, if_neg h1, if_neg h2, if_neg h3, if_neg h4]) dX0_hasLiveCable_58
        · refine v_iconst C0 (pc' := 54) 1 (by decide) dX0_hasLiveCable_53 rfl ?_
          refine v_goto C0 58 dX0_hasLiveCable_54 (by decide) ?_
          exact v_zret C0 hr hlk hK (Or.inr rfl : (1 : Int32) = 0 ∨ (1 : Int32) = 1) (by simp only [s_X0_hasLiveCable, if_neg h1, if_neg h2, if_neg h3, if_pos h4]) dX0_hasLiveCable_58
  · refine v_iconst C0 (pc' := 15) 0 (by decide) dX0_hasLiveCable_14 rfl ?_
    exact v_zret C0 hr hlk hK (Or.inl rfl : (0 : Int32) = 0 ∨ (0 : Int32) = 1) (by simp only [s_X0_hasLiveCable, if_pos h1]) dX0_hasLiveCable_15
theorem b_X0_hasLiveCable (F : Nat → Int32) (WU : Nat → Int32) (TR : Int32) (slot : Int32) : s_X0_hasLiveCable F WU TR slot = 0 ∨ s_X0_hasLiveCable F WU TR slot = 1 := by unfold s_X0_hasLiveCable; (repeat' split) <;> first | exact Or.inl rfl | exact Or.inr rfl
def s_X0_laneBeyond (U : Nat → Int32) (T : Nat → Int32) (F : Nat → Int32) (slot : Int32) (lane : Int32) : Int32 := if (s_X0_isTagged T slot lane) = 0 then (if (xAt 36 U slot) = lane then (if (xAt 36 U (xAt 36 F slot)) = 0 then (-1) else xAt 36 U (xAt 36 F slot)) else (-1)) else (if (s_X0_isTagged T (xAt 36 F slot) lane) = 0 then (-1) else lane)
set_option maxHeartbeats 4000000 in
set_option maxRecDepth 100000 in
theorem k_X0_laneBeyond (l : Launch) (D : va_G) (cI : ClassId) (ad : Nat → Nat) (U : Nat → Int32) (T : Nat → Int32) (F : Nat → Int32) (C : Nat → Int32) (B : Nat → Int32) (RU : Nat → Int32) (RC : Nat → Int32) (WU : Nat → Int32) (ST : Nat → Int32) (RP : Nat → Int32) (RN : Int32) (WT : Nat → Int32) (SM : Nat → Int32) (CC : Int32) (TR : Int32) (slot : Int32) (lane : Int32) : Ki l yX0_laneBeyond wsX0_laneBeyond 2 43 0 0 D (TI cI) [.ref (ad 0), .int slot, .int lane] (wX cI ad U T F C B RU RC WU ST RP RN WT SM CC TR) (wX cI ad U T F C B RU RC WU ST RP RN WT SM CC TR) (s_X0_laneBeyond U T F slot lane) := by
  refine Ki.of (cc := cX0_laneBeyond) (maxL := 5) (rt := .int) (lv0 := [(0, .ref (ad 0)), (1, .int slot), (2, .int lane)]) (by decide +kernel) rfl (Nat.le_of_ble_eq_true rfl) rfl ?_
  intro p e s m args below meth c A C0 hr hlk hK hA
  refine v_aload_n C0 (pc' := 1) 0 rfl rfl dX0_laneBeyond_0 rfl ?_
  refine v_get C0 hK (C := RX0) (T := TX0) (N := 15) (pc' := 4) 0 2 rfl rfl rfl (by decide) in_X0_laneBeyond fl_X0_laneBeyond_16 rfl dX0_laneBeyond_1 rfl ?_
  refine v_iload_n C0 (pc' := 5) 1 rfl rfl dX0_laneBeyond_4 rfl ?_
  refine v_callSi0 C0 (av := [.ref (ad 3), .int slot]) (rest := []) (ws' := wX cI ad U T F C B RU RC WU ST RP RN WT SM CC TR) (pc' := 8) hK hA (k_X0_at l D cI (ad 3) 36 F slot (by decide)) (va_cwS 2 C0.2.2.2.2 gX0_laneBeyond_X0_at rfl rfl rfl (by decide +kernel) ⟨Nat.le_of_ble_eq_true rfl, Nat.le_of_ble_eq_true rfl⟩) (PLs.one0 3 rfl) rfl rfl (Nat.le_of_ble_eq_true rfl) ⟨Nat.zero_le _, Nat.zero_le _⟩ dX0_laneBeyond_5 rfl ?_
  refine v_istore_n C0 (lv' := [(3, .int (xAt 36 F slot)), (0, .ref (ad 0)), (1, .int slot), (2, .int lane)]) (pc' := 9) rfl (by decide) rfl dX0_laneBeyond_8 rfl ?_
  refine v_aload_n C0 (pc' := 10) 1 rfl rfl dX0_laneBeyond_9 rfl ?_
  refine v_iload_n C0 (pc' := 11) 2 rfl rfl dX0_laneBeyond_10 rfl ?_
  refine v_iload_n C0 (pc' := 12) 3 rfl rfl dX0_laneBeyond_11 rfl ?_
  refine v_callVi0 C0 (av := [.int slot, .int lane]) (rest := []) (ws' := wX cI ad U T F C B RU RC WU ST RP RN WT SM CC TR) (pc' := 15) hK hA (k_X0_isTagged l D cI ad U T F C B RU RC WU ST RP RN WT SM CC TR slot lane) (cwV 2 C0.2.2.2.2 gX0_laneBeyond_X0_isTagged rfl rfl rfl (by decide +kernel) ⟨Nat.le_of_ble_eq_true rfl, Nat.le_of_ble_eq_true rfl⟩) ⟨0, 0, _, _, _, rfl, rfl⟩ PLs.all rfl rfl (Nat.le_of_ble_eq_true rfl) ⟨Nat.zero_le _, Nat.zero_le _⟩ dX0_laneBeyond_12 rfl ?_
  refine v_if_eq C0 33 (pc' := 18) dX0_laneBeyond_15 (by decide) rfl (fun h1 => ?_) (fun h1 => ?_)
  · refine v_aload_n C0 (pc' := 34) 1 rfl rfl dX0_laneBeyond_33 rfl ?_
    refine v_get C0 hK (C := RX0) (T := TX0) (N := 15) (pc' := 37) 0 0 rfl rfl rfl (by decide) in_X0_laneBeyond fl_X0_laneBeyond_9 rfl dX0_laneBeyond_34 rfl ?_
    refine v_iload_n C0 (pc' := 38) 0 rfl rfl dX0_laneBeyond_37 rfl ?_
    refine v_callSi0 C0 (av := [.ref (ad 1), .int (xAt 36 F slot)]) (rest := []) (ws' := wX cI ad U T F C B RU RC WU ST RP RN WT SM CC TR) (pc' := 41) hK hA (k_X0_at l D cI (ad 1) 36 U (xAt 36 F slot) (by decide)) (va_cwS 2 C0.2.2.2.2 gX0_laneBeyond_X0_at rfl rfl rfl (by decide +kernel) ⟨Nat.le_of_ble_eq_true rfl, Nat.le_of_ble_eq_true rfl⟩) (PLs.one0 1 rfl) rfl rfl (Nat.le_of_ble_eq_true rfl) ⟨Nat.zero_le _, Nat.zero_le _⟩ dX0_laneBeyond_38 rfl ?_
    refine v_istore C0 (lv' := [(4, .int (xAt 36 U (xAt 36 F slot))), (3, .int (xAt 36 F slot)), (0, .ref (ad 0)), (1, .int slot), (2, .int lane)]) (pc' := 43) (by decide) rfl dX0_laneBeyond_41 rfl ?_
    refine v_aload_n C0 (pc' := 44) 2 rfl rfl dX0_laneBeyond_43 rfl ?_
    refine v_get C0 hK (C := RX0) (T := TX0) (N := 15) (pc' := 47) 0 0 rfl rfl rfl (by decide) in_X0_laneBeyond fl_X0_laneBeyond_9 rfl dX0_laneBeyond_44 rfl ?_
    refine v_iload_n C0 (pc' := 48) 3 rfl rfl dX0_laneBeyond_47 rfl ?_
    refine v_callSi0 C0 (av := [.ref (ad 1), .int slot]) (rest := []) (ws' := wX cI ad U T F C B RU RC WU ST RP RN WT SM CC TR) (pc' := 51) hK hA (k_X0_at l D cI (ad 1) 36 U slot (by decide)) (va_cwS 2 C0.2.2.2.2 gX0_laneBeyond_X0_at rfl rfl rfl (by decide +kernel) ⟨Nat.le_of_ble_eq_true rfl, Nat.le_of_ble_eq_true rfl⟩) (PLs.one0 1 rfl) rfl rfl (Nat.le_of_ble_eq_true rfl) ⟨Nat.zero_le _, Nat.zero_le _⟩ dX0_laneBeyond_48 rfl ?_
    refine v_iload_n C0 (pc' := 52) 4 rfl rfl dX0_laneBeyond_51 rfl ?_
    refine v_icmp_ne C0 65 (pc' := 55) dX0_laneBeyond_52 (by decide) rfl (fun h2 => ?_) (fun h2 => ?_)
    · refine v_iconst C0 (pc' := 66) (-1) (by decide) dX0_laneBeyond_65 rfl ?_
      exact v_iret C0 hr hlk hK (by simp only [s_X0_laneBeyond, if_pos h1, if_neg h2]) dX0_laneBeyond_66
    · refine v_iload C0 (pc' := 57) 0 rfl dX0_laneBeyond_55 rfl ?_
      refine v_if_eq C0 65 (pc' := 60) dX0_laneBeyond_57 (by decide) rfl (fun h3 => ?_) (fun h3 => ?_)
      · refine v_iconst C0 (pc' := 66) (-1) (by decide) dX0_laneBeyond_65 rfl ?_
        exact v_iret C0 hr hlk hK (by simp only [s_X0_laneBeyond, if_pos h1, if_pos h2, if_pos h3]) dX0_laneBeyond_66
      · refine v_iload C0 (pc' := 62) 0 rfl dX0_laneBeyond_60 rfl ?_
        refine v_goto C0 66 dX0_laneBeyond_62 (by decide) ?_
        exact v_iret C0 hr hlk hK (by simp only [s_X0_laneBeyond, if_pos h1, if_pos h2, if_neg h3]) dX0_laneBeyond_66
  · refine v_aload_n C0 (pc' := 19) 1 rfl rfl dX0_laneBeyond_18 rfl ?_
    refine v_iload_n C0 (pc' := 20) 0 rfl rfl dX0_laneBeyond_19 rfl ?_
    refine v_iload_n C0 (pc' := 21) 3 rfl rfl dX0_laneBeyond_20 rfl ?_
    refine v_callVi0 C0 (av := [.int (xAt 36 F slot), .int lane]) (rest := []) (ws' := wX cI ad U T F C B RU RC WU ST RP RN WT SM CC TR) (pc' := 24) hK hA (k_X0_isTagged l D cI ad U T F C B RU RC WU ST RP RN WT SM CC TR (xAt 36 F slot) lane) (cwV 2 C0.2.2.2.2 gX0_laneBeyond_X0_isTagged rfl rfl rfl (by decide +kernel) ⟨Nat.le_of_ble_eq_true rfl, Nat.le_of_ble_eq_true rfl⟩) ⟨0, 0, _, _, _, rfl, rfl⟩ PLs.all rfl rfl (Nat.le_of_ble_eq_true rfl) ⟨Nat.zero_le _, Nat.zero_le _⟩ dX0_laneBeyond_21 rfl ?_
    refine v_if_eq C0 31 (pc' := 27) dX0_laneBeyond_24 (by decide) rfl (fun h4 => ?_) (fun h4 => ?_)
    · refine v_iconst C0 (pc' := 32) (-1) (by decide) dX0_laneBeyond_31 rfl ?_
      exact v_iret C0 hr hlk hK (by simp only [s_X0_laneBeyond, if_neg h1, if_pos h4]) dX0_laneBeyond_32
    · refine v_iload_n C0 (pc' := 28) 3 rfl rfl dX0_laneBeyond_27 rfl ?_
      refine v_goto C0 32 dX0_laneBeyond_28 (by decide) ?_
      exact v_iret C0 hr hlk hK (by simp only [s_X0_laneBeyond, if_neg h1, if_neg h4]) dX0_laneBeyond_32
def s_X0_reach_ST (ST : Nat → Int32) (place : Int32) (cables : Int32) : Nat → Int32 := (xPut 96 ST place cables)
def s_X0_reach_RP (RP : Nat → Int32) (RN : Int32) (place : Int32) : Nat → Int32 := (xPut 96 RP RN place)
def s_X0_reach_RN (RN : Int32) : Int32 := (RN + 1)
set_option maxHeartbeats 4000000 in
set_option maxRecDepth 100000 in
theorem k_X0_reach (l : Launch) (D : va_G) (cI : ClassId) (ad : Nat → Nat) (U : Nat → Int32) (T : Nat → Int32) (F : Nat → Int32) (C : Nat → Int32) (B : Nat → Int32) (RU : Nat → Int32) (RC : Nat → Int32) (WU : Nat → Int32) (ST : Nat → Int32) (RP : Nat → Int32) (RN : Int32) (WT : Nat → Int32) (SM : Nat → Int32) (CC : Int32) (TR : Int32) (place : Int32) (cables : Int32) : Kv l yX0_reach wsX0_reach 1 22 0 0 D (TI cI) [.ref (ad 0), .int place, .int cables] (wX cI ad U T F C B RU RC WU ST RP RN WT SM CC TR) (wX cI ad U T F C B RU RC WU (s_X0_reach_ST ST place cables) (s_X0_reach_RP RP RN place) (s_X0_reach_RN RN) WT SM CC TR) := by
  refine Kv.of (cc := cX0_reach) (maxL := 3) (lv0 := [(0, .ref (ad 0)), (1, .int place), (2, .int cables)]) (by decide +kernel) rfl (Nat.le_of_ble_eq_true rfl) rfl ?_
  intro p e s m args below meth c A C0 hr hlk hK hA
  refine v_aload_n C0 (pc' := 1) 0 rfl rfl dX0_reach_0 rfl ?_
  refine v_get C0 hK (C := RX0) (T := TX0) (N := 15) (pc' := 4) 0 8 rfl rfl rfl (by decide) in_X0_reach fl_X0_reach_34 rfl dX0_reach_1 rfl ?_
  refine v_iload_n C0 (pc' := 5) 1 rfl rfl dX0_reach_4 rfl ?_
  refine v_iload_n C0 (pc' := 6) 2 rfl rfl dX0_reach_5 rfl ?_
  refine v_callSv0 C0 (av := [.ref (ad 9), .int place, .int cables]) (rest := []) (ws' := wX cI ad U T F C B RU RC WU (xPut 96 ST place cables) RP RN WT SM CC TR) (pc' := 9) hK hA (k_X0_put l D cI (ad 9) 96 ST place cables (by decide)) (va_cwS 3 C0.2.2.2.2 gX0_reach_X0_put rfl rfl rfl (by decide +kernel) ⟨Nat.le_of_ble_eq_true rfl, Nat.le_of_ble_eq_true rfl⟩) (PLs.one 9 rfl) rfl rfl (Nat.le_of_ble_eq_true rfl) ⟨Nat.zero_le _, Nat.zero_le _⟩ dX0_reach_6 rfl ?_
  refine v_aload_n C0 (pc' := 10) 0 rfl rfl dX0_reach_9 rfl ?_
  refine v_get C0 hK (C := RX0) (T := TX0) (N := 15) (pc' := 13) 0 9 rfl rfl rfl (by decide) in_X0_reach fl_X0_reach_37 rfl dX0_reach_10 rfl ?_
  refine v_aload_n C0 (pc' := 14) 0 rfl rfl dX0_reach_13 rfl ?_
  refine v_get C0 hK (C := RX0) (T := TX0) (N := 15) (pc' := 17) 0 10 rfl rfl rfl (by decide) in_X0_reach fl_X0_reach_143 rfl dX0_reach_14 rfl ?_
  refine v_iload_n C0 (pc' := 18) 1 rfl rfl dX0_reach_17 rfl ?_
  refine v_callSv0 C0 (av := [.ref (ad 10), .int RN, .int place]) (rest := []) (ws' := wX cI ad U T F C B RU RC WU (xPut 96 ST place cables) (xPut 96 RP RN place) RN WT SM CC TR) (pc' := 21) hK hA (k_X0_put l D cI (ad 10) 96 RP RN place (by decide)) (va_cwS 3 C0.2.2.2.2 gX0_reach_X0_put rfl rfl rfl (by decide +kernel) ⟨Nat.le_of_ble_eq_true rfl, Nat.le_of_ble_eq_true rfl⟩) (PLs.one 10 rfl) rfl rfl (Nat.le_of_ble_eq_true rfl) ⟨Nat.zero_le _, Nat.zero_le _⟩ dX0_reach_18 rfl ?_
  refine v_aload_n C0 (pc' := 22) 0 rfl rfl dX0_reach_21 rfl ?_
  refine v_dup C0 (pc' := 23) rfl dX0_reach_22 rfl ?_
  refine v_get C0 hK (C := RX0) (T := TX0) (N := 15) (pc' := 26) 0 10 rfl rfl rfl (by decide) in_X0_reach fl_X0_reach_143 rfl dX0_reach_23 rfl ?_
  refine v_iconst C0 (pc' := 27) 1 (by decide) dX0_reach_26 rfl ?_
  refine v_iadd C0 (pc' := 28) dX0_reach_27 rfl ?_
  refine v_put C0 hK (C := RX0) (T := TX0) (N := 15) (ws' := wX cI ad U T F C B RU RC WU (xPut 96 ST place cables) (xPut 96 RP RN place) (RN + 1) WT SM CC TR) (pc' := 31) 0 10 tyX0 rfl rfl rfl (by decide) (Nat.le_of_ble_eq_true rfl) tyX0_ok nmX0 in_X0_reach fl_X0_reach_143 rfl rfl rfl rfl rfl dX0_reach_28 rfl ?_
  refine v_world (ws' := wX cI ad U T F C B RU RC WU (s_X0_reach_ST ST place cables) (s_X0_reach_RP RP RN place) (s_X0_reach_RN RN) WT SM CC TR) rfl ?_
  exact v_vret C0 hr hlk hK dX0_reach_31
def s_X0_forgetWalks_ST (ST : Nat → Int32) : Nat → Int32 := (xFill ST (-1) 96)
def s_X0_forgetWalks_RN  : Int32 := 0
set_option maxHeartbeats 4000000 in
set_option maxRecDepth 100000 in
theorem k_X0_forgetWalks (l : Launch) (D : va_G) (cI : ClassId) (ad : Nat → Nat) (U : Nat → Int32) (T : Nat → Int32) (F : Nat → Int32) (C : Nat → Int32) (B : Nat → Int32) (RU : Nat → Int32) (RC : Nat → Int32) (WU : Nat → Int32) (ST : Nat → Int32) (RP : Nat → Int32) (RN : Int32) (WT : Nat → Int32) (SM : Nat → Int32) (CC : Int32) (TR : Int32)  : Kv l yX0_forgetWalks wsX0_forgetWalks 1 23 0 0 D (TI cI) [.ref (ad 0)] (wX cI ad U T F C B RU RC WU ST RP RN WT SM CC TR) (wX cI ad U T F C B RU RC WU (s_X0_forgetWalks_ST ST) RP (s_X0_forgetWalks_RN ) WT SM CC TR) := by
  refine Kv.of (cc := cX0_forgetWalks) (maxL := 1) (lv0 := [(0, .ref (ad 0))]) (by decide +kernel) rfl (Nat.le_of_ble_eq_true rfl) rfl ?_
  intro p e s m args below meth c A C0 hr hlk hK hA
  refine v_aload_n C0 (pc' := 1) 0 rfl rfl dX0_forgetWalks_0 rfl ?_
  refine v_get C0 hK (C := RX0) (T := TX0) (N := 15) (pc' := 4) 0 8 rfl rfl rfl (by decide) in_X0_forgetWalks fl_X0_forgetWalks_34 rfl dX0_forgetWalks_1 rfl ?_
  refine v_iconst C0 (pc' := 5) (-1) (by decide) dX0_forgetWalks_4 rfl ?_
  refine v_callSv0 C0 (av := [.ref (ad 9), .int (-1)]) (rest := []) (ws' := wX cI ad U T F C B RU RC WU (xFill ST (-1) 96) RP RN WT SM CC TR) (pc' := 8) hK hA (k_J7_fill_53178 l D cI (ad 9) 96 ST (-1) (by decide)) (va_cwS 2 C0.2.2.2.2 gX0_forgetWalks_J7_fill_53178 rfl rfl rfl (by decide +kernel) ⟨Nat.le_of_ble_eq_true rfl, Nat.le_of_ble_eq_true rfl⟩) (PLs.one 9 rfl) rfl rfl (Nat.le_of_ble_eq_true rfl) ⟨Nat.zero_le _, Nat.zero_le _⟩ dX0_forgetWalks_5 rfl ?_
  refine v_aload_n C0 (pc' := 9) 0 rfl rfl dX0_forgetWalks_8 rfl ?_
  refine v_iconst C0 (pc' := 10) 0 (by decide) dX0_forgetWalks_9 rfl ?_
  refine v_put C0 hK (C := RX0) (T := TX0) (N := 15) (ws' := wX cI ad U T F C B RU RC WU (xFill ST (-1) 96) RP 0 WT SM CC TR) (pc' := 13) 0 10 tyX0 rfl rfl rfl (by decide) (Nat.le_of_ble_eq_true rfl) tyX0_ok nmX0 in_X0_forgetWalks fl_X0_forgetWalks_143 rfl rfl rfl rfl rfl dX0_forgetWalks_10 rfl ?_
  refine v_world (ws' := wX cI ad U T F C B RU RC WU (s_X0_forgetWalks_ST ST) RP (s_X0_forgetWalks_RN ) WT SM CC TR) rfl ?_
  exact v_vret C0 hr hlk hK dX0_forgetWalks_13
def s_X0_placeBeyond (U : Nat → Int32) (T : Nat → Int32) (F : Nat → Int32) (WU : Nat → Int32) (TR : Int32) (slot : Int32) (lane : Int32) : Int32 := if (s_X0_hasLiveCable F WU TR slot) = 0 then (-1) else (if (s_X0_laneBeyond U T F slot lane) = (-1) then (-1) else (((xAt 36 F slot) / 6) * 16) + (s_X0_laneBeyond U T F slot lane))
set_option maxHeartbeats 4000000 in
set_option maxRecDepth 100000 in
theorem k_X0_placeBeyond (l : Launch) (D : va_G) (cI : ClassId) (ad : Nat → Nat) (U : Nat → Int32) (T : Nat → Int32) (F : Nat → Int32) (C : Nat → Int32) (B : Nat → Int32) (RU : Nat → Int32) (RC : Nat → Int32) (WU : Nat → Int32) (ST : Nat → Int32) (RP : Nat → Int32) (RN : Int32) (WT : Nat → Int32) (SM : Nat → Int32) (CC : Int32) (TR : Int32) (slot : Int32) (lane : Int32) (hb_TR : TR = 0 ∨ TR = 1) : Ki l yX0_placeBeyond wsX0_placeBeyond 3 67 0 0 D (TI cI) [.ref (ad 0), .int slot, .int lane] (wX cI ad U T F C B RU RC WU ST RP RN WT SM CC TR) (wX cI ad U T F C B RU RC WU ST RP RN WT SM CC TR) (s_X0_placeBeyond U T F WU TR slot lane) := by
  refine Ki.of (cc := cX0_placeBeyond) (maxL := 4) (rt := .int) (lv0 := [(0, .ref (ad 0)), (1, .int slot), (2, .int lane)]) (by decide +kernel) rfl (Nat.le_of_ble_eq_true rfl) rfl ?_
  intro p e s m args below meth c A C0 hr hlk hK hA
  refine v_aload_n C0 (pc' := 1) 0 rfl rfl dX0_placeBeyond_0 rfl ?_
  refine v_iload_n C0 (pc' := 2) 1 rfl rfl dX0_placeBeyond_1 rfl ?_
  refine v_callVi0 C0 (av := [.int slot]) (rest := []) (ws' := wX cI ad U T F C B RU RC WU ST RP RN WT SM CC TR) (pc' := 5) hK hA (k_X0_hasLiveCable l D cI ad U T F C B RU RC WU ST RP RN WT SM CC TR slot hb_TR) (cwV 1 C0.2.2.2.2 gX0_placeBeyond_X0_hasLiveCable rfl rfl rfl (by decide +kernel) ⟨Nat.le_of_ble_eq_true rfl, Nat.le_of_ble_eq_true rfl⟩) ⟨0, 0, _, _, _, rfl, rfl⟩ PLs.all rfl rfl (Nat.le_of_ble_eq_true rfl) ⟨Nat.zero_le _, Nat.zero_le _⟩ dX0_placeBeyond_2 rfl ?_
  refine v_if_eq C0 17 (pc' := 8) dX0_placeBeyond_5 (by decide) rfl (fun h1 => ?_) (fun h1 => ?_)
  · refine v_iconst C0 (pc' := 18) (-1) (by decide) dX0_placeBeyond_17 rfl ?_
    refine v_istore_n C0 (lv' := [(3, .int (-1)), (0, .ref (ad 0)), (1, .int slot), (2, .int lane)]) (pc' := 19) rfl (by decide) rfl dX0_placeBeyond_18 rfl ?_
    refine v_iload_n C0 (pc' := 20) 0 rfl rfl dX0_placeBeyond_19 rfl ?_
    refine v_iconst C0 (pc' := 21) (-1) (by decide) dX0_placeBeyond_20 rfl ?_
    refine v_icmp_ne C0 26 (pc' := 24) dX0_placeBeyond_21 (by decide) rfl (fun h2 => ?_) (fun h2 => ?_)
    · exact absurd (by decide) h2
    · refine v_iconst C0 (pc' := 25) (-1) (by decide) dX0_placeBeyond_24 rfl ?_
      exact v_iret C0 hr hlk hK (by simp only [s_X0_placeBeyond, if_pos h1]) dX0_placeBeyond_25
  · refine v_aload_n C0 (pc' := 9) 0 rfl rfl dX0_placeBeyond_8 rfl ?_
    refine v_iload_n C0 (pc' := 10) 1 rfl rfl dX0_placeBeyond_9 rfl ?_
    refine v_iload_n C0 (pc' := 11) 2 rfl rfl dX0_placeBeyond_10 rfl ?_
    refine v_callVi0 C0 (av := [.int slot, .int lane]) (rest := []) (ws' := wX cI ad U T F C B RU RC WU ST RP RN WT SM CC TR) (pc' := 14) hK hA (k_X0_laneBeyond l D cI ad U T F C B RU RC WU ST RP RN WT SM CC TR slot lane) (cwV 2 C0.2.2.2.2 gX0_placeBeyond_X0_laneBeyond rfl rfl rfl (by decide +kernel) ⟨Nat.le_of_ble_eq_true rfl, Nat.le_of_ble_eq_true rfl⟩) ⟨0, 0, _, _, _, rfl, rfl⟩ PLs.all rfl rfl (Nat.le_of_ble_eq_true rfl) ⟨Nat.zero_le _, Nat.zero_le _⟩ dX0_placeBeyond_11 rfl ?_
    refine v_goto C0 18 dX0_placeBeyond_14 (by decide) ?_
    refine v_istore_n C0 (lv' := [(3, .int (s_X0_laneBeyond U T F slot lane)), (0, .ref (ad 0)), (1, .int slot), (2, .int lane)]) (pc' := 19) rfl (by decide) rfl dX0_placeBeyond_18 rfl ?_
    refine v_iload_n C0 (pc' := 20) 0 rfl rfl dX0_placeBeyond_19 rfl ?_
    refine v_iconst C0 (pc' := 21) (-1) (by decide) dX0_placeBeyond_20 rfl ?_
    refine v_icmp_ne C0 26 (pc' := 24) dX0_placeBeyond_21 (by decide) rfl (fun h3 => ?_) (fun h3 => ?_)
    · refine v_aload_n C0 (pc' := 27) 1 rfl rfl dX0_placeBeyond_26 rfl ?_
      refine v_get C0 hK (C := RX0) (T := TX0) (N := 15) (pc' := 30) 0 2 rfl rfl rfl (by decide) in_X0_placeBeyond fl_X0_placeBeyond_16 rfl dX0_placeBeyond_27 rfl ?_
      refine v_iload_n C0 (pc' := 31) 2 rfl rfl dX0_placeBeyond_30 rfl ?_
      refine v_callSi0 C0 (av := [.ref (ad 3), .int slot]) (rest := []) (ws' := wX cI ad U T F C B RU RC WU ST RP RN WT SM CC TR) (pc' := 34) hK hA (k_X0_at l D cI (ad 3) 36 F slot (by decide)) (va_cwS 2 C0.2.2.2.2 gX0_placeBeyond_X0_at rfl rfl rfl (by decide +kernel) ⟨Nat.le_of_ble_eq_true rfl, Nat.le_of_ble_eq_true rfl⟩) (PLs.one0 3 rfl) rfl rfl (Nat.le_of_ble_eq_true rfl) ⟨Nat.zero_le _, Nat.zero_le _⟩ dX0_placeBeyond_31 rfl ?_
      refine v_bipush C0 (pc' := 36) 6 (by decide) dX0_placeBeyond_34 rfl ?_
      refine v_idiv C0 (pc' := 37) (by decide) dX0_placeBeyond_36 rfl ?_
      refine v_bipush C0 (pc' := 39) 16 (by decide) dX0_placeBeyond_37 rfl ?_
      refine v_imul C0 (pc' := 40) dX0_placeBeyond_39 rfl ?_
      refine v_iload_n C0 (pc' := 41) 0 rfl rfl dX0_placeBeyond_40 rfl ?_
      refine v_iadd C0 (pc' := 42) dX0_placeBeyond_41 rfl ?_
      exact v_iret C0 hr hlk hK (by simp only [s_X0_placeBeyond, if_neg h1, if_neg h3]) dX0_placeBeyond_42
    · refine v_iconst C0 (pc' := 25) (-1) (by decide) dX0_placeBeyond_24 rfl ?_
      exact v_iret C0 hr hlk hK (by simp only [s_X0_placeBeyond, if_neg h1, if_pos h3]) dX0_placeBeyond_25
def s_X0_waysOver (U : Nat → Int32) (T : Nat → Int32) (slot : Int32) (fin : Int32) : Int32 := if (xAt 36 U slot) = 0 then s_J6_bitCount_0f7a4 ((xAt 36 T slot) &&& (xAt 36 T fin)) else (if (xAt 36 U fin) = 0 then s_J6_bitCount_0f7a4 ((xAt 36 T slot) &&& (xAt 36 T fin)) else (s_J6_bitCount_0f7a4 ((xAt 36 T slot) &&& (xAt 36 T fin))) + 1)
set_option maxHeartbeats 4000000 in
set_option maxRecDepth 100000 in
theorem k_X0_waysOver (l : Launch) (D : va_G) (cI : ClassId) (ad : Nat → Nat) (U : Nat → Int32) (T : Nat → Int32) (F : Nat → Int32) (C : Nat → Int32) (B : Nat → Int32) (RU : Nat → Int32) (RC : Nat → Int32) (WU : Nat → Int32) (ST : Nat → Int32) (RP : Nat → Int32) (RN : Int32) (WT : Nat → Int32) (SM : Nat → Int32) (CC : Int32) (TR : Int32) (slot : Int32) (fin : Int32) : Ki l yX0_waysOver wsX0_waysOver 1 21 0 0 D (TI cI) [.ref (ad 0), .int slot, .int fin] (wX cI ad U T F C B RU RC WU ST RP RN WT SM CC TR) (wX cI ad U T F C B RU RC WU ST RP RN WT SM CC TR) (s_X0_waysOver U T slot fin) := by
  refine Ki.of (cc := cX0_waysOver) (maxL := 5) (rt := .int) (lv0 := [(0, .ref (ad 0)), (1, .int slot), (2, .int fin)]) (by decide +kernel) rfl (Nat.le_of_ble_eq_true rfl) rfl ?_
  intro p e s m args below meth c A C0 hr hlk hK hA
  refine v_aload_n C0 (pc' := 1) 0 rfl rfl dX0_waysOver_0 rfl ?_
  refine v_get C0 hK (C := RX0) (T := TX0) (N := 15) (pc' := 4) 0 1 rfl rfl rfl (by decide) in_X0_waysOver fl_X0_waysOver_13 rfl dX0_waysOver_1 rfl ?_
  refine v_iload_n C0 (pc' := 5) 1 rfl rfl dX0_waysOver_4 rfl ?_
  refine v_callSi0 C0 (av := [.ref (ad 2), .int slot]) (rest := []) (ws' := wX cI ad U T F C B RU RC WU ST RP RN WT SM CC TR) (pc' := 8) hK hA (k_X0_at l D cI (ad 2) 36 T slot (by decide)) (va_cwS 2 C0.2.2.2.2 gX0_waysOver_X0_at rfl rfl rfl (by decide +kernel) ⟨Nat.le_of_ble_eq_true rfl, Nat.le_of_ble_eq_true rfl⟩) (PLs.one0 2 rfl) rfl rfl (Nat.le_of_ble_eq_true rfl) ⟨Nat.zero_le _, Nat.zero_le _⟩ dX0_waysOver_5 rfl ?_
  refine v_aload_n C0 (pc' := 9) 0 rfl rfl dX0_waysOver_8 rfl ?_
  refine v_get C0 hK (C := RX0) (T := TX0) (N := 15) (pc' := 12) 0 1 rfl rfl rfl (by decide) in_X0_waysOver fl_X0_waysOver_13 rfl dX0_waysOver_9 rfl ?_
  refine v_iload_n C0 (pc' := 13) 2 rfl rfl dX0_waysOver_12 rfl ?_
  refine v_callSi0 C0 (av := [.ref (ad 2), .int fin]) (rest := [.int (xAt 36 T slot)]) (ws' := wX cI ad U T F C B RU RC WU ST RP RN WT SM CC TR) (pc' := 16) hK hA (k_X0_at l D cI (ad 2) 36 T fin (by decide)) (va_cwS 2 C0.2.2.2.2 gX0_waysOver_X0_at rfl rfl rfl (by decide +kernel) ⟨Nat.le_of_ble_eq_true rfl, Nat.le_of_ble_eq_true rfl⟩) (PLs.one0 2 rfl) rfl rfl (Nat.le_of_ble_eq_true rfl) ⟨Nat.zero_le _, Nat.zero_le _⟩ dX0_waysOver_13 rfl ?_
  refine v_iand C0 (pc' := 17) dX0_waysOver_16 rfl ?_
  refine v_callSi0 C0 (av := [.int ((xAt 36 T slot) &&& (xAt 36 T fin))]) (rest := []) (ws' := wX cI ad U T F C B RU RC WU ST RP RN WT SM CC TR) (pc' := 20) hK hA (k_J6_bitCount_0f7a4 l D cI ((xAt 36 T slot) &&& (xAt 36 T fin))) (va_cwS 1 C0.2.2.2.2 gX0_waysOver_J6_bitCount_0f7a4 rfl rfl rfl (by decide +kernel) ⟨Nat.le_of_ble_eq_true rfl, Nat.le_of_ble_eq_true rfl⟩) PLs.nil rfl rfl (Nat.le_of_ble_eq_true rfl) ⟨Nat.zero_le _, Nat.zero_le _⟩ dX0_waysOver_17 rfl ?_
  refine v_istore_n C0 (lv' := [(3, .int (s_J6_bitCount_0f7a4 ((xAt 36 T slot) &&& (xAt 36 T fin)))), (0, .ref (ad 0)), (1, .int slot), (2, .int fin)]) (pc' := 21) rfl (by decide) rfl dX0_waysOver_20 rfl ?_
  refine v_aload_n C0 (pc' := 22) 1 rfl rfl dX0_waysOver_21 rfl ?_
  refine v_get C0 hK (C := RX0) (T := TX0) (N := 15) (pc' := 25) 0 0 rfl rfl rfl (by decide) in_X0_waysOver fl_X0_waysOver_9 rfl dX0_waysOver_22 rfl ?_
  refine v_iload_n C0 (pc' := 26) 2 rfl rfl dX0_waysOver_25 rfl ?_
  refine v_callSi0 C0 (av := [.ref (ad 1), .int slot]) (rest := []) (ws' := wX cI ad U T F C B RU RC WU ST RP RN WT SM CC TR) (pc' := 29) hK hA (k_X0_at l D cI (ad 1) 36 U slot (by decide)) (va_cwS 2 C0.2.2.2.2 gX0_waysOver_X0_at rfl rfl rfl (by decide +kernel) ⟨Nat.le_of_ble_eq_true rfl, Nat.le_of_ble_eq_true rfl⟩) (PLs.one0 1 rfl) rfl rfl (Nat.le_of_ble_eq_true rfl) ⟨Nat.zero_le _, Nat.zero_le _⟩ dX0_waysOver_26 rfl ?_
  refine v_if_eq C0 47 (pc' := 32) dX0_waysOver_29 (by decide) rfl (fun h1 => ?_) (fun h1 => ?_)
  · refine v_iconst C0 (pc' := 48) 0 (by decide) dX0_waysOver_47 rfl ?_
    refine v_istore C0 (lv' := [(4, .int 0), (3, .int (s_J6_bitCount_0f7a4 ((xAt 36 T slot) &&& (xAt 36 T fin)))), (0, .ref (ad 0)), (1, .int slot), (2, .int fin)]) (pc' := 50) (by decide) rfl dX0_waysOver_48 rfl ?_
    refine v_iload C0 (pc' := 52) 0 rfl dX0_waysOver_50 rfl ?_
    refine v_if_eq C0 61 (pc' := 55) dX0_waysOver_52 (by decide) rfl (fun h2 => ?_) (fun h2 => ?_)
    · refine v_iload_n C0 (pc' := 62) 1 rfl rfl dX0_waysOver_61 rfl ?_
      exact v_iret C0 hr hlk hK (by simp only [s_X0_waysOver, if_pos h1]) dX0_waysOver_62
    · exact absurd (by decide) h2
  · refine v_aload_n C0 (pc' := 33) 1 rfl rfl dX0_waysOver_32 rfl ?_
    refine v_get C0 hK (C := RX0) (T := TX0) (N := 15) (pc' := 36) 0 0 rfl rfl rfl (by decide) in_X0_waysOver fl_X0_waysOver_9 rfl dX0_waysOver_33 rfl ?_
    refine v_iload_n C0 (pc' := 37) 3 rfl rfl dX0_waysOver_36 rfl ?_
    refine v_callSi0 C0 (av := [.ref (ad 1), .int fin]) (rest := []) (ws' := wX cI ad U T F C B RU RC WU ST RP RN WT SM CC TR) (pc' := 40) hK hA (k_X0_at l D cI (ad 1) 36 U fin (by decide)) (va_cwS 2 C0.2.2.2.2 gX0_waysOver_X0_at rfl rfl rfl (by decide +kernel) ⟨Nat.le_of_ble_eq_true rfl, Nat.le_of_ble_eq_true rfl⟩) (PLs.one0 1 rfl) rfl rfl (Nat.le_of_ble_eq_true rfl) ⟨Nat.zero_le _, Nat.zero_le _⟩ dX0_waysOver_37 rfl ?_
    refine v_if_eq C0 47 (pc' := 43) dX0_waysOver_40 (by decide) rfl (fun h3 => ?_) (fun h3 => ?_)
    · refine v_iconst C0 (pc' := 48) 0 (by decide) dX0_waysOver_47 rfl ?_
      refine v_istore C0 (lv' := [(4, .int 0), (3, .int (s_J6_bitCount_0f7a4 ((xAt 36 T slot) &&& (xAt 36 T fin)))), (0, .ref (ad 0)), (1, .int slot), (2, .int fin)]) (pc' := 50) (by decide) rfl dX0_waysOver_48 rfl ?_
      refine v_iload C0 (pc' := 52) 0 rfl dX0_waysOver_50 rfl ?_
      refine v_if_eq C0 61 (pc' := 55) dX0_waysOver_52 (by decide) rfl (fun h4 => ?_) (fun h4 => ?_)
      · refine v_iload_n C0 (pc' := 62) 1 rfl rfl dX0_waysOver_61 rfl ?_
        exact v_iret C0 hr hlk hK (by simp only [s_X0_waysOver, if_neg h1, if_pos h3]) dX0_waysOver_62
      · exact absurd (by decide) h4
    · refine v_iconst C0 (pc' := 44) 1 (by decide) dX0_waysOver_43 rfl ?_
      refine v_goto C0 48 dX0_waysOver_44 (by decide) ?_
      refine v_istore C0 (lv' := [(4, .int 1), (3, .int (s_J6_bitCount_0f7a4 ((xAt 36 T slot) &&& (xAt 36 T fin)))), (0, .ref (ad 0)), (1, .int slot), (2, .int fin)]) (pc' := 50) (by decide) rfl dX0_waysOver_48 rfl ?_
      refine v_iload C0 (pc' := 52) 0 rfl dX0_waysOver_50 rfl ?_
      refine v_if_eq C0 61 (pc' := 55) dX0_waysOver_52 (by decide) rfl (fun h5 => ?_) (fun h5 => ?_)
      · exact absurd h5 (by decide)
      · refine v_iload_n C0 (pc' := 56) 1 rfl rfl dX0_waysOver_55 rfl ?_
        refine v_iconst C0 (pc' := 57) 1 (by decide) dX0_waysOver_56 rfl ?_
        refine v_iadd C0 (pc' := 58) dX0_waysOver_57 rfl ?_
        refine v_goto C0 62 dX0_waysOver_58 (by decide) ?_
        exact v_iret C0 hr hlk hK (by simp only [s_X0_waysOver, if_neg h1, if_neg h3]) dX0_waysOver_62
def s_X0_changesOver (U : Nat → Int32) (T : Nat → Int32) (F : Nat → Int32) (WU : Nat → Int32) (TR : Int32) (slot : Int32) (lane : Int32) : Int32 := if (s_X0_hasLiveCable F WU TR slot) = 0 then (-1) else (if (xAt 36 U slot) = lane then (if (xAt 36 U (xAt 36 F slot)) = lane then 0 else (-1)) else (if (xAt 36 U (xAt 36 F slot)) = lane then (-1) else (if (s_X0_isTagged T slot lane) = 0 then (if (s_X0_isTagged T (xAt 36 F slot) lane) = 0 then 1 + 1 else 1 + 0) else (if (s_X0_isTagged T (xAt 36 F slot) lane) = 0 then 0 + 1 else 0 + 0))))
set_option maxHeartbeats 4000000 in
set_option maxRecDepth 100000 in
theorem k_X0_changesOver (l : Launch) (D : va_G) (cI : ClassId) (ad : Nat → Nat) (U : Nat → Int32) (T : Nat → Int32) (F : Nat → Int32) (C : Nat → Int32) (B : Nat → Int32) (RU : Nat → Int32) (RC : Nat → Int32) (WU : Nat → Int32) (ST : Nat → Int32) (RP : Nat → Int32) (RN : Int32) (WT : Nat → Int32) (SM : Nat → Int32) (CC : Int32) (TR : Int32) (slot : Int32) (lane : Int32) (hb_TR : TR = 0 ∨ TR = 1) : Ki l yX0_changesOver wsX0_changesOver 2 43 0 0 D (TI cI) [.ref (ad 0), .int slot, .int lane] (wX cI ad U T F C B RU RC WU ST RP RN WT SM CC TR) (wX cI ad U T F C B RU RC WU ST RP RN WT SM CC TR) (s_X0_changesOver U T F WU TR slot lane) := by
  refine Ki.of (cc := cX0_changesOver) (maxL := 6) (rt := .int) (lv0 := [(0, .ref (ad 0)), (1, .int slot), (2, .int lane)]) (by decide +kernel) rfl (Nat.le_of_ble_eq_true rfl) rfl ?_
  intro p e s m args below meth c A C0 hr hlk hK hA
  refine v_aload_n C0 (pc' := 1) 0 rfl rfl dX0_changesOver_0 rfl ?_
  refine v_iload_n C0 (pc' := 2) 1 rfl rfl dX0_changesOver_1 rfl ?_
  refine v_callVi0 C0 (av := [.int slot]) (rest := []) (ws' := wX cI ad U T F C B RU RC WU ST RP RN WT SM CC TR) (pc' := 5) hK hA (k_X0_hasLiveCable l D cI ad U T F C B RU RC WU ST RP RN WT SM CC TR slot hb_TR) (cwV 1 C0.2.2.2.2 gX0_changesOver_X0_hasLiveCable rfl rfl rfl (by decide +kernel) ⟨Nat.le_of_ble_eq_true rfl, Nat.le_of_ble_eq_true rfl⟩) ⟨0, 0, _, _, _, rfl, rfl⟩ PLs.all rfl rfl (Nat.le_of_ble_eq_true rfl) ⟨Nat.zero_le _, Nat.zero_le _⟩ dX0_changesOver_2 rfl ?_
  refine v_if_ne C0 10 (pc' := 8) dX0_changesOver_5 (by decide) rfl (fun h1 => ?_) (fun h1 => ?_)
  · refine v_aload_n C0 (pc' := 11) 0 rfl rfl dX0_changesOver_10 rfl ?_
    refine v_get C0 hK (C := RX0) (T := TX0) (N := 15) (pc' := 14) 0 2 rfl rfl rfl (by decide) in_X0_changesOver fl_X0_changesOver_16 rfl dX0_changesOver_11 rfl ?_
    refine v_iload_n C0 (pc' := 15) 1 rfl rfl dX0_changesOver_14 rfl ?_
    refine v_callSi0 C0 (av := [.ref (ad 3), .int slot]) (rest := []) (ws' := wX cI ad U T F C B RU RC WU ST RP RN WT SM CC TR) (pc' := 18) hK hA (k_X0_at l D cI (ad 3) 36 F slot (by decide)) (va_cwS 2 C0.2.2.2.2 gX0_changesOver_X0_at rfl rfl rfl (by decide +kernel) ⟨Nat.le_of_ble_eq_true rfl, Nat.le_of_ble_eq_true rfl⟩) (PLs.one0 3 rfl) rfl rfl (Nat.le_of_ble_eq_true rfl) ⟨Nat.zero_le _, Nat.zero_le _⟩ dX0_changesOver_15 rfl ?_
    refine v_istore_n C0 (lv' := [(3, .int (xAt 36 F slot)), (0, .ref (ad 0)), (1, .int slot), (2, .int lane)]) (pc' := 19) rfl (by decide) rfl dX0_changesOver_18 rfl ?_
    refine v_aload_n C0 (pc' := 20) 1 rfl rfl dX0_changesOver_19 rfl ?_
    refine v_get C0 hK (C := RX0) (T := TX0) (N := 15) (pc' := 23) 0 0 rfl rfl rfl (by decide) in_X0_changesOver fl_X0_changesOver_9 rfl dX0_changesOver_20 rfl ?_
    refine v_iload_n C0 (pc' := 24) 2 rfl rfl dX0_changesOver_23 rfl ?_
    refine v_callSi0 C0 (av := [.ref (ad 1), .int slot]) (rest := []) (ws' := wX cI ad U T F C B RU RC WU ST RP RN WT SM CC TR) (pc' := 27) hK hA (k_X0_at l D cI (ad 1) 36 U slot (by decide)) (va_cwS 2 C0.2.2.2.2 gX0_changesOver_X0_at rfl rfl rfl (by decide +kernel) ⟨Nat.le_of_ble_eq_true rfl, Nat.le_of_ble_eq_true rfl⟩) (PLs.one0 1 rfl) rfl rfl (Nat.le_of_ble_eq_true rfl) ⟨Nat.zero_le _, Nat.zero_le _⟩ dX0_changesOver_24 rfl ?_
    refine v_iload_n C0 (pc' := 28) 3 rfl rfl dX0_changesOver_27 rfl ?_
    refine v_icmp_ne C0 35 (pc' := 31) dX0_changesOver_28 (by decide) rfl (fun h2 => ?_) (fun h2 => ?_)
    · refine v_iconst C0 (pc' := 36) 0 (by decide) dX0_changesOver_35 rfl ?_
      refine v_istore C0 (lv' := [(4, .int 0), (3, .int (xAt 36 F slot)), (0, .ref (ad 0)), (1, .int slot), (2, .int lane)]) (pc' := 38) (by decide) rfl dX0_changesOver_36 rfl ?_
      refine v_aload_n C0 (pc' := 39) 2 rfl rfl dX0_changesOver_38 rfl ?_
      refine v_get C0 hK (C := RX0) (T := TX0) (N := 15) (pc' := 42) 0 0 rfl rfl rfl (by decide) in_X0_changesOver fl_X0_changesOver_9 rfl dX0_changesOver_39 rfl ?_
      refine v_iload_n C0 (pc' := 43) 1 rfl rfl dX0_changesOver_42 rfl ?_
      refine v_callSi0 C0 (av := [.ref (ad 1), .int (xAt 36 F slot)]) (rest := []) (ws' := wX cI ad U T F C B RU RC WU ST RP RN WT SM CC TR) (pc' := 46) hK hA (k_X0_at l D cI (ad 1) 36 U (xAt 36 F slot) (by decide)) (va_cwS 2 C0.2.2.2.2 gX0_changesOver_X0_at rfl rfl rfl (by decide +kernel) ⟨Nat.le_of_ble_eq_true rfl, Nat.le_of_ble_eq_true rfl⟩) (PLs.one0 1 rfl) rfl rfl (Nat.le_of_ble_eq_true rfl) ⟨Nat.zero_le _, Nat.zero_le _⟩ dX0_changesOver_43 rfl ?_
      refine v_iload_n C0 (pc' := 47) 4 rfl rfl dX0_changesOver_46 rfl ?_
      refine v_icmp_ne C0 54 (pc' := 50) dX0_changesOver_47 (by decide) rfl (fun h3 => ?_) (fun h3 => ?_)
      · refine v_iconst C0 (pc' := 55) 0 (by decide) dX0_changesOver_54 rfl ?_
        refine v_istore C0 (lv' := [(5, .int 0), (4, .int 0), (3, .int (xAt 36 F slot)), (0, .ref (ad 0)), (1, .int slot), (2, .int lane)]) (pc' := 57) (by decide) rfl dX0_changesOver_55 rfl ?_
        refine v_iload C0 (pc' := 59) 1 rfl dX0_changesOver_57 rfl ?_
        refine v_if_ne C0 67 (pc' := 62) dX0_changesOver_59 (by decide) rfl (fun h4 => ?_) (fun h4 => ?_)
        · exact absurd (by decide) h4
        · refine v_iload C0 (pc' := 64) 0 rfl dX0_changesOver_62 rfl ?_
          refine v_if_eq C0 83 (pc' := 67) dX0_changesOver_64 (by decide) rfl (fun h5 => ?_) (fun h5 => ?_)
          · refine v_aload_n C0 (pc' := 84) 3 rfl rfl dX0_changesOver_83 rfl ?_
            refine v_iload_n C0 (pc' := 85) 4 rfl rfl dX0_changesOver_84 rfl ?_
            refine v_iload_n C0 (pc' := 86) 5 rfl rfl dX0_changesOver_85 rfl ?_
            refine v_callVi0 C0 (av := [.int slot, .int lane]) (rest := []) (ws' := wX cI ad U T F C B RU RC WU ST RP RN WT SM CC TR) (pc' := 89) hK hA (k_X0_isTagged l D cI ad U T F C B RU RC WU ST RP RN WT SM CC TR slot lane) (cwV 2 C0.2.2.2.2 gX0_changesOver_X0_isTagged rfl rfl rfl (by decide +kernel) ⟨Nat.le_of_ble_eq_true rfl, Nat.le_of_ble_eq_true rfl⟩) ⟨0, 0, _, _, _, rfl, rfl⟩ PLs.all rfl rfl (Nat.le_of_ble_eq_true rfl) ⟨Nat.zero_le _, Nat.zero_le _⟩ dX0_changesOver_86 rfl ?_
            refine v_if_eq C0 96 (pc' := 92) dX0_changesOver_89 (by decide) rfl (fun h6 => ?_) (fun h6 => ?_)
            · refine v_iconst C0 (pc' := 97) 1 (by decide) dX0_changesOver_96 rfl ?_
              refine v_aload_n C0 (pc' := 98) 3 rfl rfl dX0_changesOver_97 rfl ?_
              refine v_iload_n C0 (pc' := 99) 2 rfl rfl dX0_changesOver_98 rfl ?_
              refine v_iload_n C0 (pc' := 100) 5 rfl rfl dX0_changesOver_99 rfl ?_
              refine v_callVi0 C0 (av := [.int (xAt 36 F slot), .int lane]) (rest := [.int 1]) (ws' := wX cI ad U T F C B RU RC WU ST RP RN WT SM CC TR) (pc' := 103) hK hA (k_X0_isTagged l D cI ad U T F C B RU RC WU ST RP RN WT SM CC TR (xAt 36 F slot) lane) (cwV 2 C0.2.2.2.2 gX0_changesOver_X0_isTagged rfl rfl rfl (by decide +kernel) ⟨Nat.le_of_ble_eq_true rfl, Nat.le_of_ble_eq_true rfl⟩) ⟨0, 0, _, _, _, rfl, rfl⟩ PLs.all rfl rfl (Nat.le_of_ble_eq_true rfl) ⟨Nat.zero_le _, Nat.zero_le _⟩ dX0_changesOver_100 rfl ?_
              refine v_if_eq C0 110 (pc' := 106) dX0_changesOver_103 (by decide) rfl (fun h7 => ?_) (fun h7 => ?_)
              · refine v_iconst C0 (pc' := 111) 1 (by decide) dX0_changesOver_110 rfl ?_
                refine v_iadd C0 (pc' := 112) dX0_changesOver_111 rfl ?_
                exact v_iret C0 hr hlk hK (by simp only [s_X0_changesOver, if_neg h1, if_neg h2, if_neg h3, if_pos h6, if_pos h7]) dX0_changesOver_112
              · refine v_iconst C0 (pc' := 107) 0 (by decide) dX0_changesOver_106 rfl ?_
                refine v_goto C0 111 dX0_changesOver_107 (by decide) ?_
                refine v_iadd C0 (pc' := 112) dX0_changesOver_111 rfl ?_
                exact v_iret C0 hr hlk hK (by simp only [s_X0_changesOver, if_neg h1, if_neg h2, if_neg h3, if_pos h6, if_neg h7]) dX0_changesOver_112
            · refine v_iconst C0 (pc' := 93) 0 (by decide) dX0_changesOver_92 rfl ?_
              refine v_goto C0 97 dX0_changesOver_93 (by decide) ?_
              refine v_aload_n C0 (pc' := 98) 3 rfl rfl dX0_changesOver_97 rfl ?_
              refine v_iload_n C0 (pc' := 99) 2 rfl rfl dX0_changesOver_98 rfl ?_
              refine v_iload_n C0 (pc' := 100) 5 rfl rfl dX0_changesOver_99 rfl ?_
              refine v_callVi0 C0 (av := [.int (xAt 36 F slot), .int lane]) (rest := [.int 0]) (ws' := wX cI ad U T F C B RU RC WU ST RP RN WT SM CC TR) (pc' := 103) hK hA (k_X0_isTagged l D cI ad U T F C B RU RC WU ST RP RN WT SM CC TR (xAt 36 F slot) lane) (cwV 2 C0.2.2.2.2 gX0_changesOver_X0_isTagged rfl rfl rfl (by decide +kernel) ⟨Nat.le_of_ble_eq_true rfl, Nat.le_of_ble_eq_true rfl⟩) ⟨0, 0, _, _, _, rfl, rfl⟩ PLs.all rfl rfl (Nat.le_of_ble_eq_true rfl) ⟨Nat.zero_le _, Nat.zero_le _⟩ dX0_changesOver_100 rfl ?_
              refine v_if_eq C0 110 (pc' := 106) dX0_changesOver_103 (by decide) rfl (fun h8 => ?_) (fun h8 => ?_)
              · refine v_iconst C0 (pc' := 111) 1 (by decide) dX0_changesOver_110 rfl ?_
                refine v_iadd C0 (pc' := 112) dX0_changesOver_111 rfl ?_
                exact v_iret C0 hr hlk hK (by simp only [s_X0_changesOver, if_neg h1, if_neg h2, if_neg h3, if_neg h6, if_pos h8]) dX0_changesOver_112
              · refine v_iconst C0 (pc' := 107) 0 (by decide) dX0_changesOver_106 rfl ?_
                refine v_goto C0 111 dX0_changesOver_107 (by decide) ?_
                refine v_iadd C0 (pc' := 112) dX0_changesOver_111 rfl ?_
                exact v_iret C0 hr hlk hK (by simp only [s_X0_changesOver, if_neg h1, if_neg h2, if_neg h3, if_neg h6, if_neg h8]) dX0_changesOver_112
          · exact absurd (by decide) h5
      · refine v_iconst C0 (pc' := 51) 1 (by decide) dX0_changesOver_50 rfl ?_
        refine v_goto C0 55 dX0_changesOver_51 (by decide) ?_
        refine v_istore C0 (lv' := [(5, .int 1), (4, .int 0), (3, .int (xAt 36 F slot)), (0, .ref (ad 0)), (1, .int slot), (2, .int lane)]) (pc' := 57) (by decide) rfl dX0_changesOver_55 rfl ?_
        refine v_iload C0 (pc' := 59) 1 rfl dX0_changesOver_57 rfl ?_
        refine v_if_ne C0 67 (pc' := 62) dX0_changesOver_59 (by decide) rfl (fun h9 => ?_) (fun h9 => ?_)
        · exact absurd (by decide) h9
        · refine v_iload C0 (pc' := 64) 0 rfl dX0_changesOver_62 rfl ?_
          refine v_if_eq C0 83 (pc' := 67) dX0_changesOver_64 (by decide) rfl (fun h10 => ?_) (fun h10 => ?_)
          · exact absurd h10 (by decide)
          · refine v_iload C0 (pc' := 69) 1 rfl dX0_changesOver_67 rfl ?_
            refine v_if_eq C0 81 (pc' := 72) dX0_changesOver_69 (by decide) rfl (fun h11 => ?_) (fun h11 => ?_)
            · refine v_iconst C0 (pc' := 82) (-1) (by decide) dX0_changesOver_81 rfl ?_
              exact v_iret C0 hr hlk hK (by simp only [s_X0_changesOver, if_neg h1, if_neg h2, if_pos h3]) dX0_changesOver_82
            · exact absurd (by decide) h11
    · refine v_iconst C0 (pc' := 32) 1 (by decide) dX0_changesOver_31 rfl ?_
      refine v_goto C0 36 dX0_changesOver_32 (by decide) ?_
      refine v_istore C0 (lv' := [(4, .int 1), (3, .int (xAt 36 F slot)), (0, .ref (ad 0)), (1, .int slot), (2, .int lane)]) (pc' := 38) (by decide) rfl dX0_changesOver_36 rfl ?_
      refine v_aload_n C0 (pc' := 39) 2 rfl rfl dX0_changesOver_38 rfl ?_
      refine v_get C0 hK (C := RX0) (T := TX0) (N := 15) (pc' := 42) 0 0 rfl rfl rfl (by decide) in_X0_changesOver fl_X0_changesOver_9 rfl dX0_changesOver_39 rfl ?_
      refine v_iload_n C0 (pc' := 43) 1 rfl rfl dX0_changesOver_42 rfl ?_
      refine v_callSi0 C0 (av := [.ref (ad 1), .int (xAt 36 F slot)]) (rest := []) (ws' := wX cI ad U T F C B RU RC WU ST RP RN WT SM CC TR) (pc' := 46) hK hA (k_X0_at l D cI (ad 1) 36 U (xAt 36 F slot) (by decide)) (va_cwS 2 C0.2.2.2.2 gX0_changesOver_X0_at rfl rfl rfl (by decide +kernel) ⟨Nat.le_of_ble_eq_true rfl, Nat.le_of_ble_eq_true rfl⟩) (PLs.one0 1 rfl) rfl rfl (Nat.le_of_ble_eq_true rfl) ⟨Nat.zero_le _, Nat.zero_le _⟩ dX0_changesOver_43 rfl ?_
      refine v_iload_n C0 (pc' := 47) 4 rfl rfl dX0_changesOver_46 rfl ?_
      refine v_icmp_ne C0 54 (pc' := 50) dX0_changesOver_47 (by decide) rfl (fun h12 => ?_) (fun h12 => ?_)
      · refine v_iconst C0 (pc' := 55) 0 (by decide) dX0_changesOver_54 rfl ?_
        refine v_istore C0 (lv' := [(5, .int 0), (4, .int 1), (3, .int (xAt 36 F slot)), (0, .ref (ad 0)), (1, .int slot), (2, .int lane)]) (pc' := 57) (by decide) rfl dX0_changesOver_55 rfl ?_
        refine v_iload C0 (pc' := 59) 1 rfl dX0_changesOver_57 rfl ?_
        refine v_if_ne C0 67 (pc' := 62) dX0_changesOver_59 (by decide) rfl (fun h13 => ?_) (fun h13 => ?_)
        · refine v_iload C0 (pc' := 69) 1 rfl dX0_changesOver_67 rfl ?_
          refine v_if_eq C0 81 (pc' := 72) dX0_changesOver_69 (by decide) rfl (fun h14 => ?_) (fun h14 => ?_)
          · exact absurd h14 (by decide)
          · refine v_iload C0 (pc' := 74) 0 rfl dX0_changesOver_72 rfl ?_
            refine v_if_eq C0 81 (pc' := 77) dX0_changesOver_74 (by decide) rfl (fun h15 => ?_) (fun h15 => ?_)
            · refine v_iconst C0 (pc' := 82) (-1) (by decide) dX0_changesOver_81 rfl ?_
              exact v_iret C0 hr hlk hK (by simp only [s_X0_changesOver, if_neg h1, if_pos h2, if_neg h12]) dX0_changesOver_82
            · exact absurd (by decide) h15
        · exact absurd h13 (by decide)
      · refine v_iconst C0 (pc' := 51) 1 (by decide) dX0_changesOver_50 rfl ?_
        refine v_goto C0 55 dX0_changesOver_51 (by decide) ?_
        refine v_istore C0 (lv' := [(5, .int 1), (4, .int 1), (3, .int (xAt 36 F slot)), (0, .ref (ad 0)), (1, .int slot), (2, .int lane)]) (pc' := 57) (by decide) rfl dX0_changesOver_55 rfl ?_
        refine v_iload C0 (pc' := 59) 1 rfl dX0_changesOver_57 rfl ?_
        refine v_if_ne C0 67 (pc' := 62) dX0_changesOver_59 (by decide) rfl (fun h16 => ?_) (fun h16 => ?_)
        · refine v_iload C0 (pc' := 69) 1 rfl dX0_changesOver_67 rfl ?_
          refine v_if_eq C0 81 (pc' := 72) dX0_changesOver_69 (by decide) rfl (fun h17 => ?_) (fun h17 => ?_)
          · exact absurd h17 (by decide)
          · refine v_iload C0 (pc' := 74) 0 rfl dX0_changesOver_72 rfl ?_
            refine v_if_eq C0 81 (pc' := 77) dX0_changesOver_74 (by decide) rfl (fun h18 => ?_) (fun h18 => ?_)
            · exact absurd h18 (by decide)
            · refine v_iconst C0 (pc' := 78) 0 (by decide) dX0_changesOver_77 rfl ?_
              refine v_goto C0 82 dX0_changesOver_78 (by decide) ?_
              exact v_iret C0 hr hlk hK (by simp only [s_X0_changesOver, if_neg h1, if_pos h2, if_pos h12]) dX0_changesOver_82
        · exact absurd h16 (by decide)
  · refine v_iconst C0 (pc' := 9) (-1) (by decide) dX0_changesOver_8 rfl ?_
    exact v_iret C0 hr hlk hK (by simp only [s_X0_changesOver, if_pos h1]) dX0_changesOver_9
